-- ===== PART A: goes FIRST, ahead of the names: the tables' words, and 'selects' of the private methods out of them =====
/-- a private method of a class that the tables say can be made, by its rows of tables_1 -/
def lw_okq (q : MethodName × Nat) : Prop := (q.1.cls ≠ "java/lang/invoke/MethodHandle" ∧ q.1.cls ≠ "java/lang/invoke/VarHandle") ∧ Cond.instantiable q.1.cls q.2 ∈ tables_1 ∧ Cond.privateMethod q.1 ∈ tables_1 ∧ Cond.instanceMethod q.1 ∈ tables_1
theorem lw_p0 : lw_okq (⟨"DarkVats$History", "stateAt", "(I)LDarkVats$House;"⟩, 2) := ⟨⟨by decide +kernel, by decide +kernel⟩, List.mem_of_getElem? (i := 182) (by decide +kernel), List.mem_of_getElem? (i := 292) (by decide +kernel), List.mem_of_getElem? (i := 293) (by decide +kernel)⟩
theorem lw_p1 : lw_okq (⟨"DarkVats$House", "copyVats", "([LDarkVats$Vat;)V"⟩, 10) := ⟨⟨by decide +kernel, by decide +kernel⟩, List.mem_of_getElem? (i := 20) (by decide +kernel), List.mem_of_getElem? (i := 308) (by decide +kernel), List.mem_of_getElem? (i := 309) (by decide +kernel)⟩
theorem lw_p2 : lw_okq (⟨"DarkVats$House", "copyLots", "([LDarkVats$Lot;)V"⟩, 10) := ⟨⟨by decide +kernel, by decide +kernel⟩, List.mem_of_getElem? (i := 20) (by decide +kernel), List.mem_of_getElem? (i := 316) (by decide +kernel), List.mem_of_getElem? (i := 317) (by decide +kernel)⟩
theorem lw_p3 : lw_okq (⟨"DarkVats$House", "copyOrders", "([LDarkVats$Order;)V"⟩, 10) := ⟨⟨by decide +kernel, by decide +kernel⟩, List.mem_of_getElem? (i := 20) (by decide +kernel), List.mem_of_getElem? (i := 325) (by decide +kernel), List.mem_of_getElem? (i := 326) (by decide +kernel)⟩
theorem lw_p4 : lw_okq (⟨"DarkVats$History", "dropOldest", "()V"⟩, 2) := ⟨⟨by decide +kernel, by decide +kernel⟩, List.mem_of_getElem? (i := 182) (by decide +kernel), List.mem_of_getElem? (i := 349) (by decide +kernel), List.mem_of_getElem? (i := 350) (by decide +kernel)⟩
theorem lw_p5 : lw_okq (⟨"DarkVats$Planner", "lotBehind", "(I)LDarkVats$Lot;"⟩, 2) := ⟨⟨by decide +kernel, by decide +kernel⟩, List.mem_of_getElem? (i := 250) (by decide +kernel), List.mem_of_getElem? (i := 670) (by decide +kernel), List.mem_of_getElem? (i := 671) (by decide +kernel)⟩
theorem lw_p6 : lw_okq (⟨"DarkVats$Script", "readWork", "(LDarkVats$Text;)Z"⟩, 8) := ⟨⟨by decide +kernel, by decide +kernel⟩, List.mem_of_getElem? (i := 215) (by decide +kernel), List.mem_of_getElem? (i := 721) (by decide +kernel), List.mem_of_getElem? (i := 722) (by decide +kernel)⟩
theorem lw_p7 : lw_okq (⟨"DarkVats$Script", "readNumber", "(LDarkVats$Text;)I"⟩, 8) := ⟨⟨by decide +kernel, by decide +kernel⟩, List.mem_of_getElem? (i := 215) (by decide +kernel), List.mem_of_getElem? (i := 729) (by decide +kernel), List.mem_of_getElem? (i := 730) (by decide +kernel)⟩
theorem lw_p8 : lw_okq (⟨"DarkVats$Script", "passes", "(LDarkVats$Text;C)Z"⟩, 8) := ⟨⟨by decide +kernel, by decide +kernel⟩, List.mem_of_getElem? (i := 215) (by decide +kernel), List.mem_of_getElem? (i := 736) (by decide +kernel), List.mem_of_getElem? (i := 737) (by decide +kernel)⟩
theorem lw_p9 : lw_okq (⟨"DarkVats$Script", "noteFault", "(III)V"⟩, 8) := ⟨⟨by decide +kernel, by decide +kernel⟩, List.mem_of_getElem? (i := 215) (by decide +kernel), List.mem_of_getElem? (i := 740) (by decide +kernel), List.mem_of_getElem? (i := 741) (by decide +kernel)⟩
def lw_privs_1 : List (MethodName × Nat) := [(⟨"DarkVats$History", "stateAt", "(I)LDarkVats$House;"⟩, 2), (⟨"DarkVats$House", "copyVats", "([LDarkVats$Vat;)V"⟩, 10), (⟨"DarkVats$House", "copyLots", "([LDarkVats$Lot;)V"⟩, 10), (⟨"DarkVats$House", "copyOrders", "([LDarkVats$Order;)V"⟩, 10), (⟨"DarkVats$History", "dropOldest", "()V"⟩, 2), (⟨"DarkVats$Planner", "lotBehind", "(I)LDarkVats$Lot;"⟩, 2), (⟨"DarkVats$Script", "readWork", "(LDarkVats$Text;)Z"⟩, 8), (⟨"DarkVats$Script", "readNumber", "(LDarkVats$Text;)I"⟩, 8), (⟨"DarkVats$Script", "passes", "(LDarkVats$Text;C)Z"⟩, 8), (⟨"DarkVats$Script", "noteFault", "(III)V"⟩, 8)]
theorem lw_r1 : ∀ q ∈ lw_privs_1, lw_okq q := List.forall_mem_cons.mpr ⟨lw_p0, List.forall_mem_cons.mpr ⟨lw_p1, List.forall_mem_cons.mpr ⟨lw_p2, List.forall_mem_cons.mpr ⟨lw_p3, List.forall_mem_cons.mpr ⟨lw_p4, List.forall_mem_cons.mpr ⟨lw_p5, List.forall_mem_cons.mpr ⟨lw_p6, List.forall_mem_cons.mpr ⟨lw_p7, List.forall_mem_cons.mpr ⟨lw_p8, List.forall_mem_cons.mpr ⟨lw_p9, fun _ h => absurd h List.not_mem_nil⟩⟩⟩⟩⟩⟩⟩⟩⟩⟩
def lw_privs : List (MethodName × Nat) := lw_privs_1
def lw_tbl : List Cond := k2_sels lw_privs ++ tables_1
theorem lw_privs_ok : ∀ q ∈ lw_privs, lw_okq q := lw_r1
/-- the streams that the claim lets the run draw from -/
abbrev lw_cs : List Choice := [Jvm.Choice.named "NaN.bits"]
theorem lw_bits : nanBits ∈ lw_cs := by first | decide | exact List.mem_cons_self | simp [lw_cs, nanBits]

def RX0 : String := "DarkVats$History"
def TX0 : u_T := fun k => match k with
  | 0 => ("DarkVats$History", "states", "[LDarkVats$House;", true)
  | _ => ("DarkVats$History", "size", "I", false)
def tyX0 : Nat → FieldType := fun k => match k with
  | 0 => .array (.object "DarkVats$House")
  | _ => .int
theorem nmX0 : ∀ a, a < 2 → ∀ b, b < 2 → a ≠ b → (TX0 a).2.1 ≠ (TX0 b).2.1 := by decide +kernel
theorem tyX0_ok : ∀ k, k < 2 → parseFieldDescriptor (TX0 k).2.2.1 = some (tyX0 k) := by decide +kernel
abbrev cX0_init : ByteArray := prog_2_method_1_code
def yX0_init : MethodName := ⟨RX0, "<init>", "()V"⟩
abbrev cX0_stateAt : ByteArray := prog_2_method_2_code
def yX0_stateAt : MethodName := ⟨RX0, "stateAt", "(I)LDarkVats$House;"⟩
abbrev cX0_noteState : ByteArray := prog_2_method_3_code
def yX0_noteState : MethodName := ⟨RX0, "noteState", "(LDarkVats$House;)V"⟩
abbrev cX0_keepNoted : ByteArray := prog_2_method_4_code
def yX0_keepNoted : MethodName := ⟨RX0, "keepNoted", "(I)I"⟩
abbrev cX0_dropOldest : ByteArray := prog_2_method_5_code
def yX0_dropOldest : MethodName := ⟨RX0, "dropOldest", "()V"⟩
abbrev cX0_stepBack : ByteArray := prog_2_method_6_code
def yX0_stepBack : MethodName := ⟨RX0, "stepBack", "(LDarkVats$House;)I"⟩
def RX1 : String := "DarkVats$House"
def TX1 : u_T := fun k => match k with
  | 0 => ("DarkVats$House", "vats", "[LDarkVats$Vat;", true)
  | 1 => ("DarkVats$House", "lots", "[LDarkVats$Lot;", true)
  | 2 => ("DarkVats$House", "orders", "[LDarkVats$Order;", true)
  | 3 => ("DarkVats$House", "vatCount", "I", false)
  | 4 => ("DarkVats$House", "lotCount", "I", false)
  | 5 => ("DarkVats$House", "orderCount", "I", false)
  | 6 => ("DarkVats$House", "dips", "I", false)
  | 7 => ("DarkVats$House", "weighed", "[I", true)
  | 8 => ("DarkVats$House", "waste", "[I", true)
  | _ => ("DarkVats$House", "settings", "LDarkVats$Settings;", true)
def tyX1 : Nat → FieldType := fun k => match k with
  | 0 => .array (.object "DarkVats$Vat")
  | 1 => .array (.object "DarkVats$Lot")
  | 2 => .array (.object "DarkVats$Order")
  | 3 => .int
  | 4 => .int
  | 5 => .int
  | 6 => .int
  | 7 => .array .int
  | 8 => .array .int
  | _ => .object "DarkVats$Settings"
theorem nmX1 : ∀ a, a < 10 → ∀ b, b < 10 → a ≠ b → (TX1 a).2.1 ≠ (TX1 b).2.1 := by decide +kernel
theorem tyX1_ok : ∀ k, k < 10 → parseFieldDescriptor (TX1 k).2.2.1 = some (tyX1 k) := by decide +kernel
abbrev cX1_init : ByteArray := prog_3_method_1_code
def yX1_init : MethodName := ⟨RX1, "<init>", "()V"⟩
abbrev cX1_copyFrom : ByteArray := prog_3_method_2_code
def yX1_copyFrom : MethodName := ⟨RX1, "copyFrom", "(LDarkVats$House;)V"⟩
abbrev cX1_copyVats : ByteArray := prog_3_method_3_code
def yX1_copyVats : MethodName := ⟨RX1, "copyVats", "([LDarkVats$Vat;)V"⟩
abbrev cX1_copyLots : ByteArray := prog_3_method_4_code
def yX1_copyLots : MethodName := ⟨RX1, "copyLots", "([LDarkVats$Lot;)V"⟩
abbrev cX1_copyOrders : ByteArray := prog_3_method_5_code
def yX1_copyOrders : MethodName := ⟨RX1, "copyOrders", "([LDarkVats$Order;)V"⟩
abbrev cX1_findVat : ByteArray := prog_3_method_6_code
def yX1_findVat : MethodName := ⟨RX1, "findVat", "(I)LDarkVats$Vat;"⟩
abbrev cX1_findLot : ByteArray := prog_3_method_7_code
def yX1_findLot : MethodName := ⟨RX1, "findLot", "(I)LDarkVats$Lot;"⟩
abbrev cX1_findOrder : ByteArray := prog_3_method_8_code
def yX1_findOrder : MethodName := ⟨RX1, "findOrder", "(I)LDarkVats$Order;"⟩
abbrev cX1_addVat : ByteArray := prog_3_method_9_code
def yX1_addVat : MethodName := ⟨RX1, "addVat", "(II)I"⟩
abbrev cX1_weighInto : ByteArray := prog_3_method_10_code
def yX1_weighInto : MethodName := ⟨RX1, "weighInto", "(II)I"⟩
abbrev cX1_drainVat : ByteArray := prog_3_method_11_code
def yX1_drainVat : MethodName := ⟨RX1, "drainVat", "(I)I"⟩
abbrev cX1_addLot : ByteArray := prog_3_method_12_code
def yX1_addLot : MethodName := ⟨RX1, "addLot", "(II)I"⟩
abbrev cX1_dipLot : ByteArray := prog_3_method_13_code
def yX1_dipLot : MethodName := ⟨RX1, "dipLot", "(II)I"⟩
abbrev cX1_rinseLot : ByteArray := prog_3_method_14_code
def yX1_rinseLot : MethodName := ⟨RX1, "rinseLot", "(I)I"⟩
abbrev cX1_hangLot : ByteArray := prog_3_method_15_code
def yX1_hangLot : MethodName := ⟨RX1, "hangLot", "(II)I"⟩
abbrev cX1_takeDown : ByteArray := prog_3_method_16_code
def yX1_takeDown : MethodName := ⟨RX1, "takeDown", "(I)I"⟩
abbrev cX1_addOrder : ByteArray := prog_3_method_17_code
def yX1_addOrder : MethodName := ⟨RX1, "addOrder", "(IIII)I"⟩
abbrev cX1_isAskable : ByteArray := prog_3_method_18_code
def yX1_isAskable : MethodName := ⟨RX1, "isAskable", "(I)Z"⟩
abbrev cX1_sellLot : ByteArray := prog_3_method_19_code
def yX1_sellLot : MethodName := ⟨RX1, "sellLot", "(II)I"⟩
abbrev cX1_doWork : ByteArray := prog_3_method_20_code
def yX1_doWork : MethodName := ⟨RX1, "doWork", "(CII)I"⟩
abbrev cX1_vatsAheadOf : ByteArray := prog_3_method_21_code
def yX1_vatsAheadOf : MethodName := ⟨RX1, "vatsAheadOf", "(I)I"⟩
abbrev cX1_lotsOnRack : ByteArray := prog_3_method_22_code
def yX1_lotsOnRack : MethodName := ⟨RX1, "lotsOnRack", "(I)I"⟩
abbrev cX1_openOrders : ByteArray := prog_3_method_23_code
def yX1_openOrders : MethodName := ⟨RX1, "openOrders", "()I"⟩
abbrev cX1_lotsThatFit : ByteArray := prog_3_method_24_code
def yX1_lotsThatFit : MethodName := ⟨RX1, "lotsThatFit", "(LDarkVats$Order;)I"⟩
abbrev cX1_nearestLot : ByteArray := prog_3_method_25_code
def yX1_nearestLot : MethodName := ⟨RX1, "nearestLot", "(LDarkVats$Order;)I"⟩
abbrev cX1_lotsNotFarAbove : ByteArray := prog_3_method_26_code
def yX1_lotsNotFarAbove : MethodName := ⟨RX1, "lotsNotFarAbove", "(II)I"⟩
abbrev cX1_lotsCounted : ByteArray := prog_3_method_27_code
def yX1_lotsCounted : MethodName := ⟨RX1, "lotsCounted", "(I)I"⟩
abbrev cX1_isCounted : ByteArray := prog_3_method_28_code
def yX1_isCounted : MethodName := ⟨RX1, "isCounted", "(LDarkVats$Lot;I)Z"⟩
abbrev cX1_grainsInVats : ByteArray := prog_3_method_29_code
def yX1_grainsInVats : MethodName := ⟨RX1, "grainsInVats", "(I)I"⟩
abbrev cX1_fixedInHouse : ByteArray := prog_3_method_30_code
def yX1_fixedInHouse : MethodName := ⟨RX1, "fixedInHouse", "(I)I"⟩
abbrev cX1_looseInHouse : ByteArray := prog_3_method_31_code
def yX1_looseInHouse : MethodName := ⟨RX1, "looseInHouse", "(I)I"⟩
abbrev cX1_grainsSold : ByteArray := prog_3_method_32_code
def yX1_grainsSold : MethodName := ⟨RX1, "grainsSold", "(I)I"⟩
def RX2 : String := "DarkVats$Lot"
def TX2 : u_T := fun k => match k with
  | 0 => ("DarkVats$Lot", "cloth", "I", false)
  | 1 => ("DarkVats$Lot", "weight", "I", false)
  | 2 => ("DarkVats$Lot", "hangs", "Z", false)
  | 3 => ("DarkVats$Lot", "spoiled", "Z", false)
  | 4 => ("DarkVats$Lot", "dark", "Z", false)
  | 5 => ("DarkVats$Lot", "soldFor", "I", false)
  | 6 => ("DarkVats$Lot", "dips", "I", false)
  | 7 => ("DarkVats$Lot", "fixed", "[I", true)
  | _ => ("DarkVats$Lot", "loose", "[I", true)
def tyX2 : Nat → FieldType := fun k => match k with
  | 0 => .int
  | 1 => .int
  | 2 => .boolean
  | 3 => .boolean
  | 4 => .boolean
  | 5 => .int
  | 6 => .int
  | 7 => .array .int
  | _ => .array .int
theorem nmX2 : ∀ a, a < 9 → ∀ b, b < 9 → a ≠ b → (TX2 a).2.1 ≠ (TX2 b).2.1 := by decide +kernel
theorem tyX2_ok : ∀ k, k < 9 → parseFieldDescriptor (TX2 k).2.2.1 = some (tyX2 k) := by decide +kernel
abbrev cX2_init : ByteArray := prog_4_method_1_code
def yX2_init : MethodName := ⟨RX2, "<init>", "()V"⟩
abbrev cX2_copyFrom : ByteArray := prog_4_method_2_code
def yX2_copyFrom : MethodName := ⟨RX2, "copyFrom", "(LDarkVats$Lot;)V"⟩
abbrev cX2_isSold : ByteArray := prog_4_method_3_code
def yX2_isSold : MethodName := ⟨RX2, "isSold", "()Z"⟩
abbrev cX2_grainsOf : ByteArray := prog_4_method_4_code
def yX2_grainsOf : MethodName := ⟨RX2, "grainsOf", "(I)I"⟩
abbrev cX2_shadeOf : ByteArray := prog_4_method_5_code
def yX2_shadeOf : MethodName := ⟨RX2, "shadeOf", "(I)I"⟩
abbrev cX2_depth : ByteArray := prog_4_method_6_code
def yX2_depth : MethodName := ⟨RX2, "depth", "()I"⟩
abbrev cX2_floatShade : ByteArray := prog_4_method_7_code
def yX2_floatShade : MethodName := ⟨RX2, "floatShade", "(I)F"⟩
abbrev cX2_grainsTaken : ByteArray := prog_4_method_8_code
def yX2_grainsTaken : MethodName := ⟨RX2, "grainsTaken", "(IILDarkVats$Settings;)I"⟩
abbrev cX2_soakIn : ByteArray := prog_4_method_9_code
def yX2_soakIn : MethodName := ⟨RX2, "soakIn", "(LDarkVats$Vat;LDarkVats$Settings;)I"⟩
def RX3 : String := "DarkVats$Order"
def TX3 : u_T := fun k => match k with
  | 0 => ("DarkVats$Order", "shades", "[I", true)
  | _ => ("DarkVats$Order", "served", "Z", false)
def tyX3 : Nat → FieldType := fun k => match k with
  | 0 => .array .int
  | _ => .boolean
theorem nmX3 : ∀ a, a < 2 → ∀ b, b < 2 → a ≠ b → (TX3 a).2.1 ≠ (TX3 b).2.1 := by decide +kernel
theorem tyX3_ok : ∀ k, k < 2 → parseFieldDescriptor (TX3 k).2.2.1 = some (tyX3 k) := by decide +kernel
abbrev cX3_init : ByteArray := prog_5_method_1_code
def yX3_init : MethodName := ⟨RX3, "<init>", "()V"⟩
abbrev cX3_copyFrom : ByteArray := prog_5_method_2_code
def yX3_copyFrom : MethodName := ⟨RX3, "copyFrom", "(LDarkVats$Order;)V"⟩
abbrev cX3_ask : ByteArray := prog_5_method_3_code
def yX3_ask : MethodName := ⟨RX3, "ask", "(IIII)V"⟩
abbrev cX3_shadeFor : ByteArray := prog_5_method_4_code
def yX3_shadeFor : MethodName := ⟨RX3, "shadeFor", "(I)I"⟩
abbrev cX3_isFittedBy : ByteArray := prog_5_method_5_code
def yX3_isFittedBy : MethodName := ⟨RX3, "isFittedBy", "(LDarkVats$Lot;LDarkVats$Settings;)Z"⟩
abbrev cX3_distanceTo : ByteArray := prog_5_method_6_code
def yX3_distanceTo : MethodName := ⟨RX3, "distanceTo", "(LDarkVats$Lot;)I"⟩
def RX4 : String := "DarkVats$Planner"
def TX4 : u_T := fun k => match k with
  | 0 => ("DarkVats$Planner", "dipped", "[LDarkVats$Lot;", true)
  | _ => ("DarkVats$Planner", "path", "[I", true)
def tyX4 : Nat → FieldType := fun k => match k with
  | 0 => .array (.object "DarkVats$Lot")
  | _ => .array .int
theorem nmX4 : ∀ a, a < 2 → ∀ b, b < 2 → a ≠ b → (TX4 a).2.1 ≠ (TX4 b).2.1 := by decide +kernel
theorem tyX4_ok : ∀ k, k < 2 → parseFieldDescriptor (TX4 k).2.2.1 = some (tyX4 k) := by decide +kernel
abbrev cX4_init : ByteArray := prog_6_method_1_code
def yX4_init : MethodName := ⟨RX4, "<init>", "()V"⟩
abbrev cX4_vatOfDip : ByteArray := prog_6_method_2_code
def yX4_vatOfDip : MethodName := ⟨RX4, "vatOfDip", "(I)I"⟩
abbrev cX4_lotBehind : ByteArray := prog_6_method_3_code
def yX4_lotBehind : MethodName := ⟨RX4, "lotBehind", "(I)LDarkVats$Lot;"⟩
abbrev cX4_findPlan : ByteArray := prog_6_method_4_code
def yX4_findPlan : MethodName := ⟨RX4, "findPlan", "(LDarkVats$House;LDarkVats$Lot;LDarkVats$Order;)I"⟩
abbrev cX4_isReached : ByteArray := prog_6_method_5_code
def yX4_isReached : MethodName := ⟨RX4, "isReached", "(LDarkVats$Planner;LDarkVats$House;LDarkVats$Order;II)Z"⟩
def RX5 : String := "DarkVats$Script"
def TX5 : u_T := fun k => match k with
  | 0 => ("DarkVats$Script", "worksDone", "I", false)
  | 1 => ("DarkVats$Script", "faultPlace", "I", false)
  | 2 => ("DarkVats$Script", "faultReason", "I", false)
  | 3 => ("DarkVats$Script", "faultCause", "I", false)
  | 4 => ("DarkVats$Script", "place", "I", false)
  | 5 => ("DarkVats$Script", "kind", "C", false)
  | 6 => ("DarkVats$Script", "first", "I", false)
  | _ => ("DarkVats$Script", "second", "I", false)
def tyX5 : Nat → FieldType := fun k => match k with
  | 0 => .int
  | 1 => .int
  | 2 => .int
  | 3 => .int
  | 4 => .int
  | 5 => .char
  | 6 => .int
  | _ => .int
theorem nmX5 : ∀ a, a < 8 → ∀ b, b < 8 → a ≠ b → (TX5 a).2.1 ≠ (TX5 b).2.1 := by decide +kernel
theorem tyX5_ok : ∀ k, k < 8 → parseFieldDescriptor (TX5 k).2.2.1 = some (tyX5 k) := by decide +kernel
abbrev cX5_init : ByteArray := prog_7_method_1_code
def yX5_init : MethodName := ⟨RX5, "<init>", "()V"⟩
abbrev cX5_hasFault : ByteArray := prog_7_method_2_code
def yX5_hasFault : MethodName := ⟨RX5, "hasFault", "()Z"⟩
abbrev cX5_doAll : ByteArray := prog_7_method_3_code
def yX5_doAll : MethodName := ⟨RX5, "doAll", "(LDarkVats$Text;LDarkVats$House;)V"⟩
abbrev cX5_noteFault : ByteArray := prog_7_method_4_code
def yX5_noteFault : MethodName := ⟨RX5, "noteFault", "(III)V"⟩
abbrev cX5_readWork : ByteArray := prog_7_method_5_code
def yX5_readWork : MethodName := ⟨RX5, "readWork", "(LDarkVats$Text;)Z"⟩
abbrev cX5_readNumber : ByteArray := prog_7_method_6_code
def yX5_readNumber : MethodName := ⟨RX5, "readNumber", "(LDarkVats$Text;)I"⟩
abbrev cX5_digitOf : ByteArray := prog_7_method_7_code
def yX5_digitOf : MethodName := ⟨RX5, "digitOf", "(C)I"⟩
abbrev cX5_passes : ByteArray := prog_7_method_8_code
def yX5_passes : MethodName := ⟨RX5, "passes", "(LDarkVats$Text;C)Z"⟩
def RX6 : String := "DarkVats$Settings"
def TX6 : u_T := fun k => match k with
  | _ => ("DarkVats$Settings", "values", "[I", true)
def tyX6 : Nat → FieldType := fun k => match k with
  | _ => .array .int
theorem nmX6 : ∀ a, a < 1 → ∀ b, b < 1 → a ≠ b → (TX6 a).2.1 ≠ (TX6 b).2.1 := by decide +kernel
theorem tyX6_ok : ∀ k, k < 1 → parseFieldDescriptor (TX6 k).2.2.1 = some (tyX6 k) := by decide +kernel
abbrev cX6_init : ByteArray := prog_8_method_1_code
def yX6_init : MethodName := ⟨RX6, "<init>", "()V"⟩
abbrev cX6_exists : ByteArray := prog_8_method_2_code
def yX6_exists : MethodName := ⟨RX6, "exists", "(I)Z"⟩
abbrev cX6_valueOf : ByteArray := prog_8_method_3_code
def yX6_valueOf : MethodName := ⟨RX6, "valueOf", "(I)I"⟩
abbrev cX6_copyFrom : ByteArray := prog_8_method_4_code
def yX6_copyFrom : MethodName := ⟨RX6, "copyFrom", "(LDarkVats$Settings;)V"⟩
abbrev cX6_change : ByteArray := prog_8_method_5_code
def yX6_change : MethodName := ⟨RX6, "change", "(II)I"⟩
def RX7 : String := "DarkVats$Text"
def TX7 : u_T := fun k => match k with
  | 0 => ("DarkVats$Text", "signs", "[C", true)
  | _ => ("DarkVats$Text", "length", "I", false)
def tyX7 : Nat → FieldType := fun k => match k with
  | 0 => .array .char
  | _ => .int
theorem nmX7 : ∀ a, a < 2 → ∀ b, b < 2 → a ≠ b → (TX7 a).2.1 ≠ (TX7 b).2.1 := by decide +kernel
theorem tyX7_ok : ∀ k, k < 2 → parseFieldDescriptor (TX7 k).2.2.1 = some (tyX7 k) := by decide +kernel
abbrev cX7_init : ByteArray := prog_9_method_1_code
def yX7_init : MethodName := ⟨RX7, "<init>", "()V"⟩
abbrev cX7_append : ByteArray := prog_9_method_2_code
def yX7_append : MethodName := ⟨RX7, "append", "(I)I"⟩
abbrev cX7_makeEmpty : ByteArray := prog_9_method_3_code
def yX7_makeEmpty : MethodName := ⟨RX7, "makeEmpty", "()I"⟩
abbrev cX7_signAt : ByteArray := prog_9_method_4_code
def yX7_signAt : MethodName := ⟨RX7, "signAt", "(I)C"⟩
def RX8 : String := "DarkVats$Vat"
def TX8 : u_T := fun k => match k with
  | 0 => ("DarkVats$Vat", "dye", "I", false)
  | 1 => ("DarkVats$Vat", "litres", "I", false)
  | 2 => ("DarkVats$Vat", "grains", "I", false)
  | _ => ("DarkVats$Vat", "dirt", "I", false)
def tyX8 : Nat → FieldType := fun k => match k with
  | 0 => .int
  | 1 => .int
  | 2 => .int
  | _ => .int
theorem nmX8 : ∀ a, a < 4 → ∀ b, b < 4 → a ≠ b → (TX8 a).2.1 ≠ (TX8 b).2.1 := by decide +kernel
theorem tyX8_ok : ∀ k, k < 4 → parseFieldDescriptor (TX8 k).2.2.1 = some (tyX8 k) := by decide +kernel
abbrev cX8_init : ByteArray := prog_10_method_1_code
def yX8_init : MethodName := ⟨RX8, "<init>", "()V"⟩
abbrev cX8_copyFrom : ByteArray := prog_10_method_2_code
def yX8_copyFrom : MethodName := ⟨RX8, "copyFrom", "(LDarkVats$Vat;)V"⟩
abbrev cX8_strength : ByteArray := prog_10_method_3_code
def yX8_strength : MethodName := ⟨RX8, "strength", "()I"⟩
abbrev cX8_spoils : ByteArray := prog_10_method_4_code
def yX8_spoils : MethodName := ⟨RX8, "spoils", "(LDarkVats$Settings;)Z"⟩
abbrev cX8_isAheadOfLater : ByteArray := prog_10_method_5_code
def yX8_isAheadOfLater : MethodName := ⟨RX8, "isAheadOfLater", "(LDarkVats$Vat;)Z"⟩
def RX9 : String := "DarkVats"
def TX9 : u_T := fun k => match k with
  | 0 => ("DarkVats", "house", "LDarkVats$House;", true)
  | 1 => ("DarkVats", "trial", "LDarkVats$House;", true)
  | 2 => ("DarkVats", "history", "LDarkVats$History;", true)
  | 3 => ("DarkVats", "text", "LDarkVats$Text;", true)
  | 4 => ("DarkVats", "script", "LDarkVats$Script;", true)
  | _ => ("DarkVats", "planner", "LDarkVats$Planner;", true)
def tyX9 : Nat → FieldType := fun k => match k with
  | 0 => .object "DarkVats$House"
  | 1 => .object "DarkVats$House"
  | 2 => .object "DarkVats$History"
  | 3 => .object "DarkVats$Text"
  | 4 => .object "DarkVats$Script"
  | _ => .object "DarkVats$Planner"
theorem nmX9 : ∀ a, a < 6 → ∀ b, b < 6 → a ≠ b → (TX9 a).2.1 ≠ (TX9 b).2.1 := by decide +kernel
theorem tyX9_ok : ∀ k, k < 6 → parseFieldDescriptor (TX9 k).2.2.1 = some (tyX9 k) := by decide +kernel
abbrev cX9_init : ByteArray := prog_1_method_1_code
def yX9_init : MethodName := ⟨RX9, "<init>", "()V"⟩
abbrev cX9_vat : ByteArray := prog_1_method_2_code
def yX9_vat : MethodName := ⟨RX9, "vat", "(II)I"⟩
abbrev cX9_weigh : ByteArray := prog_1_method_3_code
def yX9_weigh : MethodName := ⟨RX9, "weigh", "(II)I"⟩
abbrev cX9_drain : ByteArray := prog_1_method_4_code
def yX9_drain : MethodName := ⟨RX9, "drain", "(I)I"⟩
abbrev cX9_vatOf : ByteArray := prog_1_method_5_code
def yX9_vatOf : MethodName := ⟨RX9, "vatOf", "(II)I"⟩
abbrev cX9_vatAt : ByteArray := prog_1_method_6_code
def yX9_vatAt : MethodName := ⟨RX9, "vatAt", "(I)I"⟩
abbrev cX9_lot : ByteArray := prog_1_method_7_code
def yX9_lot : MethodName := ⟨RX9, "lot", "(II)I"⟩
abbrev cX9_dip : ByteArray := prog_1_method_8_code
def yX9_dip : MethodName := ⟨RX9, "dip", "(II)I"⟩
abbrev cX9_rinse : ByteArray := prog_1_method_9_code
def yX9_rinse : MethodName := ⟨RX9, "rinse", "(I)I"⟩
abbrev cX9_hang : ByteArray := prog_1_method_10_code
def yX9_hang : MethodName := ⟨RX9, "hang", "(II)I"⟩
abbrev cX9_take : ByteArray := prog_1_method_11_code
def yX9_take : MethodName := ⟨RX9, "take", "(I)I"⟩
abbrev cX9_lotOf : ByteArray := prog_1_method_12_code
def yX9_lotOf : MethodName := ⟨RX9, "lotOf", "(II)I"⟩
abbrev cX9_shade : ByteArray := prog_1_method_13_code
def yX9_shade : MethodName := ⟨RX9, "shade", "(II)I"⟩
abbrev cX9_shadeBits : ByteArray := prog_1_method_14_code
def yX9_shadeBits : MethodName := ⟨RX9, "shadeBits", "(II)I"⟩
abbrev cX9_meanBits : ByteArray := prog_1_method_15_code
def yX9_meanBits : MethodName := ⟨RX9, "meanBits", "(I)I"⟩
abbrev cX9_order : ByteArray := prog_1_method_16_code
def yX9_order : MethodName := ⟨RX9, "order", "(IIII)I"⟩
abbrev cX9_sell : ByteArray := prog_1_method_17_code
def yX9_sell : MethodName := ⟨RX9, "sell", "(II)I"⟩
abbrev cX9_orderOf : ByteArray := prog_1_method_18_code
def yX9_orderOf : MethodName := ⟨RX9, "orderOf", "(II)I"⟩
abbrev cX9_match : ByteArray := prog_1_method_19_code
def yX9_match : MethodName := ⟨RX9, "match", "(II)I"⟩
abbrev cX9_alike : ByteArray := prog_1_method_20_code
def yX9_alike : MethodName := ⟨RX9, "alike", "(I)I"⟩
abbrev cX9_plan : ByteArray := prog_1_method_21_code
def yX9_plan : MethodName := ⟨RX9, "plan", "(III)I"⟩
abbrev cX9_takes : ByteArray := prog_1_method_22_code
def yX9_takes : MethodName := ⟨RX9, "takes", "(III)I"⟩
abbrev cX9_account : ByteArray := prog_1_method_23_code
def yX9_account : MethodName := ⟨RX9, "account", "(II)I"⟩
abbrev cX9_count : ByteArray := prog_1_method_24_code
def yX9_count : MethodName := ⟨RX9, "count", "(I)I"⟩
abbrev cX9_set : ByteArray := prog_1_method_25_code
def yX9_set : MethodName := ⟨RX9, "set", "(II)I"⟩
abbrev cX9_undo : ByteArray := prog_1_method_26_code
def yX9_undo : MethodName := ⟨RX9, "undo", "()I"⟩
abbrev cX9_type : ByteArray := prog_1_method_27_code
def yX9_type : MethodName := ⟨RX9, "type", "(I)I"⟩
abbrev cX9_clearText : ByteArray := prog_1_method_28_code
def yX9_clearText : MethodName := ⟨RX9, "clearText", "()I"⟩
abbrev cX9_fault : ByteArray := prog_1_method_29_code
def yX9_fault : MethodName := ⟨RX9, "fault", "(I)I"⟩
abbrev cX9_play : ByteArray := prog_1_method_30_code
def yX9_play : MethodName := ⟨RX9, "play", "()I"⟩
abbrev cX9_isDye : ByteArray := prog_1_method_31_code
def yX9_isDye : MethodName := ⟨RX9, "isDye", "(I)Z"⟩
abbrev cX9_oneIf : ByteArray := prog_1_method_32_code
def yX9_oneIf : MethodName := ⟨RX9, "oneIf", "(Z)I"⟩
abbrev cX9_distance : ByteArray := prog_1_method_33_code
def yX9_distance : MethodName := ⟨RX9, "distance", "(II)I"⟩
abbrev cX9_cellAt : ByteArray := prog_1_method_34_code
def yX9_cellAt : MethodName := ⟨RX9, "cellAt", "([II)I"⟩
abbrev cX9_putAt : ByteArray := prog_1_method_35_code
def yX9_putAt : MethodName := ⟨RX9, "putAt", "([III)V"⟩
abbrev cX9_addTo : ByteArray := prog_1_method_36_code
def yX9_addTo : MethodName := ⟨RX9, "addTo", "([III)V"⟩
abbrev cX9_sumOf : ByteArray := prog_1_method_37_code
def yX9_sumOf : MethodName := ⟨RX9, "sumOf", "([I)I"⟩
abbrev cX9_copyRow : ByteArray := prog_1_method_38_code
def yX9_copyRow : MethodName := ⟨RX9, "copyRow", "([I[I)V"⟩
abbrev cX9_bitsOf : ByteArray := prog_1_method_39_code
def yX9_bitsOf : MethodName := ⟨RX9, "bitsOf", "(F)I"⟩
def RX10 : String := "DarkVatsModel"
def TX10 : u_T := fun k => match k with
  | _ => ("", "", "", false)
def tyX10 : Nat → FieldType := fun k => match k with
  | _ => .int
theorem nmX10 : ∀ a, a < 0 → ∀ b, b < 0 → a ≠ b → (TX10 a).2.1 ≠ (TX10 b).2.1 := by decide +kernel
theorem tyX10_ok : ∀ k, k < 0 → parseFieldDescriptor (TX10 k).2.2.1 = some (tyX10 k) := by decide +kernel
def RL : String := "DarkVatsLaw"
abbrev cL_cell : ByteArray := method_2_code
def yL_cell : MethodName := ⟨RL, "cell", "([II)I"⟩
abbrev cL_isSound : ByteArray := method_3_code
def yL_isSound : MethodName := ⟨RL, "isSound", "(LDarkVats;)Z"⟩
abbrev cL_plans : ByteArray := method_4_code
def yL_plans : MethodName := ⟨RL, "plans", "(LDarkVats;II)Z"⟩
abbrev cL_takes : ByteArray := method_5_code
def yL_takes : MethodName := ⟨RL, "takes", "(LDarkVats;III)Z"⟩
abbrev cL_number : ByteArray := method_6_code
def yL_number : MethodName := ⟨RL, "number", "(LDarkVats;I)V"⟩
abbrev cL_plays : ByteArray := method_7_code
def yL_plays : MethodName := ⟨RL, "plays", "(LDarkVats;II)Z"⟩
abbrev cL_refuses : ByteArray := method_8_code
def yL_refuses : MethodName := ⟨RL, "refuses", "(LDarkVats;)Z"⟩
abbrev cL_acts : ByteArray := method_9_code
def yL_acts : MethodName := ⟨RL, "acts", "(LDarkVats;I)Z"⟩
abbrev cL_law : ByteArray := code
def yL_law : MethodName := ⟨RL, "law", "([I)Z"⟩
abbrev vwCl : List vw_C := [(RX0, TX0, 2), (RX1, TX1, 10), (RX2, TX2, 9), (RX3, TX3, 2), (RX4, TX4, 2), (RX5, TX5, 8), (RX6, TX6, 1), (RX7, TX7, 2), (RX8, TX8, 4), (RX9, TX9, 6)]
abbrev Mt : Type := MethodName × ByteArray × Nat × Option FieldType
/-- a field link of class own at entry idx: field k of class ci, its descriptor, final or not -/
def FLk (own : String) (idx ci k : Nat) (ds : String) (fin : Bool) : Prop := ∃ q : vw_C, vwCl[ci]? = some q ∧ k < q.2.2 ∧ q.2.1 k = (q.1, (q.2.1 k).2.1, ds, fin) ∧ Cond.fieldLink own idx q.1 (q.2.1 k).2.1 (q.2.1 k).2.2.1 ∈ lw_tbl
abbrev mX0_init : Mt := (yX0_init, cX0_init, 2, none)
theorem kX0_init_c : Cond.code yX0_init cX0_init 2 none ∈ lw_tbl := List.mem_of_getElem? (i := 195) (by decide +kernel)
theorem kX0_init_i : Cond.instanceMethod yX0_init ∈ lw_tbl := List.mem_of_getElem? (i := 194) (by decide +kernel)
abbrev mX0_stateAt : Mt := (yX0_stateAt, cX0_stateAt, 2, (some (.object "DarkVats$House")))
theorem kX0_stateAt_c : Cond.code yX0_stateAt cX0_stateAt 2 (some (.object "DarkVats$House")) ∈ lw_tbl := List.mem_of_getElem? (i := 304) (by decide +kernel)
theorem kX0_stateAt_i : Cond.instanceMethod yX0_stateAt ∈ lw_tbl := List.mem_of_getElem? (i := 303) (by decide +kernel)
theorem kX0_stateAt_s : Cond.selects RX0 yX0_stateAt yX0_stateAt ∈ lw_tbl := List.mem_of_getElem? (i := 0) (by decide +kernel)
abbrev mX0_noteState : Mt := (yX0_noteState, cX0_noteState, 3, none)
theorem kX0_noteState_c : Cond.code yX0_noteState cX0_noteState 3 none ∈ lw_tbl := List.mem_of_getElem? (i := 300) (by decide +kernel)
theorem kX0_noteState_i : Cond.instanceMethod yX0_noteState ∈ lw_tbl := List.mem_of_getElem? (i := 298) (by decide +kernel)
theorem kX0_noteState_s : Cond.selects RX0 yX0_noteState yX0_noteState ∈ lw_tbl := List.mem_of_getElem? (i := 299) (by decide +kernel)
abbrev mX0_keepNoted : Mt := (yX0_keepNoted, cX0_keepNoted, 2, (some .int))
theorem kX0_keepNoted_c : Cond.code yX0_keepNoted cX0_keepNoted 2 (some .int) ∈ lw_tbl := List.mem_of_getElem? (i := 357) (by decide +kernel)
theorem kX0_keepNoted_i : Cond.instanceMethod yX0_keepNoted ∈ lw_tbl := List.mem_of_getElem? (i := 355) (by decide +kernel)
theorem kX0_keepNoted_s : Cond.selects RX0 yX0_keepNoted yX0_keepNoted ∈ lw_tbl := List.mem_of_getElem? (i := 356) (by decide +kernel)
abbrev mX0_dropOldest : Mt := (yX0_dropOldest, cX0_dropOldest, 3, none)
theorem kX0_dropOldest_c : Cond.code yX0_dropOldest cX0_dropOldest 3 none ∈ lw_tbl := List.mem_of_getElem? (i := 361) (by decide +kernel)
theorem kX0_dropOldest_i : Cond.instanceMethod yX0_dropOldest ∈ lw_tbl := List.mem_of_getElem? (i := 360) (by decide +kernel)
theorem kX0_dropOldest_s : Cond.selects RX0 yX0_dropOldest yX0_dropOldest ∈ lw_tbl := List.mem_of_getElem? (i := 4) (by decide +kernel)
abbrev mX0_stepBack : Mt := (yX0_stepBack, cX0_stepBack, 3, (some .int))
theorem kX0_stepBack_c : Cond.code yX0_stepBack cX0_stepBack 3 (some .int) ∈ lw_tbl := List.mem_of_getElem? (i := 484) (by decide +kernel)
theorem kX0_stepBack_i : Cond.instanceMethod yX0_stepBack ∈ lw_tbl := List.mem_of_getElem? (i := 482) (by decide +kernel)
theorem kX0_stepBack_s : Cond.selects RX0 yX0_stepBack yX0_stepBack ∈ lw_tbl := List.mem_of_getElem? (i := 483) (by decide +kernel)
abbrev mX1_init : Mt := (yX1_init, cX1_init, 2, none)
theorem kX1_init_c : Cond.code yX1_init cX1_init 2 none ∈ lw_tbl := List.mem_of_getElem? (i := 33) (by decide +kernel)
theorem kX1_init_i : Cond.instanceMethod yX1_init ∈ lw_tbl := List.mem_of_getElem? (i := 32) (by decide +kernel)
abbrev mX1_copyFrom : Mt := (yX1_copyFrom, cX1_copyFrom, 2, none)
theorem kX1_copyFrom_c : Cond.code yX1_copyFrom cX1_copyFrom 2 none ∈ lw_tbl := List.mem_of_getElem? (i := 308) (by decide +kernel)
theorem kX1_copyFrom_i : Cond.instanceMethod yX1_copyFrom ∈ lw_tbl := List.mem_of_getElem? (i := 306) (by decide +kernel)
theorem kX1_copyFrom_s : Cond.selects RX1 yX1_copyFrom yX1_copyFrom ∈ lw_tbl := List.mem_of_getElem? (i := 307) (by decide +kernel)
abbrev mX1_copyVats : Mt := (yX1_copyVats, cX1_copyVats, 5, none)
theorem kX1_copyVats_c : Cond.code yX1_copyVats cX1_copyVats 5 none ∈ lw_tbl := List.mem_of_getElem? (i := 320) (by decide +kernel)
theorem kX1_copyVats_i : Cond.instanceMethod yX1_copyVats ∈ lw_tbl := List.mem_of_getElem? (i := 319) (by decide +kernel)
theorem kX1_copyVats_s : Cond.selects RX1 yX1_copyVats yX1_copyVats ∈ lw_tbl := List.mem_of_getElem? (i := 1) (by decide +kernel)
abbrev mX1_copyLots : Mt := (yX1_copyLots, cX1_copyLots, 5, none)
theorem kX1_copyLots_c : Cond.code yX1_copyLots cX1_copyLots 5 none ∈ lw_tbl := List.mem_of_getElem? (i := 328) (by decide +kernel)
theorem kX1_copyLots_i : Cond.instanceMethod yX1_copyLots ∈ lw_tbl := List.mem_of_getElem? (i := 327) (by decide +kernel)
theorem kX1_copyLots_s : Cond.selects RX1 yX1_copyLots yX1_copyLots ∈ lw_tbl := List.mem_of_getElem? (i := 2) (by decide +kernel)
abbrev mX1_copyOrders : Mt := (yX1_copyOrders, cX1_copyOrders, 5, none)
theorem kX1_copyOrders_c : Cond.code yX1_copyOrders cX1_copyOrders 5 none ∈ lw_tbl := List.mem_of_getElem? (i := 337) (by decide +kernel)
theorem kX1_copyOrders_i : Cond.instanceMethod yX1_copyOrders ∈ lw_tbl := List.mem_of_getElem? (i := 336) (by decide +kernel)
theorem kX1_copyOrders_s : Cond.selects RX1 yX1_copyOrders yX1_copyOrders ∈ lw_tbl := List.mem_of_getElem? (i := 3) (by decide +kernel)
abbrev mX1_findVat : Mt := (yX1_findVat, cX1_findVat, 3, (some (.object "DarkVats$Vat")))
theorem kX1_findVat_c : Cond.code yX1_findVat cX1_findVat 3 (some (.object "DarkVats$Vat")) ∈ lw_tbl := List.mem_of_getElem? (i := 353) (by decide +kernel)
theorem kX1_findVat_i : Cond.instanceMethod yX1_findVat ∈ lw_tbl := List.mem_of_getElem? (i := 351) (by decide +kernel)
theorem kX1_findVat_s : Cond.selects RX1 yX1_findVat yX1_findVat ∈ lw_tbl := List.mem_of_getElem? (i := 352) (by decide +kernel)
abbrev mX1_findLot : Mt := (yX1_findLot, cX1_findLot, 3, (some (.object "DarkVats$Lot")))
theorem kX1_findLot_c : Cond.code yX1_findLot cX1_findLot 3 (some (.object "DarkVats$Lot")) ∈ lw_tbl := List.mem_of_getElem? (i := 405) (by decide +kernel)
theorem kX1_findLot_i : Cond.instanceMethod yX1_findLot ∈ lw_tbl := List.mem_of_getElem? (i := 403) (by decide +kernel)
theorem kX1_findLot_s : Cond.selects RX1 yX1_findLot yX1_findLot ∈ lw_tbl := List.mem_of_getElem? (i := 404) (by decide +kernel)
abbrev mX1_findOrder : Mt := (yX1_findOrder, cX1_findOrder, 3, (some (.object "DarkVats$Order")))
theorem kX1_findOrder_c : Cond.code yX1_findOrder cX1_findOrder 3 (some (.object "DarkVats$Order")) ∈ lw_tbl := List.mem_of_getElem? (i := 424) (by decide +kernel)
theorem kX1_findOrder_i : Cond.instanceMethod yX1_findOrder ∈ lw_tbl := List.mem_of_getElem? (i := 422) (by decide +kernel)
theorem kX1_findOrder_s : Cond.selects RX1 yX1_findOrder yX1_findOrder ∈ lw_tbl := List.mem_of_getElem? (i := 423) (by decide +kernel)
abbrev mX1_addVat : Mt := (yX1_addVat, cX1_addVat, 4, (some .int))
theorem kX1_addVat_c : Cond.code yX1_addVat cX1_addVat 4 (some .int) ∈ lw_tbl := List.mem_of_getElem? (i := 346) (by decide +kernel)
theorem kX1_addVat_i : Cond.instanceMethod yX1_addVat ∈ lw_tbl := List.mem_of_getElem? (i := 344) (by decide +kernel)
theorem kX1_addVat_s : Cond.selects RX1 yX1_addVat yX1_addVat ∈ lw_tbl := List.mem_of_getElem? (i := 345) (by decide +kernel)
abbrev mX1_weighInto : Mt := (yX1_weighInto, cX1_weighInto, 4, (some .int))
theorem kX1_weighInto_c : Cond.code yX1_weighInto cX1_weighInto 4 (some .int) ∈ lw_tbl := List.mem_of_getElem? (i := 369) (by decide +kernel)
theorem kX1_weighInto_i : Cond.instanceMethod yX1_weighInto ∈ lw_tbl := List.mem_of_getElem? (i := 367) (by decide +kernel)
theorem kX1_weighInto_s : Cond.selects RX1 yX1_weighInto yX1_weighInto ∈ lw_tbl := List.mem_of_getElem? (i := 368) (by decide +kernel)
abbrev mX1_drainVat : Mt := (yX1_drainVat, cX1_drainVat, 4, (some .int))
theorem kX1_drainVat_c : Cond.code yX1_drainVat cX1_drainVat 4 (some .int) ∈ lw_tbl := List.mem_of_getElem? (i := 601) (by decide +kernel)
theorem kX1_drainVat_i : Cond.instanceMethod yX1_drainVat ∈ lw_tbl := List.mem_of_getElem? (i := 599) (by decide +kernel)
theorem kX1_drainVat_s : Cond.selects RX1 yX1_drainVat yX1_drainVat ∈ lw_tbl := List.mem_of_getElem? (i := 600) (by decide +kernel)
abbrev mX1_addLot : Mt := (yX1_addLot, cX1_addLot, 4, (some .int))
theorem kX1_addLot_c : Cond.code yX1_addLot cX1_addLot 4 (some .int) ∈ lw_tbl := List.mem_of_getElem? (i := 401) (by decide +kernel)
theorem kX1_addLot_i : Cond.instanceMethod yX1_addLot ∈ lw_tbl := List.mem_of_getElem? (i := 399) (by decide +kernel)
theorem kX1_addLot_s : Cond.selects RX1 yX1_addLot yX1_addLot ∈ lw_tbl := List.mem_of_getElem? (i := 400) (by decide +kernel)
abbrev mX1_dipLot : Mt := (yX1_dipLot, cX1_dipLot, 5, (some .int))
theorem kX1_dipLot_c : Cond.code yX1_dipLot cX1_dipLot 5 (some .int) ∈ lw_tbl := List.mem_of_getElem? (i := 609) (by decide +kernel)
theorem kX1_dipLot_i : Cond.instanceMethod yX1_dipLot ∈ lw_tbl := List.mem_of_getElem? (i := 607) (by decide +kernel)
theorem kX1_dipLot_s : Cond.selects RX1 yX1_dipLot yX1_dipLot ∈ lw_tbl := List.mem_of_getElem? (i := 608) (by decide +kernel)
abbrev mX1_rinseLot : Mt := (yX1_rinseLot, cX1_rinseLot, 5, (some .int))
theorem kX1_rinseLot_c : Cond.code yX1_rinseLot cX1_rinseLot 5 (some .int) ∈ lw_tbl := List.mem_of_getElem? (i := 631) (by decide +kernel)
theorem kX1_rinseLot_i : Cond.instanceMethod yX1_rinseLot ∈ lw_tbl := List.mem_of_getElem? (i := 629) (by decide +kernel)
theorem kX1_rinseLot_s : Cond.selects RX1 yX1_rinseLot yX1_rinseLot ∈ lw_tbl := List.mem_of_getElem? (i := 630) (by decide +kernel)
abbrev mX1_hangLot : Mt := (yX1_hangLot, cX1_hangLot, 4, (some .int))
theorem kX1_hangLot_c : Cond.code yX1_hangLot cX1_hangLot 4 (some .int) ∈ lw_tbl := List.mem_of_getElem? (i := 641) (by decide +kernel)
theorem kX1_hangLot_i : Cond.instanceMethod yX1_hangLot ∈ lw_tbl := List.mem_of_getElem? (i := 639) (by decide +kernel)
theorem kX1_hangLot_s : Cond.selects RX1 yX1_hangLot yX1_hangLot ∈ lw_tbl := List.mem_of_getElem? (i := 640) (by decide +kernel)
abbrev mX1_takeDown : Mt := (yX1_takeDown, cX1_takeDown, 3, (some .int))
theorem kX1_takeDown_c : Cond.code yX1_takeDown cX1_takeDown 3 (some .int) ∈ lw_tbl := List.mem_of_getElem? (i := 653) (by decide +kernel)
theorem kX1_takeDown_i : Cond.instanceMethod yX1_takeDown ∈ lw_tbl := List.mem_of_getElem? (i := 651) (by decide +kernel)
theorem kX1_takeDown_s : Cond.selects RX1 yX1_takeDown yX1_takeDown ∈ lw_tbl := List.mem_of_getElem? (i := 652) (by decide +kernel)
abbrev mX1_addOrder : Mt := (yX1_addOrder, cX1_addOrder, 6, (some .int))
theorem kX1_addOrder_c : Cond.code yX1_addOrder cX1_addOrder 6 (some .int) ∈ lw_tbl := List.mem_of_getElem? (i := 413) (by decide +kernel)
theorem kX1_addOrder_i : Cond.instanceMethod yX1_addOrder ∈ lw_tbl := List.mem_of_getElem? (i := 411) (by decide +kernel)
theorem kX1_addOrder_s : Cond.selects RX1 yX1_addOrder yX1_addOrder ∈ lw_tbl := List.mem_of_getElem? (i := 412) (by decide +kernel)
abbrev mX1_isAskable : Mt := (yX1_isAskable, cX1_isAskable, 1, (some .boolean))
theorem kX1_isAskable_c : Cond.code yX1_isAskable cX1_isAskable 1 (some .boolean) ∈ lw_tbl := List.mem_of_getElem? (i := 416) (by decide +kernel)
theorem kX1_isAskable_t : Cond.static yX1_isAskable ∈ lw_tbl := List.mem_of_getElem? (i := 415) (by decide +kernel)
abbrev mX1_sellLot : Mt := (yX1_sellLot, cX1_sellLot, 5, (some .int))
theorem kX1_sellLot_c : Cond.code yX1_sellLot cX1_sellLot 5 (some .int) ∈ lw_tbl := List.mem_of_getElem? (i := 669) (by decide +kernel)
theorem kX1_sellLot_i : Cond.instanceMethod yX1_sellLot ∈ lw_tbl := List.mem_of_getElem? (i := 667) (by decide +kernel)
theorem kX1_sellLot_s : Cond.selects RX1 yX1_sellLot yX1_sellLot ∈ lw_tbl := List.mem_of_getElem? (i := 668) (by decide +kernel)
abbrev mX1_doWork : Mt := (yX1_doWork, cX1_doWork, 4, (some .int))
theorem kX1_doWork_c : Cond.code yX1_doWork cX1_doWork 4 (some .int) ∈ lw_tbl := List.mem_of_getElem? (i := 756) (by decide +kernel)
theorem kX1_doWork_i : Cond.instanceMethod yX1_doWork ∈ lw_tbl := List.mem_of_getElem? (i := 754) (by decide +kernel)
theorem kX1_doWork_s : Cond.selects RX1 yX1_doWork yX1_doWork ∈ lw_tbl := List.mem_of_getElem? (i := 755) (by decide +kernel)
abbrev mX1_vatsAheadOf : Mt := (yX1_vatsAheadOf, cX1_vatsAheadOf, 6, (some .int))
theorem kX1_vatsAheadOf_c : Cond.code yX1_vatsAheadOf cX1_vatsAheadOf 6 (some .int) ∈ lw_tbl := List.mem_of_getElem? (i := 385) (by decide +kernel)
theorem kX1_vatsAheadOf_i : Cond.instanceMethod yX1_vatsAheadOf ∈ lw_tbl := List.mem_of_getElem? (i := 383) (by decide +kernel)
theorem kX1_vatsAheadOf_s : Cond.selects RX1 yX1_vatsAheadOf yX1_vatsAheadOf ∈ lw_tbl := List.mem_of_getElem? (i := 384) (by decide +kernel)
abbrev mX1_lotsOnRack : Mt := (yX1_lotsOnRack, cX1_lotsOnRack, 5, (some .int))
theorem kX1_lotsOnRack_c : Cond.code yX1_lotsOnRack cX1_lotsOnRack 5 (some .int) ∈ lw_tbl := List.mem_of_getElem? (i := 645) (by decide +kernel)
theorem kX1_lotsOnRack_i : Cond.instanceMethod yX1_lotsOnRack ∈ lw_tbl := List.mem_of_getElem? (i := 643) (by decide +kernel)
theorem kX1_lotsOnRack_s : Cond.selects RX1 yX1_lotsOnRack yX1_lotsOnRack ∈ lw_tbl := List.mem_of_getElem? (i := 644) (by decide +kernel)
abbrev mX1_openOrders : Mt := (yX1_openOrders, cX1_openOrders, 4, (some .int))
theorem kX1_openOrders_c : Cond.code yX1_openOrders cX1_openOrders 4 (some .int) ∈ lw_tbl := List.mem_of_getElem? (i := 420) (by decide +kernel)
theorem kX1_openOrders_i : Cond.instanceMethod yX1_openOrders ∈ lw_tbl := List.mem_of_getElem? (i := 418) (by decide +kernel)
theorem kX1_openOrders_s : Cond.selects RX1 yX1_openOrders yX1_openOrders ∈ lw_tbl := List.mem_of_getElem? (i := 419) (by decide +kernel)
abbrev mX1_lotsThatFit : Mt := (yX1_lotsThatFit, cX1_lotsThatFit, 5, (some .int))
theorem kX1_lotsThatFit_c : Cond.code yX1_lotsThatFit cX1_lotsThatFit 5 (some .int) ∈ lw_tbl := List.mem_of_getElem? (i := 556) (by decide +kernel)
theorem kX1_lotsThatFit_i : Cond.instanceMethod yX1_lotsThatFit ∈ lw_tbl := List.mem_of_getElem? (i := 554) (by decide +kernel)
theorem kX1_lotsThatFit_s : Cond.selects RX1 yX1_lotsThatFit yX1_lotsThatFit ∈ lw_tbl := List.mem_of_getElem? (i := 555) (by decide +kernel)
abbrev mX1_nearestLot : Mt := (yX1_nearestLot, cX1_nearestLot, 7, (some .int))
theorem kX1_nearestLot_c : Cond.code yX1_nearestLot cX1_nearestLot 7 (some .int) ∈ lw_tbl := List.mem_of_getElem? (i := 570) (by decide +kernel)
theorem kX1_nearestLot_i : Cond.instanceMethod yX1_nearestLot ∈ lw_tbl := List.mem_of_getElem? (i := 568) (by decide +kernel)
theorem kX1_nearestLot_s : Cond.selects RX1 yX1_nearestLot yX1_nearestLot ∈ lw_tbl := List.mem_of_getElem? (i := 569) (by decide +kernel)
abbrev mX1_lotsNotFarAbove : Mt := (yX1_lotsNotFarAbove, cX1_lotsNotFarAbove, 8, (some .int))
theorem kX1_lotsNotFarAbove_c : Cond.code yX1_lotsNotFarAbove cX1_lotsNotFarAbove 8 (some .int) ∈ lw_tbl := List.mem_of_getElem? (i := 454) (by decide +kernel)
theorem kX1_lotsNotFarAbove_i : Cond.instanceMethod yX1_lotsNotFarAbove ∈ lw_tbl := List.mem_of_getElem? (i := 452) (by decide +kernel)
theorem kX1_lotsNotFarAbove_s : Cond.selects RX1 yX1_lotsNotFarAbove yX1_lotsNotFarAbove ∈ lw_tbl := List.mem_of_getElem? (i := 453) (by decide +kernel)
abbrev mX1_lotsCounted : Mt := (yX1_lotsCounted, cX1_lotsCounted, 5, (some .int))
theorem kX1_lotsCounted_c : Cond.code yX1_lotsCounted cX1_lotsCounted 5 (some .int) ∈ lw_tbl := List.mem_of_getElem? (i := 472) (by decide +kernel)
theorem kX1_lotsCounted_i : Cond.instanceMethod yX1_lotsCounted ∈ lw_tbl := List.mem_of_getElem? (i := 470) (by decide +kernel)
theorem kX1_lotsCounted_s : Cond.selects RX1 yX1_lotsCounted yX1_lotsCounted ∈ lw_tbl := List.mem_of_getElem? (i := 471) (by decide +kernel)
abbrev mX1_isCounted : Mt := (yX1_isCounted, cX1_isCounted, 2, (some .boolean))
theorem kX1_isCounted_c : Cond.code yX1_isCounted cX1_isCounted 2 (some .boolean) ∈ lw_tbl := List.mem_of_getElem? (i := 475) (by decide +kernel)
theorem kX1_isCounted_t : Cond.static yX1_isCounted ∈ lw_tbl := List.mem_of_getElem? (i := 474) (by decide +kernel)
abbrev mX1_grainsInVats : Mt := (yX1_grainsInVats, cX1_grainsInVats, 5, (some .int))
theorem kX1_grainsInVats_c : Cond.code yX1_grainsInVats cX1_grainsInVats 5 (some .int) ∈ lw_tbl := List.mem_of_getElem? (i := 501) (by decide +kernel)
theorem kX1_grainsInVats_i : Cond.instanceMethod yX1_grainsInVats ∈ lw_tbl := List.mem_of_getElem? (i := 499) (by decide +kernel)
theorem kX1_grainsInVats_s : Cond.selects RX1 yX1_grainsInVats yX1_grainsInVats ∈ lw_tbl := List.mem_of_getElem? (i := 500) (by decide +kernel)
abbrev mX1_fixedInHouse : Mt := (yX1_fixedInHouse, cX1_fixedInHouse, 5, (some .int))
theorem kX1_fixedInHouse_c : Cond.code yX1_fixedInHouse cX1_fixedInHouse 5 (some .int) ∈ lw_tbl := List.mem_of_getElem? (i := 505) (by decide +kernel)
theorem kX1_fixedInHouse_i : Cond.instanceMethod yX1_fixedInHouse ∈ lw_tbl := List.mem_of_getElem? (i := 503) (by decide +kernel)
theorem kX1_fixedInHouse_s : Cond.selects RX1 yX1_fixedInHouse yX1_fixedInHouse ∈ lw_tbl := List.mem_of_getElem? (i := 504) (by decide +kernel)
abbrev mX1_looseInHouse : Mt := (yX1_looseInHouse, cX1_looseInHouse, 5, (some .int))
theorem kX1_looseInHouse_c : Cond.code yX1_looseInHouse cX1_looseInHouse 5 (some .int) ∈ lw_tbl := List.mem_of_getElem? (i := 509) (by decide +kernel)
theorem kX1_looseInHouse_i : Cond.instanceMethod yX1_looseInHouse ∈ lw_tbl := List.mem_of_getElem? (i := 507) (by decide +kernel)
theorem kX1_looseInHouse_s : Cond.selects RX1 yX1_looseInHouse yX1_looseInHouse ∈ lw_tbl := List.mem_of_getElem? (i := 508) (by decide +kernel)
abbrev mX1_grainsSold : Mt := (yX1_grainsSold, cX1_grainsSold, 5, (some .int))
theorem kX1_grainsSold_c : Cond.code yX1_grainsSold cX1_grainsSold 5 (some .int) ∈ lw_tbl := List.mem_of_getElem? (i := 513) (by decide +kernel)
theorem kX1_grainsSold_i : Cond.instanceMethod yX1_grainsSold ∈ lw_tbl := List.mem_of_getElem? (i := 511) (by decide +kernel)
theorem kX1_grainsSold_s : Cond.selects RX1 yX1_grainsSold yX1_grainsSold ∈ lw_tbl := List.mem_of_getElem? (i := 512) (by decide +kernel)
abbrev mX2_init : Mt := (yX2_init, cX2_init, 1, none)
theorem kX2_init_c : Cond.code yX2_init cX2_init 1 none ∈ lw_tbl := List.mem_of_getElem? (i := 89) (by decide +kernel)
theorem kX2_init_i : Cond.instanceMethod yX2_init ∈ lw_tbl := List.mem_of_getElem? (i := 88) (by decide +kernel)
abbrev mX2_copyFrom : Mt := (yX2_copyFrom, cX2_copyFrom, 2, none)
theorem kX2_copyFrom_c : Cond.code yX2_copyFrom cX2_copyFrom 2 none ∈ lw_tbl := List.mem_of_getElem? (i := 332) (by decide +kernel)
theorem kX2_copyFrom_i : Cond.instanceMethod yX2_copyFrom ∈ lw_tbl := List.mem_of_getElem? (i := 330) (by decide +kernel)
theorem kX2_copyFrom_s : Cond.selects RX2 yX2_copyFrom yX2_copyFrom ∈ lw_tbl := List.mem_of_getElem? (i := 331) (by decide +kernel)
abbrev mX2_isSold : Mt := (yX2_isSold, cX2_isSold, 1, (some .boolean))
theorem kX2_isSold_c : Cond.code yX2_isSold cX2_isSold 1 (some .boolean) ∈ lw_tbl := List.mem_of_getElem? (i := 441) (by decide +kernel)
theorem kX2_isSold_i : Cond.instanceMethod yX2_isSold ∈ lw_tbl := List.mem_of_getElem? (i := 439) (by decide +kernel)
theorem kX2_isSold_s : Cond.selects RX2 yX2_isSold yX2_isSold ∈ lw_tbl := List.mem_of_getElem? (i := 440) (by decide +kernel)
abbrev mX2_grainsOf : Mt := (yX2_grainsOf, cX2_grainsOf, 2, (some .int))
theorem kX2_grainsOf_c : Cond.code yX2_grainsOf cX2_grainsOf 2 (some .int) ∈ lw_tbl := List.mem_of_getElem? (i := 450) (by decide +kernel)
theorem kX2_grainsOf_i : Cond.instanceMethod yX2_grainsOf ∈ lw_tbl := List.mem_of_getElem? (i := 448) (by decide +kernel)
theorem kX2_grainsOf_s : Cond.selects RX2 yX2_grainsOf yX2_grainsOf ∈ lw_tbl := List.mem_of_getElem? (i := 449) (by decide +kernel)
abbrev mX2_shadeOf : Mt := (yX2_shadeOf, cX2_shadeOf, 2, (some .int))
theorem kX2_shadeOf_c : Cond.code yX2_shadeOf cX2_shadeOf 2 (some .int) ∈ lw_tbl := List.mem_of_getElem? (i := 445) (by decide +kernel)
theorem kX2_shadeOf_i : Cond.instanceMethod yX2_shadeOf ∈ lw_tbl := List.mem_of_getElem? (i := 443) (by decide +kernel)
theorem kX2_shadeOf_s : Cond.selects RX2 yX2_shadeOf yX2_shadeOf ∈ lw_tbl := List.mem_of_getElem? (i := 444) (by decide +kernel)
abbrev mX2_depth : Mt := (yX2_depth, cX2_depth, 1, (some .int))
theorem kX2_depth_c : Cond.code yX2_depth cX2_depth 1 (some .int) ∈ lw_tbl := List.mem_of_getElem? (i := 535) (by decide +kernel)
theorem kX2_depth_i : Cond.instanceMethod yX2_depth ∈ lw_tbl := List.mem_of_getElem? (i := 533) (by decide +kernel)
theorem kX2_depth_s : Cond.selects RX2 yX2_depth yX2_depth ∈ lw_tbl := List.mem_of_getElem? (i := 534) (by decide +kernel)
abbrev mX2_floatShade : Mt := (yX2_floatShade, cX2_floatShade, 2, (some .float))
theorem kX2_floatShade_c : Cond.code yX2_floatShade cX2_floatShade 2 (some .float) ∈ lw_tbl := List.mem_of_getElem? (i := 523) (by decide +kernel)
theorem kX2_floatShade_i : Cond.instanceMethod yX2_floatShade ∈ lw_tbl := List.mem_of_getElem? (i := 521) (by decide +kernel)
theorem kX2_floatShade_s : Cond.selects RX2 yX2_floatShade yX2_floatShade ∈ lw_tbl := List.mem_of_getElem? (i := 522) (by decide +kernel)
abbrev mX2_grainsTaken : Mt := (yX2_grainsTaken, cX2_grainsTaken, 8, (some .int))
theorem kX2_grainsTaken_c : Cond.code yX2_grainsTaken cX2_grainsTaken 8 (some .int) ∈ lw_tbl := List.mem_of_getElem? (i := 617) (by decide +kernel)
theorem kX2_grainsTaken_i : Cond.instanceMethod yX2_grainsTaken ∈ lw_tbl := List.mem_of_getElem? (i := 615) (by decide +kernel)
theorem kX2_grainsTaken_s : Cond.selects RX2 yX2_grainsTaken yX2_grainsTaken ∈ lw_tbl := List.mem_of_getElem? (i := 616) (by decide +kernel)
abbrev mX2_soakIn : Mt := (yX2_soakIn, cX2_soakIn, 6, (some .int))
theorem kX2_soakIn_c : Cond.code yX2_soakIn cX2_soakIn 6 (some .int) ∈ lw_tbl := List.mem_of_getElem? (i := 613) (by decide +kernel)
theorem kX2_soakIn_i : Cond.instanceMethod yX2_soakIn ∈ lw_tbl := List.mem_of_getElem? (i := 611) (by decide +kernel)
theorem kX2_soakIn_s : Cond.selects RX2 yX2_soakIn yX2_soakIn ∈ lw_tbl := List.mem_of_getElem? (i := 612) (by decide +kernel)
abbrev mX3_init : Mt := (yX3_init, cX3_init, 1, none)
theorem kX3_init_c : Cond.code yX3_init cX3_init 1 none ∈ lw_tbl := List.mem_of_getElem? (i := 140) (by decide +kernel)
theorem kX3_init_i : Cond.instanceMethod yX3_init ∈ lw_tbl := List.mem_of_getElem? (i := 139) (by decide +kernel)
abbrev mX3_copyFrom : Mt := (yX3_copyFrom, cX3_copyFrom, 2, none)
theorem kX3_copyFrom_c : Cond.code yX3_copyFrom cX3_copyFrom 2 none ∈ lw_tbl := List.mem_of_getElem? (i := 341) (by decide +kernel)
theorem kX3_copyFrom_i : Cond.instanceMethod yX3_copyFrom ∈ lw_tbl := List.mem_of_getElem? (i := 339) (by decide +kernel)
theorem kX3_copyFrom_s : Cond.selects RX3 yX3_copyFrom yX3_copyFrom ∈ lw_tbl := List.mem_of_getElem? (i := 340) (by decide +kernel)
abbrev mX3_ask : Mt := (yX3_ask, cX3_ask, 5, none)
theorem kX3_ask_c : Cond.code yX3_ask cX3_ask 5 none ∈ lw_tbl := List.mem_of_getElem? (i := 428) (by decide +kernel)
theorem kX3_ask_i : Cond.instanceMethod yX3_ask ∈ lw_tbl := List.mem_of_getElem? (i := 426) (by decide +kernel)
theorem kX3_ask_s : Cond.selects RX3 yX3_ask yX3_ask ∈ lw_tbl := List.mem_of_getElem? (i := 427) (by decide +kernel)
abbrev mX3_shadeFor : Mt := (yX3_shadeFor, cX3_shadeFor, 2, (some .int))
theorem kX3_shadeFor_c : Cond.code yX3_shadeFor cX3_shadeFor 2 (some .int) ∈ lw_tbl := List.mem_of_getElem? (i := 551) (by decide +kernel)
theorem kX3_shadeFor_i : Cond.instanceMethod yX3_shadeFor ∈ lw_tbl := List.mem_of_getElem? (i := 549) (by decide +kernel)
theorem kX3_shadeFor_s : Cond.selects RX3 yX3_shadeFor yX3_shadeFor ∈ lw_tbl := List.mem_of_getElem? (i := 550) (by decide +kernel)
abbrev mX3_isFittedBy : Mt := (yX3_isFittedBy, cX3_isFittedBy, 5, (some .boolean))
theorem kX3_isFittedBy_c : Cond.code yX3_isFittedBy cX3_isFittedBy 5 (some .boolean) ∈ lw_tbl := List.mem_of_getElem? (i := 560) (by decide +kernel)
theorem kX3_isFittedBy_i : Cond.instanceMethod yX3_isFittedBy ∈ lw_tbl := List.mem_of_getElem? (i := 558) (by decide +kernel)
theorem kX3_isFittedBy_s : Cond.selects RX3 yX3_isFittedBy yX3_isFittedBy ∈ lw_tbl := List.mem_of_getElem? (i := 559) (by decide +kernel)
abbrev mX3_distanceTo : Mt := (yX3_distanceTo, cX3_distanceTo, 4, (some .int))
theorem kX3_distanceTo_c : Cond.code yX3_distanceTo cX3_distanceTo 4 (some .int) ∈ lw_tbl := List.mem_of_getElem? (i := 574) (by decide +kernel)
theorem kX3_distanceTo_i : Cond.instanceMethod yX3_distanceTo ∈ lw_tbl := List.mem_of_getElem? (i := 572) (by decide +kernel)
theorem kX3_distanceTo_s : Cond.selects RX3 yX3_distanceTo yX3_distanceTo ∈ lw_tbl := List.mem_of_getElem? (i := 573) (by decide +kernel)
abbrev mX4_init : Mt := (yX4_init, cX4_init, 2, none)
theorem kX4_init_c : Cond.code yX4_init cX4_init 2 none ∈ lw_tbl := List.mem_of_getElem? (i := 263) (by decide +kernel)
theorem kX4_init_i : Cond.instanceMethod yX4_init ∈ lw_tbl := List.mem_of_getElem? (i := 262) (by decide +kernel)
abbrev mX4_vatOfDip : Mt := (yX4_vatOfDip, cX4_vatOfDip, 2, (some .int))
theorem kX4_vatOfDip_c : Cond.code yX4_vatOfDip cX4_vatOfDip 2 (some .int) ∈ lw_tbl := List.mem_of_getElem? (i := 694) (by decide +kernel)
theorem kX4_vatOfDip_i : Cond.instanceMethod yX4_vatOfDip ∈ lw_tbl := List.mem_of_getElem? (i := 692) (by decide +kernel)
theorem kX4_vatOfDip_s : Cond.selects RX4 yX4_vatOfDip yX4_vatOfDip ∈ lw_tbl := List.mem_of_getElem? (i := 693) (by decide +kernel)
abbrev mX4_lotBehind : Mt := (yX4_lotBehind, cX4_lotBehind, 2, (some (.object "DarkVats$Lot")))
theorem kX4_lotBehind_c : Cond.code yX4_lotBehind cX4_lotBehind 2 (some (.object "DarkVats$Lot")) ∈ lw_tbl := List.mem_of_getElem? (i := 682) (by decide +kernel)
theorem kX4_lotBehind_i : Cond.instanceMethod yX4_lotBehind ∈ lw_tbl := List.mem_of_getElem? (i := 681) (by decide +kernel)
theorem kX4_lotBehind_s : Cond.selects RX4 yX4_lotBehind yX4_lotBehind ∈ lw_tbl := List.mem_of_getElem? (i := 5) (by decide +kernel)
abbrev mX4_findPlan : Mt := (yX4_findPlan, cX4_findPlan, 6, (some .int))
theorem kX4_findPlan_c : Cond.code yX4_findPlan cX4_findPlan 6 (some .int) ∈ lw_tbl := List.mem_of_getElem? (i := 678) (by decide +kernel)
theorem kX4_findPlan_i : Cond.instanceMethod yX4_findPlan ∈ lw_tbl := List.mem_of_getElem? (i := 676) (by decide +kernel)
theorem kX4_findPlan_s : Cond.selects RX4 yX4_findPlan yX4_findPlan ∈ lw_tbl := List.mem_of_getElem? (i := 677) (by decide +kernel)
abbrev mX4_isReached : Mt := (yX4_isReached, cX4_isReached, 12, (some .boolean))
theorem kX4_isReached_c : Cond.code yX4_isReached cX4_isReached 12 (some .boolean) ∈ lw_tbl := List.mem_of_getElem? (i := 686) (by decide +kernel)
theorem kX4_isReached_t : Cond.static yX4_isReached ∈ lw_tbl := List.mem_of_getElem? (i := 685) (by decide +kernel)
abbrev mX5_init : Mt := (yX5_init, cX5_init, 1, none)
theorem kX5_init_c : Cond.code yX5_init cX5_init 1 none ∈ lw_tbl := List.mem_of_getElem? (i := 228) (by decide +kernel)
theorem kX5_init_i : Cond.instanceMethod yX5_init ∈ lw_tbl := List.mem_of_getElem? (i := 227) (by decide +kernel)
abbrev mX5_hasFault : Mt := (yX5_hasFault, cX5_hasFault, 1, (some .boolean))
theorem kX5_hasFault_c : Cond.code yX5_hasFault cX5_hasFault 1 (some .boolean) ∈ lw_tbl := List.mem_of_getElem? (i := 766) (by decide +kernel)
theorem kX5_hasFault_i : Cond.instanceMethod yX5_hasFault ∈ lw_tbl := List.mem_of_getElem? (i := 764) (by decide +kernel)
theorem kX5_hasFault_s : Cond.selects RX5 yX5_hasFault yX5_hasFault ∈ lw_tbl := List.mem_of_getElem? (i := 765) (by decide +kernel)
abbrev mX5_doAll : Mt := (yX5_doAll, cX5_doAll, 6, none)
theorem kX5_doAll_c : Cond.code yX5_doAll cX5_doAll 6 none ∈ lw_tbl := List.mem_of_getElem? (i := 729) (by decide +kernel)
theorem kX5_doAll_i : Cond.instanceMethod yX5_doAll ∈ lw_tbl := List.mem_of_getElem? (i := 727) (by decide +kernel)
theorem kX5_doAll_s : Cond.selects RX5 yX5_doAll yX5_doAll ∈ lw_tbl := List.mem_of_getElem? (i := 728) (by decide +kernel)
abbrev mX5_noteFault : Mt := (yX5_noteFault, cX5_noteFault, 4, none)
theorem kX5_noteFault_c : Cond.code yX5_noteFault cX5_noteFault 4 none ∈ lw_tbl := List.mem_of_getElem? (i := 752) (by decide +kernel)
theorem kX5_noteFault_i : Cond.instanceMethod yX5_noteFault ∈ lw_tbl := List.mem_of_getElem? (i := 751) (by decide +kernel)
theorem kX5_noteFault_s : Cond.selects RX5 yX5_noteFault yX5_noteFault ∈ lw_tbl := List.mem_of_getElem? (i := 9) (by decide +kernel)
abbrev mX5_readWork : Mt := (yX5_readWork, cX5_readWork, 3, (some .boolean))
theorem kX5_readWork_c : Cond.code yX5_readWork cX5_readWork 3 (some .boolean) ∈ lw_tbl := List.mem_of_getElem? (i := 733) (by decide +kernel)
theorem kX5_readWork_i : Cond.instanceMethod yX5_readWork ∈ lw_tbl := List.mem_of_getElem? (i := 732) (by decide +kernel)
theorem kX5_readWork_s : Cond.selects RX5 yX5_readWork yX5_readWork ∈ lw_tbl := List.mem_of_getElem? (i := 6) (by decide +kernel)
abbrev mX5_readNumber : Mt := (yX5_readNumber, cX5_readNumber, 4, (some .int))
theorem kX5_readNumber_c : Cond.code yX5_readNumber cX5_readNumber 4 (some .int) ∈ lw_tbl := List.mem_of_getElem? (i := 741) (by decide +kernel)
theorem kX5_readNumber_i : Cond.instanceMethod yX5_readNumber ∈ lw_tbl := List.mem_of_getElem? (i := 740) (by decide +kernel)
theorem kX5_readNumber_s : Cond.selects RX5 yX5_readNumber yX5_readNumber ∈ lw_tbl := List.mem_of_getElem? (i := 7) (by decide +kernel)
abbrev mX5_digitOf : Mt := (yX5_digitOf, cX5_digitOf, 1, (some .int))
theorem kX5_digitOf_c : Cond.code yX5_digitOf cX5_digitOf 1 (some .int) ∈ lw_tbl := List.mem_of_getElem? (i := 744) (by decide +kernel)
theorem kX5_digitOf_t : Cond.static yX5_digitOf ∈ lw_tbl := List.mem_of_getElem? (i := 743) (by decide +kernel)
abbrev mX5_passes : Mt := (yX5_passes, cX5_passes, 3, (some .boolean))
theorem kX5_passes_c : Cond.code yX5_passes cX5_passes 3 (some .boolean) ∈ lw_tbl := List.mem_of_getElem? (i := 748) (by decide +kernel)
theorem kX5_passes_i : Cond.instanceMethod yX5_passes ∈ lw_tbl := List.mem_of_getElem? (i := 747) (by decide +kernel)
theorem kX5_passes_s : Cond.selects RX5 yX5_passes yX5_passes ∈ lw_tbl := List.mem_of_getElem? (i := 8) (by decide +kernel)
abbrev mX6_init : Mt := (yX6_init, cX6_init, 2, none)
theorem kX6_init_c : Cond.code yX6_init cX6_init 2 none ∈ lw_tbl := List.mem_of_getElem? (i := 45) (by decide +kernel)
theorem kX6_init_i : Cond.instanceMethod yX6_init ∈ lw_tbl := List.mem_of_getElem? (i := 44) (by decide +kernel)
abbrev mX6_exists : Mt := (yX6_exists, cX6_exists, 1, (some .boolean))
theorem kX6_exists_c : Cond.code yX6_exists cX6_exists 1 (some .boolean) ∈ lw_tbl := List.mem_of_getElem? (i := 467) (by decide +kernel)
theorem kX6_exists_t : Cond.static yX6_exists ∈ lw_tbl := List.mem_of_getElem? (i := 466) (by decide +kernel)
abbrev mX6_valueOf : Mt := (yX6_valueOf, cX6_valueOf, 2, (some .int))
theorem kX6_valueOf_c : Cond.code yX6_valueOf cX6_valueOf 2 (some .int) ∈ lw_tbl := List.mem_of_getElem? (i := 458) (by decide +kernel)
theorem kX6_valueOf_i : Cond.instanceMethod yX6_valueOf ∈ lw_tbl := List.mem_of_getElem? (i := 456) (by decide +kernel)
theorem kX6_valueOf_s : Cond.selects RX6 yX6_valueOf yX6_valueOf ∈ lw_tbl := List.mem_of_getElem? (i := 457) (by decide +kernel)
abbrev mX6_copyFrom : Mt := (yX6_copyFrom, cX6_copyFrom, 2, none)
theorem kX6_copyFrom_c : Cond.code yX6_copyFrom cX6_copyFrom 2 none ∈ lw_tbl := List.mem_of_getElem? (i := 315) (by decide +kernel)
theorem kX6_copyFrom_i : Cond.instanceMethod yX6_copyFrom ∈ lw_tbl := List.mem_of_getElem? (i := 313) (by decide +kernel)
theorem kX6_copyFrom_s : Cond.selects RX6 yX6_copyFrom yX6_copyFrom ∈ lw_tbl := List.mem_of_getElem? (i := 314) (by decide +kernel)
abbrev mX6_change : Mt := (yX6_change, cX6_change, 4, (some .int))
theorem kX6_change_c : Cond.code yX6_change cX6_change 4 (some .int) ∈ lw_tbl := List.mem_of_getElem? (i := 708) (by decide +kernel)
theorem kX6_change_i : Cond.instanceMethod yX6_change ∈ lw_tbl := List.mem_of_getElem? (i := 706) (by decide +kernel)
theorem kX6_change_s : Cond.selects RX6 yX6_change yX6_change ∈ lw_tbl := List.mem_of_getElem? (i := 707) (by decide +kernel)
abbrev mX7_init : Mt := (yX7_init, cX7_init, 1, none)
theorem kX7_init_c : Cond.code yX7_init cX7_init 1 none ∈ lw_tbl := List.mem_of_getElem? (i := 212) (by decide +kernel)
theorem kX7_init_i : Cond.instanceMethod yX7_init ∈ lw_tbl := List.mem_of_getElem? (i := 211) (by decide +kernel)
abbrev mX7_append : Mt := (yX7_append, cX7_append, 2, (some .int))
theorem kX7_append_c : Cond.code yX7_append cX7_append 2 (some .int) ∈ lw_tbl := List.mem_of_getElem? (i := 721) (by decide +kernel)
theorem kX7_append_i : Cond.instanceMethod yX7_append ∈ lw_tbl := List.mem_of_getElem? (i := 719) (by decide +kernel)
theorem kX7_append_s : Cond.selects RX7 yX7_append yX7_append ∈ lw_tbl := List.mem_of_getElem? (i := 720) (by decide +kernel)
abbrev mX7_makeEmpty : Mt := (yX7_makeEmpty, cX7_makeEmpty, 2, (some .int))
theorem kX7_makeEmpty_c : Cond.code yX7_makeEmpty cX7_makeEmpty 2 (some .int) ∈ lw_tbl := List.mem_of_getElem? (i := 787) (by decide +kernel)
theorem kX7_makeEmpty_i : Cond.instanceMethod yX7_makeEmpty ∈ lw_tbl := List.mem_of_getElem? (i := 785) (by decide +kernel)
theorem kX7_makeEmpty_s : Cond.selects RX7 yX7_makeEmpty yX7_makeEmpty ∈ lw_tbl := List.mem_of_getElem? (i := 786) (by decide +kernel)
abbrev mX7_signAt : Mt := (yX7_signAt, cX7_signAt, 3, (some .char))
theorem kX7_signAt_c : Cond.code yX7_signAt cX7_signAt 3 (some .char) ∈ lw_tbl := List.mem_of_getElem? (i := 737) (by decide +kernel)
theorem kX7_signAt_i : Cond.instanceMethod yX7_signAt ∈ lw_tbl := List.mem_of_getElem? (i := 735) (by decide +kernel)
theorem kX7_signAt_s : Cond.selects RX7 yX7_signAt yX7_signAt ∈ lw_tbl := List.mem_of_getElem? (i := 736) (by decide +kernel)
abbrev mX8_init : Mt := (yX8_init, cX8_init, 1, none)
theorem kX8_init_c : Cond.code yX8_init cX8_init 1 none ∈ lw_tbl := List.mem_of_getElem? (i := 57) (by decide +kernel)
theorem kX8_init_i : Cond.instanceMethod yX8_init ∈ lw_tbl := List.mem_of_getElem? (i := 56) (by decide +kernel)
abbrev mX8_copyFrom : Mt := (yX8_copyFrom, cX8_copyFrom, 2, none)
theorem kX8_copyFrom_c : Cond.code yX8_copyFrom cX8_copyFrom 2 none ∈ lw_tbl := List.mem_of_getElem? (i := 324) (by decide +kernel)
theorem kX8_copyFrom_i : Cond.instanceMethod yX8_copyFrom ∈ lw_tbl := List.mem_of_getElem? (i := 322) (by decide +kernel)
theorem kX8_copyFrom_s : Cond.selects RX8 yX8_copyFrom yX8_copyFrom ∈ lw_tbl := List.mem_of_getElem? (i := 323) (by decide +kernel)
abbrev mX8_strength : Mt := (yX8_strength, cX8_strength, 1, (some .int))
theorem kX8_strength_c : Cond.code yX8_strength cX8_strength 1 (some .int) ∈ lw_tbl := List.mem_of_getElem? (i := 393) (by decide +kernel)
theorem kX8_strength_i : Cond.instanceMethod yX8_strength ∈ lw_tbl := List.mem_of_getElem? (i := 391) (by decide +kernel)
theorem kX8_strength_s : Cond.selects RX8 yX8_strength yX8_strength ∈ lw_tbl := List.mem_of_getElem? (i := 392) (by decide +kernel)
abbrev mX8_spoils : Mt := (yX8_spoils, cX8_spoils, 2, (some .boolean))
theorem kX8_spoils_c : Cond.code yX8_spoils cX8_spoils 2 (some .boolean) ∈ lw_tbl := List.mem_of_getElem? (i := 588) (by decide +kernel)
theorem kX8_spoils_i : Cond.instanceMethod yX8_spoils ∈ lw_tbl := List.mem_of_getElem? (i := 586) (by decide +kernel)
theorem kX8_spoils_s : Cond.selects RX8 yX8_spoils yX8_spoils ∈ lw_tbl := List.mem_of_getElem? (i := 587) (by decide +kernel)
abbrev mX8_isAheadOfLater : Mt := (yX8_isAheadOfLater, cX8_isAheadOfLater, 2, (some .boolean))
theorem kX8_isAheadOfLater_c : Cond.code yX8_isAheadOfLater cX8_isAheadOfLater 2 (some .boolean) ∈ lw_tbl := List.mem_of_getElem? (i := 389) (by decide +kernel)
theorem kX8_isAheadOfLater_i : Cond.instanceMethod yX8_isAheadOfLater ∈ lw_tbl := List.mem_of_getElem? (i := 387) (by decide +kernel)
theorem kX8_isAheadOfLater_s : Cond.selects RX8 yX8_isAheadOfLater yX8_isAheadOfLater ∈ lw_tbl := List.mem_of_getElem? (i := 388) (by decide +kernel)
abbrev mX9_init : Mt := (yX9_init, cX9_init, 1, none)
theorem kX9_init_c : Cond.code yX9_init cX9_init 1 none ∈ lw_tbl := List.mem_of_getElem? (i := 25) (by decide +kernel)
theorem kX9_init_i : Cond.instanceMethod yX9_init ∈ lw_tbl := List.mem_of_getElem? (i := 24) (by decide +kernel)
abbrev mX9_vat : Mt := (yX9_vat, cX9_vat, 3, (some .int))
theorem kX9_vat_c : Cond.code yX9_vat cX9_vat 3 (some .int) ∈ lw_tbl := List.mem_of_getElem? (i := 296) (by decide +kernel)
theorem kX9_vat_i : Cond.instanceMethod yX9_vat ∈ lw_tbl := List.mem_of_getElem? (i := 294) (by decide +kernel)
theorem kX9_vat_s : Cond.selects RX9 yX9_vat yX9_vat ∈ lw_tbl := List.mem_of_getElem? (i := 295) (by decide +kernel)
abbrev mX9_weigh : Mt := (yX9_weigh, cX9_weigh, 3, (some .int))
theorem kX9_weigh_c : Cond.code yX9_weigh cX9_weigh 3 (some .int) ∈ lw_tbl := List.mem_of_getElem? (i := 365) (by decide +kernel)
theorem kX9_weigh_i : Cond.instanceMethod yX9_weigh ∈ lw_tbl := List.mem_of_getElem? (i := 363) (by decide +kernel)
theorem kX9_weigh_s : Cond.selects RX9 yX9_weigh yX9_weigh ∈ lw_tbl := List.mem_of_getElem? (i := 364) (by decide +kernel)
abbrev mX9_drain : Mt := (yX9_drain, cX9_drain, 2, (some .int))
theorem kX9_drain_c : Cond.code yX9_drain cX9_drain 2 (some .int) ∈ lw_tbl := List.mem_of_getElem? (i := 597) (by decide +kernel)
theorem kX9_drain_i : Cond.instanceMethod yX9_drain ∈ lw_tbl := List.mem_of_getElem? (i := 595) (by decide +kernel)
theorem kX9_drain_s : Cond.selects RX9 yX9_drain yX9_drain ∈ lw_tbl := List.mem_of_getElem? (i := 596) (by decide +kernel)
abbrev mX9_vatOf : Mt := (yX9_vatOf, cX9_vatOf, 4, (some .int))
theorem kX9_vatOf_c : Cond.code yX9_vatOf cX9_vatOf 4 (some .int) ∈ lw_tbl := List.mem_of_getElem? (i := 583) (by decide +kernel)
theorem kX9_vatOf_i : Cond.instanceMethod yX9_vatOf ∈ lw_tbl := List.mem_of_getElem? (i := 581) (by decide +kernel)
theorem kX9_vatOf_s : Cond.selects RX9 yX9_vatOf yX9_vatOf ∈ lw_tbl := List.mem_of_getElem? (i := 582) (by decide +kernel)
abbrev mX9_vatAt : Mt := (yX9_vatAt, cX9_vatAt, 3, (some .int))
theorem kX9_vatAt_c : Cond.code yX9_vatAt cX9_vatAt 3 (some .int) ∈ lw_tbl := List.mem_of_getElem? (i := 381) (by decide +kernel)
theorem kX9_vatAt_i : Cond.instanceMethod yX9_vatAt ∈ lw_tbl := List.mem_of_getElem? (i := 379) (by decide +kernel)
theorem kX9_vatAt_s : Cond.selects RX9 yX9_vatAt yX9_vatAt ∈ lw_tbl := List.mem_of_getElem? (i := 380) (by decide +kernel)
abbrev mX9_lot : Mt := (yX9_lot, cX9_lot, 3, (some .int))
theorem kX9_lot_c : Cond.code yX9_lot cX9_lot 3 (some .int) ∈ lw_tbl := List.mem_of_getElem? (i := 397) (by decide +kernel)
theorem kX9_lot_i : Cond.instanceMethod yX9_lot ∈ lw_tbl := List.mem_of_getElem? (i := 395) (by decide +kernel)
theorem kX9_lot_s : Cond.selects RX9 yX9_lot yX9_lot ∈ lw_tbl := List.mem_of_getElem? (i := 396) (by decide +kernel)
abbrev mX9_dip : Mt := (yX9_dip, cX9_dip, 3, (some .int))
theorem kX9_dip_c : Cond.code yX9_dip cX9_dip 3 (some .int) ∈ lw_tbl := List.mem_of_getElem? (i := 605) (by decide +kernel)
theorem kX9_dip_i : Cond.instanceMethod yX9_dip ∈ lw_tbl := List.mem_of_getElem? (i := 603) (by decide +kernel)
theorem kX9_dip_s : Cond.selects RX9 yX9_dip yX9_dip ∈ lw_tbl := List.mem_of_getElem? (i := 604) (by decide +kernel)
abbrev mX9_rinse : Mt := (yX9_rinse, cX9_rinse, 2, (some .int))
theorem kX9_rinse_c : Cond.code yX9_rinse cX9_rinse 2 (some .int) ∈ lw_tbl := List.mem_of_getElem? (i := 627) (by decide +kernel)
theorem kX9_rinse_i : Cond.instanceMethod yX9_rinse ∈ lw_tbl := List.mem_of_getElem? (i := 625) (by decide +kernel)
theorem kX9_rinse_s : Cond.selects RX9 yX9_rinse yX9_rinse ∈ lw_tbl := List.mem_of_getElem? (i := 626) (by decide +kernel)
abbrev mX9_hang : Mt := (yX9_hang, cX9_hang, 3, (some .int))
theorem kX9_hang_c : Cond.code yX9_hang cX9_hang 3 (some .int) ∈ lw_tbl := List.mem_of_getElem? (i := 637) (by decide +kernel)
theorem kX9_hang_i : Cond.instanceMethod yX9_hang ∈ lw_tbl := List.mem_of_getElem? (i := 635) (by decide +kernel)
theorem kX9_hang_s : Cond.selects RX9 yX9_hang yX9_hang ∈ lw_tbl := List.mem_of_getElem? (i := 636) (by decide +kernel)
abbrev mX9_take : Mt := (yX9_take, cX9_take, 2, (some .int))
theorem kX9_take_c : Cond.code yX9_take cX9_take 2 (some .int) ∈ lw_tbl := List.mem_of_getElem? (i := 649) (by decide +kernel)
theorem kX9_take_i : Cond.instanceMethod yX9_take ∈ lw_tbl := List.mem_of_getElem? (i := 647) (by decide +kernel)
theorem kX9_take_s : Cond.selects RX9 yX9_take yX9_take ∈ lw_tbl := List.mem_of_getElem? (i := 648) (by decide +kernel)
abbrev mX9_lotOf : Mt := (yX9_lotOf, cX9_lotOf, 4, (some .int))
theorem kX9_lotOf_c : Cond.code yX9_lotOf cX9_lotOf 4 (some .int) ∈ lw_tbl := List.mem_of_getElem? (i := 531) (by decide +kernel)
theorem kX9_lotOf_i : Cond.instanceMethod yX9_lotOf ∈ lw_tbl := List.mem_of_getElem? (i := 529) (by decide +kernel)
theorem kX9_lotOf_s : Cond.selects RX9 yX9_lotOf yX9_lotOf ∈ lw_tbl := List.mem_of_getElem? (i := 530) (by decide +kernel)
abbrev mX9_shade : Mt := (yX9_shade, cX9_shade, 4, (some .int))
theorem kX9_shade_c : Cond.code yX9_shade cX9_shade 4 (some .int) ∈ lw_tbl := List.mem_of_getElem? (i := 657) (by decide +kernel)
theorem kX9_shade_i : Cond.instanceMethod yX9_shade ∈ lw_tbl := List.mem_of_getElem? (i := 655) (by decide +kernel)
theorem kX9_shade_s : Cond.selects RX9 yX9_shade yX9_shade ∈ lw_tbl := List.mem_of_getElem? (i := 656) (by decide +kernel)
abbrev mX9_shadeBits : Mt := (yX9_shadeBits, cX9_shadeBits, 4, (some .int))
theorem kX9_shadeBits_c : Cond.code yX9_shadeBits cX9_shadeBits 4 (some .int) ∈ lw_tbl := List.mem_of_getElem? (i := 661) (by decide +kernel)
theorem kX9_shadeBits_i : Cond.instanceMethod yX9_shadeBits ∈ lw_tbl := List.mem_of_getElem? (i := 659) (by decide +kernel)
theorem kX9_shadeBits_s : Cond.selects RX9 yX9_shadeBits yX9_shadeBits ∈ lw_tbl := List.mem_of_getElem? (i := 660) (by decide +kernel)
abbrev mX9_meanBits : Mt := (yX9_meanBits, cX9_meanBits, 7, (some .int))
theorem kX9_meanBits_c : Cond.code yX9_meanBits cX9_meanBits 7 (some .int) ∈ lw_tbl := List.mem_of_getElem? (i := 519) (by decide +kernel)
theorem kX9_meanBits_i : Cond.instanceMethod yX9_meanBits ∈ lw_tbl := List.mem_of_getElem? (i := 517) (by decide +kernel)
theorem kX9_meanBits_s : Cond.selects RX9 yX9_meanBits yX9_meanBits ∈ lw_tbl := List.mem_of_getElem? (i := 518) (by decide +kernel)
abbrev mX9_order : Mt := (yX9_order, cX9_order, 5, (some .int))
theorem kX9_order_c : Cond.code yX9_order cX9_order 5 (some .int) ∈ lw_tbl := List.mem_of_getElem? (i := 409) (by decide +kernel)
theorem kX9_order_i : Cond.instanceMethod yX9_order ∈ lw_tbl := List.mem_of_getElem? (i := 407) (by decide +kernel)
theorem kX9_order_s : Cond.selects RX9 yX9_order yX9_order ∈ lw_tbl := List.mem_of_getElem? (i := 408) (by decide +kernel)
abbrev mX9_sell : Mt := (yX9_sell, cX9_sell, 3, (some .int))
theorem kX9_sell_c : Cond.code yX9_sell cX9_sell 3 (some .int) ∈ lw_tbl := List.mem_of_getElem? (i := 665) (by decide +kernel)
theorem kX9_sell_i : Cond.instanceMethod yX9_sell ∈ lw_tbl := List.mem_of_getElem? (i := 663) (by decide +kernel)
theorem kX9_sell_s : Cond.selects RX9 yX9_sell yX9_sell ∈ lw_tbl := List.mem_of_getElem? (i := 664) (by decide +kernel)
abbrev mX9_orderOf : Mt := (yX9_orderOf, cX9_orderOf, 4, (some .int))
theorem kX9_orderOf_c : Cond.code yX9_orderOf cX9_orderOf 4 (some .int) ∈ lw_tbl := List.mem_of_getElem? (i := 546) (by decide +kernel)
theorem kX9_orderOf_i : Cond.instanceMethod yX9_orderOf ∈ lw_tbl := List.mem_of_getElem? (i := 544) (by decide +kernel)
theorem kX9_orderOf_s : Cond.selects RX9 yX9_orderOf yX9_orderOf ∈ lw_tbl := List.mem_of_getElem? (i := 545) (by decide +kernel)
abbrev mX9_match : Mt := (yX9_match, cX9_match, 7, (some .int))
theorem kX9_match_c : Cond.code yX9_match cX9_match 7 (some .int) ∈ lw_tbl := List.mem_of_getElem? (i := 578) (by decide +kernel)
theorem kX9_match_i : Cond.instanceMethod yX9_match ∈ lw_tbl := List.mem_of_getElem? (i := 576) (by decide +kernel)
theorem kX9_match_s : Cond.selects RX9 yX9_match yX9_match ∈ lw_tbl := List.mem_of_getElem? (i := 577) (by decide +kernel)
abbrev mX9_alike : Mt := (yX9_alike, cX9_alike, 6, (some .int))
theorem kX9_alike_c : Cond.code yX9_alike cX9_alike 6 (some .int) ∈ lw_tbl := List.mem_of_getElem? (i := 435) (by decide +kernel)
theorem kX9_alike_i : Cond.instanceMethod yX9_alike ∈ lw_tbl := List.mem_of_getElem? (i := 433) (by decide +kernel)
theorem kX9_alike_s : Cond.selects RX9 yX9_alike yX9_alike ∈ lw_tbl := List.mem_of_getElem? (i := 434) (by decide +kernel)
abbrev mX9_plan : Mt := (yX9_plan, cX9_plan, 7, (some .int))
theorem kX9_plan_c : Cond.code yX9_plan cX9_plan 7 (some .int) ∈ lw_tbl := List.mem_of_getElem? (i := 673) (by decide +kernel)
theorem kX9_plan_i : Cond.instanceMethod yX9_plan ∈ lw_tbl := List.mem_of_getElem? (i := 671) (by decide +kernel)
theorem kX9_plan_s : Cond.selects RX9 yX9_plan yX9_plan ∈ lw_tbl := List.mem_of_getElem? (i := 672) (by decide +kernel)
abbrev mX9_takes : Mt := (yX9_takes, cX9_takes, 8, (some .int))
theorem kX9_takes_c : Cond.code yX9_takes cX9_takes 8 (some .int) ∈ lw_tbl := List.mem_of_getElem? (i := 699) (by decide +kernel)
theorem kX9_takes_i : Cond.instanceMethod yX9_takes ∈ lw_tbl := List.mem_of_getElem? (i := 697) (by decide +kernel)
theorem kX9_takes_s : Cond.selects RX9 yX9_takes yX9_takes ∈ lw_tbl := List.mem_of_getElem? (i := 698) (by decide +kernel)
abbrev mX9_account : Mt := (yX9_account, cX9_account, 3, (some .int))
theorem kX9_account_c : Cond.code yX9_account cX9_account 3 (some .int) ∈ lw_tbl := List.mem_of_getElem? (i := 496) (by decide +kernel)
theorem kX9_account_i : Cond.instanceMethod yX9_account ∈ lw_tbl := List.mem_of_getElem? (i := 494) (by decide +kernel)
theorem kX9_account_s : Cond.selects RX9 yX9_account yX9_account ∈ lw_tbl := List.mem_of_getElem? (i := 495) (by decide +kernel)
abbrev mX9_count : Mt := (yX9_count, cX9_count, 2, (some .int))
theorem kX9_count_c : Cond.code yX9_count cX9_count 2 (some .int) ∈ lw_tbl := List.mem_of_getElem? (i := 464) (by decide +kernel)
theorem kX9_count_i : Cond.instanceMethod yX9_count ∈ lw_tbl := List.mem_of_getElem? (i := 462) (by decide +kernel)
theorem kX9_count_s : Cond.selects RX9 yX9_count yX9_count ∈ lw_tbl := List.mem_of_getElem? (i := 463) (by decide +kernel)
abbrev mX9_set : Mt := (yX9_set, cX9_set, 3, (some .int))
theorem kX9_set_c : Cond.code yX9_set cX9_set 3 (some .int) ∈ lw_tbl := List.mem_of_getElem? (i := 704) (by decide +kernel)
theorem kX9_set_i : Cond.instanceMethod yX9_set ∈ lw_tbl := List.mem_of_getElem? (i := 702) (by decide +kernel)
theorem kX9_set_s : Cond.selects RX9 yX9_set yX9_set ∈ lw_tbl := List.mem_of_getElem? (i := 703) (by decide +kernel)
abbrev mX9_undo : Mt := (yX9_undo, cX9_undo, 1, (some .int))
theorem kX9_undo_c : Cond.code yX9_undo cX9_undo 1 (some .int) ∈ lw_tbl := List.mem_of_getElem? (i := 480) (by decide +kernel)
theorem kX9_undo_i : Cond.instanceMethod yX9_undo ∈ lw_tbl := List.mem_of_getElem? (i := 478) (by decide +kernel)
theorem kX9_undo_s : Cond.selects RX9 yX9_undo yX9_undo ∈ lw_tbl := List.mem_of_getElem? (i := 479) (by decide +kernel)
abbrev mX9_type : Mt := (yX9_type, cX9_type, 2, (some .int))
theorem kX9_type_c : Cond.code yX9_type cX9_type 2 (some .int) ∈ lw_tbl := List.mem_of_getElem? (i := 717) (by decide +kernel)
theorem kX9_type_i : Cond.instanceMethod yX9_type ∈ lw_tbl := List.mem_of_getElem? (i := 715) (by decide +kernel)
theorem kX9_type_s : Cond.selects RX9 yX9_type yX9_type ∈ lw_tbl := List.mem_of_getElem? (i := 716) (by decide +kernel)
abbrev mX9_clearText : Mt := (yX9_clearText, cX9_clearText, 1, (some .int))
theorem kX9_clearText_c : Cond.code yX9_clearText cX9_clearText 1 (some .int) ∈ lw_tbl := List.mem_of_getElem? (i := 783) (by decide +kernel)
theorem kX9_clearText_i : Cond.instanceMethod yX9_clearText ∈ lw_tbl := List.mem_of_getElem? (i := 781) (by decide +kernel)
theorem kX9_clearText_s : Cond.selects RX9 yX9_clearText yX9_clearText ∈ lw_tbl := List.mem_of_getElem? (i := 782) (by decide +kernel)
abbrev mX9_fault : Mt := (yX9_fault, cX9_fault, 2, (some .int))
theorem kX9_fault_c : Cond.code yX9_fault cX9_fault 2 (some .int) ∈ lw_tbl := List.mem_of_getElem? (i := 725) (by decide +kernel)
theorem kX9_fault_i : Cond.instanceMethod yX9_fault ∈ lw_tbl := List.mem_of_getElem? (i := 723) (by decide +kernel)
theorem kX9_fault_s : Cond.selects RX9 yX9_fault yX9_fault ∈ lw_tbl := List.mem_of_getElem? (i := 724) (by decide +kernel)
abbrev mX9_play : Mt := (yX9_play, cX9_play, 1, (some .int))
theorem kX9_play_c : Cond.code yX9_play cX9_play 1 (some .int) ∈ lw_tbl := List.mem_of_getElem? (i := 791) (by decide +kernel)
theorem kX9_play_i : Cond.instanceMethod yX9_play ∈ lw_tbl := List.mem_of_getElem? (i := 789) (by decide +kernel)
theorem kX9_play_s : Cond.selects RX9 yX9_play yX9_play ∈ lw_tbl := List.mem_of_getElem? (i := 790) (by decide +kernel)
abbrev mX9_isDye : Mt := (yX9_isDye, cX9_isDye, 1, (some .boolean))
theorem kX9_isDye_c : Cond.code yX9_isDye cX9_isDye 1 (some .boolean) ∈ lw_tbl := List.mem_of_getElem? (i := 349) (by decide +kernel)
theorem kX9_isDye_t : Cond.static yX9_isDye ∈ lw_tbl := List.mem_of_getElem? (i := 348) (by decide +kernel)
abbrev mX9_oneIf : Mt := (yX9_oneIf, cX9_oneIf, 1, (some .int))
theorem kX9_oneIf_c : Cond.code yX9_oneIf cX9_oneIf 1 (some .int) ∈ lw_tbl := List.mem_of_getElem? (i := 542) (by decide +kernel)
theorem kX9_oneIf_t : Cond.static yX9_oneIf ∈ lw_tbl := List.mem_of_getElem? (i := 541) (by decide +kernel)
abbrev mX9_distance : Mt := (yX9_distance, cX9_distance, 2, (some .int))
theorem kX9_distance_c : Cond.code yX9_distance cX9_distance 2 (some .int) ∈ lw_tbl := List.mem_of_getElem? (i := 566) (by decide +kernel)
theorem kX9_distance_t : Cond.static yX9_distance ∈ lw_tbl := List.mem_of_getElem? (i := 565) (by decide +kernel)
abbrev mX9_cellAt : Mt := (yX9_cellAt, cX9_cellAt, 2, (some .int))
theorem kX9_cellAt_c : Cond.code yX9_cellAt cX9_cellAt 2 (some .int) ∈ lw_tbl := List.mem_of_getElem? (i := 373) (by decide +kernel)
theorem kX9_cellAt_t : Cond.static yX9_cellAt ∈ lw_tbl := List.mem_of_getElem? (i := 372) (by decide +kernel)
abbrev mX9_putAt : Mt := (yX9_putAt, cX9_putAt, 3, none)
theorem kX9_putAt_c : Cond.code yX9_putAt cX9_putAt 3 none ∈ lw_tbl := List.mem_of_getElem? (i := 431) (by decide +kernel)
theorem kX9_putAt_t : Cond.static yX9_putAt ∈ lw_tbl := List.mem_of_getElem? (i := 430) (by decide +kernel)
abbrev mX9_addTo : Mt := (yX9_addTo, cX9_addTo, 3, none)
theorem kX9_addTo_c : Cond.code yX9_addTo cX9_addTo 3 none ∈ lw_tbl := List.mem_of_getElem? (i := 377) (by decide +kernel)
theorem kX9_addTo_t : Cond.static yX9_addTo ∈ lw_tbl := List.mem_of_getElem? (i := 376) (by decide +kernel)
abbrev mX9_sumOf : Mt := (yX9_sumOf, cX9_sumOf, 3, (some .int))
theorem kX9_sumOf_c : Cond.code yX9_sumOf cX9_sumOf 3 (some .int) ∈ lw_tbl := List.mem_of_getElem? (i := 538) (by decide +kernel)
theorem kX9_sumOf_t : Cond.static yX9_sumOf ∈ lw_tbl := List.mem_of_getElem? (i := 537) (by decide +kernel)
abbrev mX9_copyRow : Mt := (yX9_copyRow, cX9_copyRow, 3, none)
theorem kX9_copyRow_c : Cond.code yX9_copyRow cX9_copyRow 3 none ∈ lw_tbl := List.mem_of_getElem? (i := 311) (by decide +kernel)
theorem kX9_copyRow_t : Cond.static yX9_copyRow ∈ lw_tbl := List.mem_of_getElem? (i := 310) (by decide +kernel)
abbrev mX9_bitsOf : Mt := (yX9_bitsOf, cX9_bitsOf, 4, (some .int))
theorem kX9_bitsOf_c : Cond.code yX9_bitsOf cX9_bitsOf 4 (some .int) ∈ lw_tbl := List.mem_of_getElem? (i := 526) (by decide +kernel)
theorem kX9_bitsOf_t : Cond.static yX9_bitsOf ∈ lw_tbl := List.mem_of_getElem? (i := 525) (by decide +kernel)
theorem kX0_n : Cond.initialized RX0 ∈ lw_tbl := List.mem_of_getElem? (i := 17) (by decide +kernel)
theorem kX1_n : Cond.initialized RX1 ∈ lw_tbl := List.mem_of_getElem? (i := 12) (by decide +kernel)
theorem kX2_n : Cond.initialized RX2 ∈ lw_tbl := List.mem_of_getElem? (i := 15) (by decide +kernel)
theorem kX3_n : Cond.initialized RX3 ∈ lw_tbl := List.mem_of_getElem? (i := 16) (by decide +kernel)
theorem kX4_n : Cond.initialized RX4 ∈ lw_tbl := List.mem_of_getElem? (i := 20) (by decide +kernel)
theorem kX5_n : Cond.initialized RX5 ∈ lw_tbl := List.mem_of_getElem? (i := 19) (by decide +kernel)
theorem kX6_n : Cond.initialized RX6 ∈ lw_tbl := List.mem_of_getElem? (i := 13) (by decide +kernel)
theorem kX7_n : Cond.initialized RX7 ∈ lw_tbl := List.mem_of_getElem? (i := 18) (by decide +kernel)
theorem kX8_n : Cond.initialized RX8 ∈ lw_tbl := List.mem_of_getElem? (i := 14) (by decide +kernel)
theorem kX9_n : Cond.initialized RX9 ∈ lw_tbl := List.mem_of_getElem? (i := 11) (by decide +kernel)

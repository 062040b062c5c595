-- ===== PART A: goes FIRST, ahead of the names: the tables' words, and 'selects' of the private methods out of them =====
/-- a private method of a class that the tables say can be made, by its rows of tables_1 -/
def lw_okq (q : MethodName × Nat) : Prop := (q.1.cls ≠ "java/lang/invoke/MethodHandle" ∧ q.1.cls ≠ "java/lang/invoke/VarHandle") ∧ Cond.instantiable q.1.cls q.2 ∈ tables_1 ∧ Cond.privateMethod q.1 ∈ tables_1 ∧ Cond.instanceMethod q.1 ∈ tables_1
theorem lw_p0 : lw_okq (⟨"WindBoxes", "passHour", "(I)V"⟩, 6) := ⟨⟨by decide +kernel, by decide +kernel⟩, List.mem_of_getElem? (i := 12) (by decide +kernel), List.mem_of_getElem? (i := 288) (by decide +kernel), List.mem_of_getElem? (i := 289) (by decide +kernel)⟩
theorem lw_p1 : lw_okq (⟨"WindBoxesModel", "given", "(I)I"⟩, 22) := ⟨⟨by decide +kernel, by decide +kernel⟩, List.mem_of_getElem? (i := 438) (by decide +kernel), List.mem_of_getElem? (i := 526) (by decide +kernel), List.mem_of_getElem? (i := 527) (by decide +kernel)⟩
theorem lw_p2 : lw_okq (⟨"WindBoxesModel", "findHeights", "()V"⟩, 22) := ⟨⟨by decide +kernel, by decide +kernel⟩, List.mem_of_getElem? (i := 438) (by decide +kernel), List.mem_of_getElem? (i := 545) (by decide +kernel), List.mem_of_getElem? (i := 546) (by decide +kernel)⟩
theorem lw_p3 : lw_okq (⟨"WindBoxesModel", "stillAt", "(I)J"⟩, 22) := ⟨⟨by decide +kernel, by decide +kernel⟩, List.mem_of_getElem? (i := 438) (by decide +kernel), List.mem_of_getElem? (i := 551) (by decide +kernel), List.mem_of_getElem? (i := 552) (by decide +kernel)⟩
theorem lw_p4 : lw_okq (⟨"WindBoxesModel", "against", "(II)I"⟩, 22) := ⟨⟨by decide +kernel, by decide +kernel⟩, List.mem_of_getElem? (i := 438) (by decide +kernel), List.mem_of_getElem? (i := 576) (by decide +kernel), List.mem_of_getElem? (i := 577) (by decide +kernel)⟩
theorem lw_p5 : lw_okq (⟨"WindBoxesModel", "carry", "(II)V"⟩, 22) := ⟨⟨by decide +kernel, by decide +kernel⟩, List.mem_of_getElem? (i := 438) (by decide +kernel), List.mem_of_getElem? (i := 610) (by decide +kernel), List.mem_of_getElem? (i := 611) (by decide +kernel)⟩
theorem lw_p6 : lw_okq (⟨"WindBoxesModel", "write", "(I)V"⟩, 22) := ⟨⟨by decide +kernel, by decide +kernel⟩, List.mem_of_getElem? (i := 438) (by decide +kernel), List.mem_of_getElem? (i := 615) (by decide +kernel), List.mem_of_getElem? (i := 616) (by decide +kernel)⟩
theorem lw_p7 : lw_okq (⟨"WindBoxesModel", "numberAt", "(II)J"⟩, 22) := ⟨⟨by decide +kernel, by decide +kernel⟩, List.mem_of_getElem? (i := 438) (by decide +kernel), List.mem_of_getElem? (i := 623) (by decide +kernel), List.mem_of_getElem? (i := 624) (by decide +kernel)⟩
theorem lw_p8 : lw_okq (⟨"WindBoxesModel", "told", "(I)I"⟩, 22) := ⟨⟨by decide +kernel, by decide +kernel⟩, List.mem_of_getElem? (i := 438) (by decide +kernel), List.mem_of_getElem? (i := 632) (by decide +kernel), List.mem_of_getElem? (i := 633) (by decide +kernel)⟩
theorem lw_p9 : lw_okq (⟨"WindBoxesModel", "setTenths", "(III)V"⟩, 22) := ⟨⟨by decide +kernel, by decide +kernel⟩, List.mem_of_getElem? (i := 438) (by decide +kernel), List.mem_of_getElem? (i := 658) (by decide +kernel), List.mem_of_getElem? (i := 659) (by decide +kernel)⟩
theorem lw_p10 : lw_okq (⟨"WindBoxesModel", "isKeptAt", "(I)Z"⟩, 22) := ⟨⟨by decide +kernel, by decide +kernel⟩, List.mem_of_getElem? (i := 438) (by decide +kernel), List.mem_of_getElem? (i := 662) (by decide +kernel), List.mem_of_getElem? (i := 663) (by decide +kernel)⟩
def lw_privs_1 : List (MethodName × Nat) := [(⟨"WindBoxes", "passHour", "(I)V"⟩, 6), (⟨"WindBoxesModel", "given", "(I)I"⟩, 22), (⟨"WindBoxesModel", "findHeights", "()V"⟩, 22), (⟨"WindBoxesModel", "stillAt", "(I)J"⟩, 22), (⟨"WindBoxesModel", "against", "(II)I"⟩, 22), (⟨"WindBoxesModel", "carry", "(II)V"⟩, 22), (⟨"WindBoxesModel", "write", "(I)V"⟩, 22), (⟨"WindBoxesModel", "numberAt", "(II)J"⟩, 22), (⟨"WindBoxesModel", "told", "(I)I"⟩, 22), (⟨"WindBoxesModel", "setTenths", "(III)V"⟩, 22), (⟨"WindBoxesModel", "isKeptAt", "(I)Z"⟩, 22)]
theorem lw_r1 : ∀ q ∈ lw_privs_1, lw_okq q := List.forall_mem_cons.mpr ⟨lw_p0, List.forall_mem_cons.mpr ⟨lw_p1, List.forall_mem_cons.mpr ⟨lw_p2, List.forall_mem_cons.mpr ⟨lw_p3, List.forall_mem_cons.mpr ⟨lw_p4, List.forall_mem_cons.mpr ⟨lw_p5, List.forall_mem_cons.mpr ⟨lw_p6, List.forall_mem_cons.mpr ⟨lw_p7, List.forall_mem_cons.mpr ⟨lw_p8, List.forall_mem_cons.mpr ⟨lw_p9, List.forall_mem_cons.mpr ⟨lw_p10, fun _ h => absurd h List.not_mem_nil⟩⟩⟩⟩⟩⟩⟩⟩⟩⟩⟩
def lw_privs : List (MethodName × Nat) := lw_privs_1
def lw_tbl : List Cond := k2_sels lw_privs ++ tables_1
theorem lw_privs_ok : ∀ q ∈ lw_privs, lw_okq q := lw_r1
def RX0 : String := "WindBoxes$Air"
def TX0 : u_T := fun k => match k with
  | 0 => ("WindBoxes$Air", "winds", "[I", true)
  | 1 => ("WindBoxes$Air", "heights", "[J", true)
  | _ => ("WindBoxes$Air", "net", "[J", true)
def tyX0 : Nat → FieldType := fun k => match k with
  | 0 => .array .int
  | 1 => .array .long
  | _ => .array .long
theorem nmX0 : ∀ a, a < 3 → ∀ b, b < 3 → a ≠ b → (TX0 a).2.1 ≠ (TX0 b).2.1 := by decide +kernel
theorem tyX0_ok : ∀ k, k < 3 → parseFieldDescriptor (TX0 k).2.2.1 = some (tyX0 k) := by decide +kernel
abbrev cX0_init : ByteArray := prog_2_method_1_code
def yX0_init : MethodName := ⟨RX0, "<init>", "()V"⟩
abbrev cX0_surplus : ByteArray := prog_2_method_2_code
def yX0_surplus : MethodName := ⟨RX0, "surplus", "(I)I"⟩
abbrev cX0_settle : ByteArray := prog_2_method_3_code
def yX0_settle : MethodName := ⟨RX0, "settle", "()V"⟩
abbrev cX0_changeAt : ByteArray := prog_2_method_4_code
def yX0_changeAt : MethodName := ⟨RX0, "changeAt", "(I)J"⟩
abbrev cX0_squaresOfChanges : ByteArray := prog_2_method_5_code
def yX0_squaresOfChanges : MethodName := ⟨RX0, "squaresOfChanges", "()J"⟩
def RX1 : String := "WindBoxes$Law"
def TX1 : u_T := fun k => match k with
  | 0 => ("WindBoxes$Law", "prices", "[I", true)
  | 1 => ("WindBoxes$Law", "cuts", "[I", true)
  | 2 => ("WindBoxes$Law", "leastCost", "I", false)
  | 3 => ("WindBoxes$Law", "limit", "I", false)
  | _ => ("WindBoxes$Law", "most", "I", false)
def tyX1 : Nat → FieldType := fun k => match k with
  | 0 => .array .int
  | 1 => .array .int
  | 2 => .int
  | 3 => .int
  | _ => .int
theorem nmX1 : ∀ a, a < 5 → ∀ b, b < 5 → a ≠ b → (TX1 a).2.1 ≠ (TX1 b).2.1 := by decide +kernel
theorem tyX1_ok : ∀ k, k < 5 → parseFieldDescriptor (TX1 k).2.2.1 = some (tyX1 k) := by decide +kernel
abbrev cX1_init : ByteArray := prog_3_method_1_code
def yX1_init : MethodName := ⟨RX1, "<init>", "()V"⟩
abbrev cX1_doorsKeptAt : ByteArray := prog_3_method_2_code
def yX1_doorsKeptAt : MethodName := ⟨RX1, "doorsKeptAt", "([LWindBoxes$Log;)I"⟩
abbrev cX1_isKeptAt : ByteArray := prog_3_method_3_code
def yX1_isKeptAt : MethodName := ⟨RX1, "isKeptAt", "(LWindBoxes$Log;III)Z"⟩
abbrev cX1_isKept : ByteArray := prog_3_method_4_code
def yX1_isKept : MethodName := ⟨RX1, "isKept", "([LWindBoxes$Log;III)Z"⟩
abbrev cX1_seekCuts : ByteArray := prog_3_method_5_code
def yX1_seekCuts : MethodName := ⟨RX1, "seekCuts", "([LWindBoxes$Log;)V"⟩
abbrev cX1_offer : ByteArray := prog_3_method_6_code
def yX1_offer : MethodName := ⟨RX1, "offer", "(III)V"⟩
def RX2 : String := "WindBoxes$Log"
def TX2 : u_T := fun k => match k with
  | 0 => ("WindBoxes$Log", "numbers", "[J", true)
  | 1 => ("WindBoxes$Log", "shares", "[[J", true)
  | 2 => ("WindBoxes$Log", "gaps", "[Z", true)
  | 3 => ("WindBoxes$Log", "box", "I", false)
  | 4 => ("WindBoxes$Log", "count", "I", false)
  | 5 => ("WindBoxes$Log", "latest", "I", false)
  | 6 => ("WindBoxes$Log", "lost", "Z", false)
  | _ => ("WindBoxes$Log", "watched", "Z", false)
def tyX2 : Nat → FieldType := fun k => match k with
  | 0 => .array .long
  | 1 => .array (.array .long)
  | 2 => .array .boolean
  | 3 => .int
  | 4 => .int
  | 5 => .int
  | 6 => .boolean
  | _ => .boolean
theorem nmX2 : ∀ a, a < 8 → ∀ b, b < 8 → a ≠ b → (TX2 a).2.1 ≠ (TX2 b).2.1 := by decide +kernel
theorem tyX2_ok : ∀ k, k < 8 → parseFieldDescriptor (TX2 k).2.2.1 = some (tyX2 k) := by decide +kernel
abbrev cX2_init : ByteArray := prog_4_method_1_code
def yX2_init : MethodName := ⟨RX2, "<init>", "()V"⟩
abbrev cX2_move : ByteArray := prog_4_method_2_code
def yX2_move : MethodName := ⟨RX2, "move", "(I)I"⟩
abbrev cX2_write : ByteArray := prog_4_method_3_code
def yX2_write : MethodName := ⟨RX2, "write", "([LWindBoxes$Stuff;)V"⟩
abbrev cX2_slotOf : ByteArray := prog_4_method_4_code
def yX2_slotOf : MethodName := ⟨RX2, "slotOf", "(I)I"⟩
abbrev cX2_countOfWritten : ByteArray := prog_4_method_5_code
def yX2_countOfWritten : MethodName := ⟨RX2, "countOfWritten", "()I"⟩
abbrev cX2_writtenIn : ByteArray := prog_4_method_6_code
def yX2_writtenIn : MethodName := ⟨RX2, "writtenIn", "(II)I"⟩
abbrev cX2_sumIn : ByteArray := prog_4_method_7_code
def yX2_sumIn : MethodName := ⟨RX2, "sumIn", "(II)J"⟩
abbrev cX2_meanOfWritten : ByteArray := prog_4_method_8_code
def yX2_meanOfWritten : MethodName := ⟨RX2, "meanOfWritten", "()J"⟩
abbrev cX2_greatest : ByteArray := prog_4_method_9_code
def yX2_greatest : MethodName := ⟨RX2, "greatest", "(I)J"⟩
abbrev cX2_countAbove : ByteArray := prog_4_method_10_code
def yX2_countAbove : MethodName := ⟨RX2, "countAbove", "(J)I"⟩
abbrev cX2_greatestMean : ByteArray := prog_4_method_11_code
def yX2_greatestMean : MethodName := ⟨RX2, "greatestMean", "(I)J"⟩
abbrev cX2_isAboveAtMost : ByteArray := prog_4_method_12_code
def yX2_isAboveAtMost : MethodName := ⟨RX2, "isAboveAtMost", "(IJIII)Z"⟩
def RX3 : String := "WindBoxes$Sheet"
def TX3 : u_T := fun k => match k with
  | 0 => ("WindBoxes$Sheet", "items", "[I", true)
  | 1 => ("WindBoxes$Sheet", "held", "Z", false)
  | 2 => ("WindBoxes$Sheet", "lane", "I", false)
  | _ => ("WindBoxes$Sheet", "length", "I", false)
def tyX3 : Nat → FieldType := fun k => match k with
  | 0 => .array .int
  | 1 => .boolean
  | 2 => .int
  | _ => .int
theorem nmX3 : ∀ a, a < 4 → ∀ b, b < 4 → a ≠ b → (TX3 a).2.1 ≠ (TX3 b).2.1 := by decide +kernel
theorem tyX3_ok : ∀ k, k < 4 → parseFieldDescriptor (TX3 k).2.2.1 = some (tyX3 k) := by decide +kernel
abbrev cX3_init : ByteArray := prog_5_method_1_code
def yX3_init : MethodName := ⟨RX3, "<init>", "()V"⟩
abbrev cX3_begin : ByteArray := prog_5_method_2_code
def yX3_begin : MethodName := ⟨RX3, "begin", "(II)V"⟩
abbrev cX3_isOf : ByteArray := prog_5_method_3_code
def yX3_isOf : MethodName := ⟨RX3, "isOf", "(I)Z"⟩
abbrev cX3_areRates : ByteArray := prog_5_method_4_code
def yX3_areRates : MethodName := ⟨RX3, "areRates", "()Z"⟩
def RX4 : String := "WindBoxes$Stuff"
def TX4 : u_T := fun k => match k with
  | 0 => ("WindBoxes$Stuff", "rates", "[I", true)
  | 1 => ("WindBoxes$Stuff", "places", "[J", true)
  | 2 => ("WindBoxes$Stuff", "before", "[J", true)
  | 3 => ("WindBoxes$Stuff", "home", "I", false)
  | 4 => ("WindBoxes$Stuff", "given", "J", false)
  | 5 => ("WindBoxes$Stuff", "washed", "J", false)
  | _ => ("WindBoxes$Stuff", "laid", "J", false)
def tyX4 : Nat → FieldType := fun k => match k with
  | 0 => .array .int
  | 1 => .array .long
  | 2 => .array .long
  | 3 => .int
  | 4 => .long
  | 5 => .long
  | _ => .long
theorem nmX4 : ∀ a, a < 7 → ∀ b, b < 7 → a ≠ b → (TX4 a).2.1 ≠ (TX4 b).2.1 := by decide +kernel
theorem tyX4_ok : ∀ k, k < 7 → parseFieldDescriptor (TX4 k).2.2.1 = some (tyX4 k) := by decide +kernel
abbrev cX4_init : ByteArray := prog_6_method_1_code
def yX4_init : MethodName := ⟨RX4, "<init>", "()V"⟩
abbrev cX4_stand : ByteArray := prog_6_method_2_code
def yX4_stand : MethodName := ⟨RX4, "stand", "(I[I)I"⟩
abbrev cX4_giveOff : ByteArray := prog_6_method_3_code
def yX4_giveOff : MethodName := ⟨RX4, "giveOff", "(I)V"⟩
abbrev cX4_fallOut : ByteArray := prog_6_method_4_code
def yX4_fallOut : MethodName := ⟨RX4, "fallOut", "(I)V"⟩
abbrev cX4_blow : ByteArray := prog_6_method_5_code
def yX4_blow : MethodName := ⟨RX4, "blow", "([J)V"⟩
abbrev cX4_inBoxes : ByteArray := prog_6_method_6_code
def yX4_inBoxes : MethodName := ⟨RX4, "inBoxes", "()J"⟩
def RX5 : String := "WindBoxes"
def TX5 : u_T := fun k => match k with
  | 0 => ("WindBoxes", "air", "LWindBoxes$Air;", true)
  | 1 => ("WindBoxes", "sheets", "[LWindBoxes$Sheet;", true)
  | 2 => ("WindBoxes", "stuffs", "[LWindBoxes$Stuff;", true)
  | 3 => ("WindBoxes", "logs", "[LWindBoxes$Log;", true)
  | 4 => ("WindBoxes", "rule", "LWindBoxes$Law;", true)
  | _ => ("WindBoxes", "time", "I", false)
def tyX5 : Nat → FieldType := fun k => match k with
  | 0 => .object "WindBoxes$Air"
  | 1 => .array (.object "WindBoxes$Sheet")
  | 2 => .array (.object "WindBoxes$Stuff")
  | 3 => .array (.object "WindBoxes$Log")
  | 4 => .object "WindBoxes$Law"
  | _ => .int
theorem nmX5 : ∀ a, a < 6 → ∀ b, b < 6 → a ≠ b → (TX5 a).2.1 ≠ (TX5 b).2.1 := by decide +kernel
theorem tyX5_ok : ∀ k, k < 6 → parseFieldDescriptor (TX5 k).2.2.1 = some (tyX5 k) := by decide +kernel
abbrev cX5_init : ByteArray := prog_1_method_1_code
def yX5_init : MethodName := ⟨RX5, "<init>", "()V"⟩
abbrev cX5_wind : ByteArray := prog_1_method_2_code
def yX5_wind : MethodName := ⟨RX5, "wind", "(II)I"⟩
abbrev cX5_gives : ByteArray := prog_1_method_3_code
def yX5_gives : MethodName := ⟨RX5, "gives", "(I)I"⟩
abbrev cX5_still : ByteArray := prog_1_method_4_code
def yX5_still : MethodName := ⟨RX5, "still", "(I)J"⟩
abbrev cX5_change : ByteArray := prog_1_method_5_code
def yX5_change : MethodName := ⟨RX5, "change", "()J"⟩
abbrev cX5_sheet : ByteArray := prog_1_method_6_code
def yX5_sheet : MethodName := ⟨RX5, "sheet", "(III)I"⟩
abbrev cX5_drop : ByteArray := prog_1_method_7_code
def yX5_drop : MethodName := ⟨RX5, "drop", "(I)I"⟩
abbrev cX5_item : ByteArray := prog_1_method_8_code
def yX5_item : MethodName := ⟨RX5, "item", "(IIII)I"⟩
abbrev cX5_source : ByteArray := prog_1_method_9_code
def yX5_source : MethodName := ⟨RX5, "source", "(IIII)I"⟩
abbrev cX5_door : ByteArray := prog_1_method_10_code
def yX5_door : MethodName := ⟨RX5, "door", "(II)I"⟩
abbrev cX5_lose : ByteArray := prog_1_method_11_code
def yX5_lose : MethodName := ⟨RX5, "lose", "(IZ)I"⟩
abbrev cX5_hours : ByteArray := prog_1_method_12_code
def yX5_hours : MethodName := ⟨RX5, "hours", "(II)I"⟩
abbrev cX5_grains : ByteArray := prog_1_method_13_code
def yX5_grains : MethodName := ⟨RX5, "grains", "(II)J"⟩
abbrev cX5_total : ByteArray := prog_1_method_14_code
def yX5_total : MethodName := ⟨RX5, "total", "(II)J"⟩
abbrev cX5_hour : ByteArray := prog_1_method_15_code
def yX5_hour : MethodName := ⟨RX5, "hour", "(III)J"⟩
abbrev cX5_kept : ByteArray := prog_1_method_16_code
def yX5_kept : MethodName := ⟨RX5, "kept", "(II)I"⟩
abbrev cX5_mean : ByteArray := prog_1_method_17_code
def yX5_mean : MethodName := ⟨RX5, "mean", "(I)J"⟩
abbrev cX5_rank : ByteArray := prog_1_method_18_code
def yX5_rank : MethodName := ⟨RX5, "rank", "(II)J"⟩
abbrev cX5_rolling : ByteArray := prog_1_method_19_code
def yX5_rolling : MethodName := ⟨RX5, "rolling", "(II)J"⟩
abbrev cX5_watch : ByteArray := prog_1_method_20_code
def yX5_watch : MethodName := ⟨RX5, "watch", "(IZ)I"⟩
abbrev cX5_law : ByteArray := prog_1_method_21_code
def yX5_law : MethodName := ⟨RX5, "law", "(II)I"⟩
abbrev cX5_price : ByteArray := prog_1_method_22_code
def yX5_price : MethodName := ⟨RX5, "price", "(II)I"⟩
abbrev cX5_cheapest : ByteArray := prog_1_method_23_code
def yX5_cheapest : MethodName := ⟨RX5, "cheapest", "(I)I"⟩
abbrev cX5_isBelow : ByteArray := prog_1_method_24_code
def yX5_isBelow : MethodName := ⟨RX5, "isBelow", "(II)Z"⟩
abbrev cX5_isLane : ByteArray := prog_1_method_25_code
def yX5_isLane : MethodName := ⟨RX5, "isLane", "(I)Z"⟩
abbrev cX5_passHour : ByteArray := prog_1_method_26_code
def yX5_passHour : MethodName := ⟨RX5, "passHour", "(I)V"⟩
def RX6 : String := "WindBoxesModel"
def TX6 : u_T := fun k => match k with
  | 0 => ("WindBoxesModel", "winds", "[I", true)
  | 1 => ("WindBoxesModel", "matrix", "[J", true)
  | 2 => ("WindBoxesModel", "heights", "[J", true)
  | 3 => ("WindBoxesModel", "lanes", "[I", true)
  | 4 => ("WindBoxesModel", "sizes", "[I", true)
  | 5 => ("WindBoxesModel", "items", "[I", true)
  | 6 => ("WindBoxesModel", "stands", "[I", true)
  | 7 => ("WindBoxesModel", "rates", "[I", true)
  | 8 => ("WindBoxesModel", "grains", "[J", true)
  | 9 => ("WindBoxesModel", "totals", "[J", true)
  | 10 => ("WindBoxesModel", "time", "I", false)
  | 11 => ("WindBoxesModel", "news", "[J", true)
  | 12 => ("WindBoxesModel", "doors", "[I", true)
  | 13 => ("WindBoxesModel", "lost", "[Z", true)
  | 14 => ("WindBoxesModel", "watched", "[Z", true)
  | 15 => ("WindBoxesModel", "many", "[I", true)
  | 16 => ("WindBoxesModel", "shares", "[J", true)
  | 17 => ("WindBoxesModel", "limit", "I", false)
  | 18 => ("WindBoxesModel", "often", "I", false)
  | 19 => ("WindBoxesModel", "prices", "[I", true)
  | 20 => ("WindBoxesModel", "tenths", "[I", true)
  | _ => ("WindBoxesModel", "best", "[I", true)
def tyX6 : Nat → FieldType := fun k => match k with
  | 0 => .array .int
  | 1 => .array .long
  | 2 => .array .long
  | 3 => .array .int
  | 4 => .array .int
  | 5 => .array .int
  | 6 => .array .int
  | 7 => .array .int
  | 8 => .array .long
  | 9 => .array .long
  | 10 => .int
  | 11 => .array .long
  | 12 => .array .int
  | 13 => .array .boolean
  | 14 => .array .boolean
  | 15 => .array .int
  | 16 => .array .long
  | 17 => .int
  | 18 => .int
  | 19 => .array .int
  | 20 => .array .int
  | _ => .array .int
theorem nmX6 : ∀ a, a < 22 → ∀ b, b < 22 → a ≠ b → (TX6 a).2.1 ≠ (TX6 b).2.1 := by decide +kernel
theorem tyX6_ok : ∀ k, k < 22 → parseFieldDescriptor (TX6 k).2.2.1 = some (tyX6 k) := by decide +kernel
abbrev cX6_in : ByteArray := prog_8_method_1_code
def yX6_in : MethodName := ⟨RX6, "in", "(JJJ)Z"⟩
abbrev cX6_init : ByteArray := prog_8_method_2_code
def yX6_init : MethodName := ⟨RX6, "<init>", "()V"⟩
abbrev cX6_wind : ByteArray := prog_8_method_3_code
def yX6_wind : MethodName := ⟨RX6, "wind", "(II)I"⟩
abbrev cX6_boxAt : ByteArray := prog_8_method_4_code
def yX6_boxAt : MethodName := ⟨RX6, "boxAt", "(II)I"⟩
abbrev cX6_fromOf : ByteArray := prog_8_method_5_code
def yX6_fromOf : MethodName := ⟨RX6, "fromOf", "(I)I"⟩
abbrev cX6_toOf : ByteArray := prog_8_method_6_code
def yX6_toOf : MethodName := ⟨RX6, "toOf", "(I)I"⟩
abbrev cX6_given : ByteArray := prog_8_method_7_code
def yX6_given : MethodName := ⟨RX6, "given", "(I)I"⟩
abbrev cX6_gives : ByteArray := prog_8_method_8_code
def yX6_gives : MethodName := ⟨RX6, "gives", "(I)I"⟩
abbrev cX6_findHeights : ByteArray := prog_8_method_9_code
def yX6_findHeights : MethodName := ⟨RX6, "findHeights", "()V"⟩
abbrev cX6_stillAt : ByteArray := prog_8_method_10_code
def yX6_stillAt : MethodName := ⟨RX6, "stillAt", "(I)J"⟩
abbrev cX6_still : ByteArray := prog_8_method_11_code
def yX6_still : MethodName := ⟨RX6, "still", "(I)J"⟩
abbrev cX6_change : ByteArray := prog_8_method_12_code
def yX6_change : MethodName := ⟨RX6, "change", "()J"⟩
abbrev cX6_isSheet : ByteArray := prog_8_method_13_code
def yX6_isSheet : MethodName := ⟨RX6, "isSheet", "(II)Z"⟩
abbrev cX6_sheet : ByteArray := prog_8_method_14_code
def yX6_sheet : MethodName := ⟨RX6, "sheet", "(III)I"⟩
abbrev cX6_drop : ByteArray := prog_8_method_15_code
def yX6_drop : MethodName := ⟨RX6, "drop", "(I)I"⟩
abbrev cX6_against : ByteArray := prog_8_method_16_code
def yX6_against : MethodName := ⟨RX6, "against", "(II)I"⟩
abbrev cX6_item : ByteArray := prog_8_method_17_code
def yX6_item : MethodName := ⟨RX6, "item", "(IIII)I"⟩
abbrev cX6_source : ByteArray := prog_8_method_18_code
def yX6_source : MethodName := ⟨RX6, "source", "(IIII)I"⟩
abbrev cX6_carry : ByteArray := prog_8_method_19_code
def yX6_carry : MethodName := ⟨RX6, "carry", "(II)V"⟩
abbrev cX6_grains : ByteArray := prog_8_method_20_code
def yX6_grains : MethodName := ⟨RX6, "grains", "(II)J"⟩
abbrev cX6_total : ByteArray := prog_8_method_21_code
def yX6_total : MethodName := ⟨RX6, "total", "(II)J"⟩
abbrev cX6_isDoor : ByteArray := prog_8_method_22_code
def yX6_isDoor : MethodName := ⟨RX6, "isDoor", "(I)Z"⟩
abbrev cX6_door : ByteArray := prog_8_method_23_code
def yX6_door : MethodName := ⟨RX6, "door", "(II)I"⟩
abbrev cX6_lose : ByteArray := prog_8_method_24_code
def yX6_lose : MethodName := ⟨RX6, "lose", "(IZ)I"⟩
abbrev cX6_write : ByteArray := prog_8_method_25_code
def yX6_write : MethodName := ⟨RX6, "write", "(I)V"⟩
abbrev cX6_hours : ByteArray := prog_8_method_26_code
def yX6_hours : MethodName := ⟨RX6, "hours", "(II)I"⟩
abbrev cX6_numberAt : ByteArray := prog_8_method_27_code
def yX6_numberAt : MethodName := ⟨RX6, "numberAt", "(II)J"⟩
abbrev cX6_hour : ByteArray := prog_8_method_28_code
def yX6_hour : MethodName := ⟨RX6, "hour", "(III)J"⟩
abbrev cX6_told : ByteArray := prog_8_method_29_code
def yX6_told : MethodName := ⟨RX6, "told", "(I)I"⟩
abbrev cX6_kept : ByteArray := prog_8_method_30_code
def yX6_kept : MethodName := ⟨RX6, "kept", "(II)I"⟩
abbrev cX6_mean : ByteArray := prog_8_method_31_code
def yX6_mean : MethodName := ⟨RX6, "mean", "(I)J"⟩
abbrev cX6_rank : ByteArray := prog_8_method_32_code
def yX6_rank : MethodName := ⟨RX6, "rank", "(II)J"⟩
abbrev cX6_rolling : ByteArray := prog_8_method_33_code
def yX6_rolling : MethodName := ⟨RX6, "rolling", "(II)J"⟩
abbrev cX6_watch : ByteArray := prog_8_method_34_code
def yX6_watch : MethodName := ⟨RX6, "watch", "(IZ)I"⟩
abbrev cX6_isKeptAt : ByteArray := prog_8_method_35_code
def yX6_isKeptAt : MethodName := ⟨RX6, "isKeptAt", "(I)Z"⟩
abbrev cX6_setTenths : ByteArray := prog_8_method_36_code
def yX6_setTenths : MethodName := ⟨RX6, "setTenths", "(III)V"⟩
abbrev cX6_law : ByteArray := prog_8_method_37_code
def yX6_law : MethodName := ⟨RX6, "law", "(II)I"⟩
abbrev cX6_price : ByteArray := prog_8_method_38_code
def yX6_price : MethodName := ⟨RX6, "price", "(II)I"⟩
abbrev cX6_cheapest : ByteArray := prog_8_method_39_code
def yX6_cheapest : MethodName := ⟨RX6, "cheapest", "(I)I"⟩
def RJ9 : String := "java/lang/Math"
def TJ9 : u_T := fun k => match k with
  | _ => ("", "", "", false)
abbrev cJ9_floorMod_7cf53 : ByteArray := prog_9_method_50_code
def yJ9_floorMod_7cf53 : MethodName := ⟨RJ9, "floorMod", "(II)I"⟩
abbrev cJ9_abs_067f4 : ByteArray := prog_9_method_61_code
def yJ9_abs_067f4 : MethodName := ⟨RJ9, "abs", "(J)J"⟩
abbrev cJ9_max_f86c9 : ByteArray := prog_9_method_66_code
def yJ9_max_f86c9 : MethodName := ⟨RJ9, "max", "(JJ)J"⟩
abbrev cJ9_min_7cf53 : ByteArray := prog_9_method_69_code
def yJ9_min_7cf53 : MethodName := ⟨RJ9, "min", "(II)I"⟩
def RJ10 : String := "java/lang/System"
def TJ10 : u_T := fun k => match k with
  | _ => ("", "", "", false)
def RJ7 : String := "java/util/Arrays"
def TJ7 : u_T := fun k => match k with
  | _ => ("", "", "", false)
abbrev cJ7_fill_d0a16 : ByteArray := prog_11_method_101_code
def yJ7_fill_d0a16 : MethodName := ⟨RJ7, "fill", "([JJ)V"⟩
abbrev cJ7_fill_53178 : ByteArray := prog_11_method_103_code
def yJ7_fill_53178 : MethodName := ⟨RJ7, "fill", "([II)V"⟩
def RL : String := "WindBoxesLaw"
abbrev cL_law : ByteArray := code
def yL_law : MethodName := ⟨RL, "law", "([I)Z"⟩
abbrev vwCl : List vw_C := [(RX0, TX0, 3), (RX1, TX1, 5), (RX2, TX2, 8), (RX3, TX3, 4), (RX4, TX4, 7), (RX5, TX5, 6), (RX6, TX6, 22)]

section
-- ===== PART A: goes FIRST, ahead of the names: the tables' words, and 'selects' of the private methods out of them =====
/-- a private method of a class that the tables say can be made, by its rows of tables_1 -/
def lw_okq (q : MethodName × Nat) : Prop := (q.1.cls ≠ "java/lang/invoke/MethodHandle" ∧ q.1.cls ≠ "java/lang/invoke/VarHandle") ∧ Cond.instantiable q.1.cls q.2 ∈ tables_1 ∧ Cond.privateMethod q.1 ∈ tables_1 ∧ Cond.instanceMethod q.1 ∈ tables_1
theorem lw_p0 : lw_okq (⟨"WindBoxes", "passHour", "(I)V"⟩, 6) := ⟨⟨by decide +kernel, by decide +kernel⟩, List.mem_of_getElem? (i := 12) (by decide +kernel), List.mem_of_getElem? (i := 288) (by decide +kernel), List.mem_of_getElem? (i := 289) (by decide +kernel)⟩
theorem lw_p1 : lw_okq (⟨"WindBoxesModel", "given", "(I)I"⟩, 22) := ⟨⟨by decide +kernel, by decide +kernel⟩, List.mem_of_getElem? (i := 439) (by decide +kernel), List.mem_of_getElem? (i := 527) (by decide +kernel), List.mem_of_getElem? (i := 528) (by decide +kernel)⟩
theorem lw_p2 : lw_okq (⟨"WindBoxesModel", "findHeights", "()V"⟩, 22) := ⟨⟨by decide +kernel, by decide +kernel⟩, List.mem_of_getElem? (i := 439) (by decide +kernel), List.mem_of_getElem? (i := 546) (by decide +kernel), List.mem_of_getElem? (i := 547) (by decide +kernel)⟩
theorem lw_p3 : lw_okq (⟨"WindBoxesModel", "stillAt", "(I)J"⟩, 22) := ⟨⟨by decide +kernel, by decide +kernel⟩, List.mem_of_getElem? (i := 439) (by decide +kernel), List.mem_of_getElem? (i := 552) (by decide +kernel), List.mem_of_getElem? (i := 553) (by decide +kernel)⟩
theorem lw_p4 : lw_okq (⟨"WindBoxesModel", "against", "(II)I"⟩, 22) := ⟨⟨by decide +kernel, by decide +kernel⟩, List.mem_of_getElem? (i := 439) (by decide +kernel), List.mem_of_getElem? (i := 577) (by decide +kernel), List.mem_of_getElem? (i := 578) (by decide +kernel)⟩
theorem lw_p5 : lw_okq (⟨"WindBoxesModel", "carry", "(II)V"⟩, 22) := ⟨⟨by decide +kernel, by decide +kernel⟩, List.mem_of_getElem? (i := 439) (by decide +kernel), List.mem_of_getElem? (i := 611) (by decide +kernel), List.mem_of_getElem? (i := 612) (by decide +kernel)⟩
theorem lw_p6 : lw_okq (⟨"WindBoxesModel", "write", "(I)V"⟩, 22) := ⟨⟨by decide +kernel, by decide +kernel⟩, List.mem_of_getElem? (i := 439) (by decide +kernel), List.mem_of_getElem? (i := 616) (by decide +kernel), List.mem_of_getElem? (i := 617) (by decide +kernel)⟩
theorem lw_p7 : lw_okq (⟨"WindBoxesModel", "numberAt", "(II)J"⟩, 22) := ⟨⟨by decide +kernel, by decide +kernel⟩, List.mem_of_getElem? (i := 439) (by decide +kernel), List.mem_of_getElem? (i := 624) (by decide +kernel), List.mem_of_getElem? (i := 625) (by decide +kernel)⟩
theorem lw_p8 : lw_okq (⟨"WindBoxesModel", "told", "(I)I"⟩, 22) := ⟨⟨by decide +kernel, by decide +kernel⟩, List.mem_of_getElem? (i := 439) (by decide +kernel), List.mem_of_getElem? (i := 633) (by decide +kernel), List.mem_of_getElem? (i := 634) (by decide +kernel)⟩
theorem lw_p9 : lw_okq (⟨"WindBoxesModel", "setTenths", "(III)V"⟩, 22) := ⟨⟨by decide +kernel, by decide +kernel⟩, List.mem_of_getElem? (i := 439) (by decide +kernel), List.mem_of_getElem? (i := 659) (by decide +kernel), List.mem_of_getElem? (i := 660) (by decide +kernel)⟩
theorem lw_p10 : lw_okq (⟨"WindBoxesModel", "isKeptAt", "(I)Z"⟩, 22) := ⟨⟨by decide +kernel, by decide +kernel⟩, List.mem_of_getElem? (i := 439) (by decide +kernel), List.mem_of_getElem? (i := 663) (by decide +kernel), List.mem_of_getElem? (i := 664) (by decide +kernel)⟩
def lw_privs_1 : List (MethodName × Nat) := [(⟨"WindBoxes", "passHour", "(I)V"⟩, 6), (⟨"WindBoxesModel", "given", "(I)I"⟩, 22), (⟨"WindBoxesModel", "findHeights", "()V"⟩, 22), (⟨"WindBoxesModel", "stillAt", "(I)J"⟩, 22), (⟨"WindBoxesModel", "against", "(II)I"⟩, 22), (⟨"WindBoxesModel", "carry", "(II)V"⟩, 22), (⟨"WindBoxesModel", "write", "(I)V"⟩, 22), (⟨"WindBoxesModel", "numberAt", "(II)J"⟩, 22), (⟨"WindBoxesModel", "told", "(I)I"⟩, 22), (⟨"WindBoxesModel", "setTenths", "(III)V"⟩, 22), (⟨"WindBoxesModel", "isKeptAt", "(I)Z"⟩, 22)]
theorem lw_r1 : ∀ q ∈ lw_privs_1, lw_okq q := List.forall_mem_cons.mpr ⟨lw_p0, List.forall_mem_cons.mpr ⟨lw_p1, List.forall_mem_cons.mpr ⟨lw_p2, List.forall_mem_cons.mpr ⟨lw_p3, List.forall_mem_cons.mpr ⟨lw_p4, List.forall_mem_cons.mpr ⟨lw_p5, List.forall_mem_cons.mpr ⟨lw_p6, List.forall_mem_cons.mpr ⟨lw_p7, List.forall_mem_cons.mpr ⟨lw_p8, List.forall_mem_cons.mpr ⟨lw_p9, List.forall_mem_cons.mpr ⟨lw_p10, fun _ h => absurd h List.not_mem_nil⟩⟩⟩⟩⟩⟩⟩⟩⟩⟩⟩
def lw_privs : List (MethodName × Nat) := lw_privs_1
def lw_tbl : List Cond := k2_sels lw_privs ++ tables_1
theorem lw_privs_ok : ∀ q ∈ lw_privs, lw_okq q := lw_r1
def RX0 : String := "WindBoxes$Air"
def TX0 : u_T := fun k => match k with
  | 0 => ("WindBoxes$Air", "winds", "[I", true)
  | 1 => ("WindBoxes$Air", "heights", "[J", true)
  | _ => ("WindBoxes$Air", "net", "[J", true)
def tyX0 : Nat → FieldType := fun k => match k with
  | 0 => .array .int
  | 1 => .array .long
  | _ => .array .long
theorem nmX0 : ∀ a, a < 3 → ∀ b, b < 3 → a ≠ b → (TX0 a).2.1 ≠ (TX0 b).2.1 := by decide +kernel
theorem tyX0_ok : ∀ k, k < 3 → parseFieldDescriptor (TX0 k).2.2.1 = some (tyX0 k) := by decide +kernel
abbrev cX0_init : ByteArray := prog_2_method_1_code
def yX0_init : MethodName := ⟨RX0, "<init>", "()V"⟩
abbrev cX0_surplus : ByteArray := prog_2_method_2_code
def yX0_surplus : MethodName := ⟨RX0, "surplus", "(I)I"⟩
abbrev cX0_settle : ByteArray := prog_2_method_3_code
def yX0_settle : MethodName := ⟨RX0, "settle", "()V"⟩
abbrev cX0_changeAt : ByteArray := prog_2_method_4_code
def yX0_changeAt : MethodName := ⟨RX0, "changeAt", "(I)J"⟩
abbrev cX0_squaresOfChanges : ByteArray := prog_2_method_5_code
def yX0_squaresOfChanges : MethodName := ⟨RX0, "squaresOfChanges", "()J"⟩
def RX1 : String := "WindBoxes$Law"
def TX1 : u_T := fun k => match k with
  | 0 => ("WindBoxes$Law", "prices", "[I", true)
  | 1 => ("WindBoxes$Law", "cuts", "[I", true)
  | 2 => ("WindBoxes$Law", "leastCost", "I", false)
  | 3 => ("WindBoxes$Law", "limit", "I", false)
  | _ => ("WindBoxes$Law", "most", "I", false)
def tyX1 : Nat → FieldType := fun k => match k with
  | 0 => .array .int
  | 1 => .array .int
  | 2 => .int
  | 3 => .int
  | _ => .int
theorem nmX1 : ∀ a, a < 5 → ∀ b, b < 5 → a ≠ b → (TX1 a).2.1 ≠ (TX1 b).2.1 := by decide +kernel
theorem tyX1_ok : ∀ k, k < 5 → parseFieldDescriptor (TX1 k).2.2.1 = some (tyX1 k) := by decide +kernel
abbrev cX1_init : ByteArray := prog_3_method_1_code
def yX1_init : MethodName := ⟨RX1, "<init>", "()V"⟩
abbrev cX1_doorsKeptAt : ByteArray := prog_3_method_2_code
def yX1_doorsKeptAt : MethodName := ⟨RX1, "doorsKeptAt", "([LWindBoxes$Log;)I"⟩
abbrev cX1_isKeptAt : ByteArray := prog_3_method_3_code
def yX1_isKeptAt : MethodName := ⟨RX1, "isKeptAt", "(LWindBoxes$Log;III)Z"⟩
abbrev cX1_isKept : ByteArray := prog_3_method_4_code
def yX1_isKept : MethodName := ⟨RX1, "isKept", "([LWindBoxes$Log;III)Z"⟩
abbrev cX1_seekCuts : ByteArray := prog_3_method_5_code
def yX1_seekCuts : MethodName := ⟨RX1, "seekCuts", "([LWindBoxes$Log;)V"⟩
abbrev cX1_offer : ByteArray := prog_3_method_6_code
def yX1_offer : MethodName := ⟨RX1, "offer", "(III)V"⟩
def RX2 : String := "WindBoxes$Log"
def TX2 : u_T := fun k => match k with
  | 0 => ("WindBoxes$Log", "numbers", "[J", true)
  | 1 => ("WindBoxes$Log", "shares", "[[J", true)
  | 2 => ("WindBoxes$Log", "gaps", "[Z", true)
  | 3 => ("WindBoxes$Log", "box", "I", false)
  | 4 => ("WindBoxes$Log", "count", "I", false)
  | 5 => ("WindBoxes$Log", "latest", "I", false)
  | 6 => ("WindBoxes$Log", "lost", "Z", false)
  | _ => ("WindBoxes$Log", "watched", "Z", false)
def tyX2 : Nat → FieldType := fun k => match k with
  | 0 => .array .long
  | 1 => .array (.array .long)
  | 2 => .array .boolean
  | 3 => .int
  | 4 => .int
  | 5 => .int
  | 6 => .boolean
  | _ => .boolean
theorem nmX2 : ∀ a, a < 8 → ∀ b, b < 8 → a ≠ b → (TX2 a).2.1 ≠ (TX2 b).2.1 := by decide +kernel
theorem tyX2_ok : ∀ k, k < 8 → parseFieldDescriptor (TX2 k).2.2.1 = some (tyX2 k) := by decide +kernel
abbrev cX2_init : ByteArray := prog_4_method_1_code
def yX2_init : MethodName := ⟨RX2, "<init>", "()V"⟩
abbrev cX2_move : ByteArray := prog_4_method_2_code
def yX2_move : MethodName := ⟨RX2, "move", "(I)I"⟩
abbrev cX2_write : ByteArray := prog_4_method_3_code
def yX2_write : MethodName := ⟨RX2, "write", "([LWindBoxes$Stuff;)V"⟩
abbrev cX2_slotOf : ByteArray := prog_4_method_4_code
def yX2_slotOf : MethodName := ⟨RX2, "slotOf", "(I)I"⟩
abbrev cX2_countOfWritten : ByteArray := prog_4_method_5_code
def yX2_countOfWritten : MethodName := ⟨RX2, "countOfWritten", "()I"⟩
abbrev cX2_writtenIn : ByteArray := prog_4_method_6_code
def yX2_writtenIn : MethodName := ⟨RX2, "writtenIn", "(II)I"⟩
abbrev cX2_sumIn : ByteArray := prog_4_method_7_code
def yX2_sumIn : MethodName := ⟨RX2, "sumIn", "(II)J"⟩
abbrev cX2_meanOfWritten : ByteArray := prog_4_method_8_code
def yX2_meanOfWritten : MethodName := ⟨RX2, "meanOfWritten", "()J"⟩
abbrev cX2_greatest : ByteArray := prog_4_method_9_code
def yX2_greatest : MethodName := ⟨RX2, "greatest", "(I)J"⟩
abbrev cX2_countAbove : ByteArray := prog_4_method_10_code
def yX2_countAbove : MethodName := ⟨RX2, "countAbove", "(J)I"⟩
abbrev cX2_greatestMean : ByteArray := prog_4_method_11_code
def yX2_greatestMean : MethodName := ⟨RX2, "greatestMean", "(I)J"⟩
abbrev cX2_isAboveAtMost : ByteArray := prog_4_method_12_code
def yX2_isAboveAtMost : MethodName := ⟨RX2, "isAboveAtMost", "(IJIII)Z"⟩
def RX3 : String := "WindBoxes$Sheet"
def TX3 : u_T := fun k => match k with
  | 0 => ("WindBoxes$Sheet", "items", "[I", true)
  | 1 => ("WindBoxes$Sheet", "held", "Z", false)
  | 2 => ("WindBoxes$Sheet", "lane", "I", false)
  | _ => ("WindBoxes$Sheet", "length", "I", false)
def tyX3 : Nat → FieldType := fun k => match k with
  | 0 => .array .int
  | 1 => .boolean
  | 2 => .int
  | _ => .int
theorem nmX3 : ∀ a, a < 4 → ∀ b, b < 4 → a ≠ b → (TX3 a).2.1 ≠ (TX3 b).2.1 := by decide +kernel
theorem tyX3_ok : ∀ k, k < 4 → parseFieldDescriptor (TX3 k).2.2.1 = some (tyX3 k) := by decide +kernel
abbrev cX3_init : ByteArray := prog_5_method_1_code
def yX3_init : MethodName := ⟨RX3, "<init>", "()V"⟩
abbrev cX3_begin : ByteArray := prog_5_method_2_code
def yX3_begin : MethodName := ⟨RX3, "begin", "(II)V"⟩
abbrev cX3_isOf : ByteArray := prog_5_method_3_code
def yX3_isOf : MethodName := ⟨RX3, "isOf", "(I)Z"⟩
abbrev cX3_areRates : ByteArray := prog_5_method_4_code
def yX3_areRates : MethodName := ⟨RX3, "areRates", "()Z"⟩
def RX4 : String := "WindBoxes$Stuff"
def TX4 : u_T := fun k => match k with
  | 0 => ("WindBoxes$Stuff", "rates", "[I", true)
  | 1 => ("WindBoxes$Stuff", "places", "[J", true)
  | 2 => ("WindBoxes$Stuff", "before", "[J", true)
  | 3 => ("WindBoxes$Stuff", "home", "I", false)
  | 4 => ("WindBoxes$Stuff", "given", "J", false)
  | 5 => ("WindBoxes$Stuff", "washed", "J", false)
  | _ => ("WindBoxes$Stuff", "laid", "J", false)
def tyX4 : Nat → FieldType := fun k => match k with
  | 0 => .array .int
  | 1 => .array .long
  | 2 => .array .long
  | 3 => .int
  | 4 => .long
  | 5 => .long
  | _ => .long
theorem nmX4 : ∀ a, a < 7 → ∀ b, b < 7 → a ≠ b → (TX4 a).2.1 ≠ (TX4 b).2.1 := by decide +kernel
theorem tyX4_ok : ∀ k, k < 7 → parseFieldDescriptor (TX4 k).2.2.1 = some (tyX4 k) := by decide +kernel
abbrev cX4_init : ByteArray := prog_6_method_1_code
def yX4_init : MethodName := ⟨RX4, "<init>", "()V"⟩
abbrev cX4_stand : ByteArray := prog_6_method_2_code
def yX4_stand : MethodName := ⟨RX4, "stand", "(I[I)I"⟩
abbrev cX4_giveOff : ByteArray := prog_6_method_3_code
def yX4_giveOff : MethodName := ⟨RX4, "giveOff", "(I)V"⟩
abbrev cX4_fallOut : ByteArray := prog_6_method_4_code
def yX4_fallOut : MethodName := ⟨RX4, "fallOut", "(I)V"⟩
abbrev cX4_blow : ByteArray := prog_6_method_5_code
def yX4_blow : MethodName := ⟨RX4, "blow", "([J)V"⟩
abbrev cX4_inBoxes : ByteArray := prog_6_method_6_code
def yX4_inBoxes : MethodName := ⟨RX4, "inBoxes", "()J"⟩
def RX5 : String := "WindBoxes"
def TX5 : u_T := fun k => match k with
  | 0 => ("WindBoxes", "air", "LWindBoxes$Air;", true)
  | 1 => ("WindBoxes", "sheets", "[LWindBoxes$Sheet;", true)
  | 2 => ("WindBoxes", "stuffs", "[LWindBoxes$Stuff;", true)
  | 3 => ("WindBoxes", "logs", "[LWindBoxes$Log;", true)
  | 4 => ("WindBoxes", "rule", "LWindBoxes$Law;", true)
  | _ => ("WindBoxes", "time", "I", false)
def tyX5 : Nat → FieldType := fun k => match k with
  | 0 => .object "WindBoxes$Air"
  | 1 => .array (.object "WindBoxes$Sheet")
  | 2 => .array (.object "WindBoxes$Stuff")
  | 3 => .array (.object "WindBoxes$Log")
  | 4 => .object "WindBoxes$Law"
  | _ => .int
theorem nmX5 : ∀ a, a < 6 → ∀ b, b < 6 → a ≠ b → (TX5 a).2.1 ≠ (TX5 b).2.1 := by decide +kernel
theorem tyX5_ok : ∀ k, k < 6 → parseFieldDescriptor (TX5 k).2.2.1 = some (tyX5 k) := by decide +kernel
abbrev cX5_init : ByteArray := prog_1_method_1_code
def yX5_init : MethodName := ⟨RX5, "<init>", "()V"⟩
abbrev cX5_wind : ByteArray := prog_1_method_2_code
def yX5_wind : MethodName := ⟨RX5, "wind", "(II)I"⟩
abbrev cX5_gives : ByteArray := prog_1_method_3_code
def yX5_gives : MethodName := ⟨RX5, "gives", "(I)I"⟩
abbrev cX5_still : ByteArray := prog_1_method_4_code
def yX5_still : MethodName := ⟨RX5, "still", "(I)J"⟩
abbrev cX5_change : ByteArray := prog_1_method_5_code
def yX5_change : MethodName := ⟨RX5, "change", "()J"⟩
abbrev cX5_sheet : ByteArray := prog_1_method_6_code
def yX5_sheet : MethodName := ⟨RX5, "sheet", "(III)I"⟩
abbrev cX5_drop : ByteArray := prog_1_method_7_code
def yX5_drop : MethodName := ⟨RX5, "drop", "(I)I"⟩
abbrev cX5_item : ByteArray := prog_1_method_8_code
def yX5_item : MethodName := ⟨RX5, "item", "(IIII)I"⟩
abbrev cX5_source : ByteArray := prog_1_method_9_code
def yX5_source : MethodName := ⟨RX5, "source", "(IIII)I"⟩
abbrev cX5_door : ByteArray := prog_1_method_10_code
def yX5_door : MethodName := ⟨RX5, "door", "(II)I"⟩
abbrev cX5_lose : ByteArray := prog_1_method_11_code
def yX5_lose : MethodName := ⟨RX5, "lose", "(IZ)I"⟩
abbrev cX5_hours : ByteArray := prog_1_method_12_code
def yX5_hours : MethodName := ⟨RX5, "hours", "(II)I"⟩
abbrev cX5_grains : ByteArray := prog_1_method_13_code
def yX5_grains : MethodName := ⟨RX5, "grains", "(II)J"⟩
abbrev cX5_total : ByteArray := prog_1_method_14_code
def yX5_total : MethodName := ⟨RX5, "total", "(II)J"⟩
abbrev cX5_hour : ByteArray := prog_1_method_15_code
def yX5_hour : MethodName := ⟨RX5, "hour", "(III)J"⟩
abbrev cX5_kept : ByteArray := prog_1_method_16_code
def yX5_kept : MethodName := ⟨RX5, "kept", "(II)I"⟩
abbrev cX5_mean : ByteArray := prog_1_method_17_code
def yX5_mean : MethodName := ⟨RX5, "mean", "(I)J"⟩
abbrev cX5_rank : ByteArray := prog_1_method_18_code
def yX5_rank : MethodName := ⟨RX5, "rank", "(II)J"⟩
abbrev cX5_rolling : ByteArray := prog_1_method_19_code
def yX5_rolling : MethodName := ⟨RX5, "rolling", "(II)J"⟩
abbrev cX5_watch : ByteArray := prog_1_method_20_code
def yX5_watch : MethodName := ⟨RX5, "watch", "(IZ)I"⟩
abbrev cX5_law : ByteArray := prog_1_method_21_code
def yX5_law : MethodName := ⟨RX5, "law", "(II)I"⟩
abbrev cX5_price : ByteArray := prog_1_method_22_code
def yX5_price : MethodName := ⟨RX5, "price", "(II)I"⟩
abbrev cX5_cheapest : ByteArray := prog_1_method_23_code
def yX5_cheapest : MethodName := ⟨RX5, "cheapest", "(I)I"⟩
abbrev cX5_isBelow : ByteArray := prog_1_method_24_code
def yX5_isBelow : MethodName := ⟨RX5, "isBelow", "(II)Z"⟩
abbrev cX5_isLane : ByteArray := prog_1_method_25_code
def yX5_isLane : MethodName := ⟨RX5, "isLane", "(I)Z"⟩
abbrev cX5_passHour : ByteArray := prog_1_method_26_code
def yX5_passHour : MethodName := ⟨RX5, "passHour", "(I)V"⟩
def RX6 : String := "WindBoxesModel"
def TX6 : u_T := fun k => match k with
  | 0 => ("WindBoxesModel", "winds", "[I", true)
  | 1 => ("WindBoxesModel", "matrix", "[J", true)
  | 2 => ("WindBoxesModel", "heights", "[J", true)
  | 3 => ("WindBoxesModel", "lanes", "[I", true)
  | 4 => ("WindBoxesModel", "sizes", "[I", true)
  | 5 => ("WindBoxesModel", "items", "[I", true)
  | 6 => ("WindBoxesModel", "stands", "[I", true)
  | 7 => ("WindBoxesModel", "rates", "[I", true)
  | 8 => ("WindBoxesModel", "grains", "[J", true)
  | 9 => ("WindBoxesModel", "totals", "[J", true)
  | 10 => ("WindBoxesModel", "time", "I", false)
  | 11 => ("WindBoxesModel", "news", "[J", true)
  | 12 => ("WindBoxesModel", "doors", "[I", true)
  | 13 => ("WindBoxesModel", "lost", "[Z", true)
  | 14 => ("WindBoxesModel", "watched", "[Z", true)
  | 15 => ("WindBoxesModel", "many", "[I", true)
  | 16 => ("WindBoxesModel", "shares", "[J", true)
  | 17 => ("WindBoxesModel", "limit", "I", false)
  | 18 => ("WindBoxesModel", "often", "I", false)
  | 19 => ("WindBoxesModel", "prices", "[I", true)
  | 20 => ("WindBoxesModel", "tenths", "[I", true)
  | _ => ("WindBoxesModel", "best", "[I", true)
def tyX6 : Nat → FieldType := fun k => match k with
  | 0 => .array .int
  | 1 => .array .long
  | 2 => .array .long
  | 3 => .array .int
  | 4 => .array .int
  | 5 => .array .int
  | 6 => .array .int
  | 7 => .array .int
  | 8 => .array .long
  | 9 => .array .long
  | 10 => .int
  | 11 => .array .long
  | 12 => .array .int
  | 13 => .array .boolean
  | 14 => .array .boolean
  | 15 => .array .int
  | 16 => .array .long
  | 17 => .int
  | 18 => .int
  | 19 => .array .int
  | 20 => .array .int
  | _ => .array .int
theorem nmX6 : ∀ a, a < 22 → ∀ b, b < 22 → a ≠ b → (TX6 a).2.1 ≠ (TX6 b).2.1 := by decide +kernel
theorem tyX6_ok : ∀ k, k < 22 → parseFieldDescriptor (TX6 k).2.2.1 = some (tyX6 k) := by decide +kernel
abbrev cX6_in : ByteArray := prog_8_method_1_code
def yX6_in : MethodName := ⟨RX6, "in", "(JJJ)Z"⟩
abbrev cX6_init : ByteArray := prog_8_method_2_code
def yX6_init : MethodName := ⟨RX6, "<init>", "()V"⟩
abbrev cX6_wind : ByteArray := prog_8_method_3_code
def yX6_wind : MethodName := ⟨RX6, "wind", "(II)I"⟩
abbrev cX6_boxAt : ByteArray := prog_8_method_4_code
def yX6_boxAt : MethodName := ⟨RX6, "boxAt", "(II)I"⟩
abbrev cX6_fromOf : ByteArray := prog_8_method_5_code
def yX6_fromOf : MethodName := ⟨RX6, "fromOf", "(I)I"⟩
abbrev cX6_toOf : ByteArray := prog_8_method_6_code
def yX6_toOf : MethodName := ⟨RX6, "toOf", "(I)I"⟩
abbrev cX6_given : ByteArray := prog_8_method_7_code
def yX6_given : MethodName := ⟨RX6, "given", "(I)I"⟩
abbrev cX6_gives : ByteArray := prog_8_method_8_code
def yX6_gives : MethodName := ⟨RX6, "gives", "(I)I"⟩
abbrev cX6_findHeights : ByteArray := prog_8_method_9_code
def yX6_findHeights : MethodName := ⟨RX6, "findHeights", "()V"⟩
abbrev cX6_stillAt : ByteArray := prog_8_method_10_code
def yX6_stillAt : MethodName := ⟨RX6, "stillAt", "(I)J"⟩
abbrev cX6_still : ByteArray := prog_8_method_11_code
def yX6_still : MethodName := ⟨RX6, "still", "(I)J"⟩
abbrev cX6_change : ByteArray := prog_8_method_12_code
def yX6_change : MethodName := ⟨RX6, "change", "()J"⟩
abbrev cX6_isSheet : ByteArray := prog_8_method_13_code
def yX6_isSheet : MethodName := ⟨RX6, "isSheet", "(II)Z"⟩
abbrev cX6_sheet : ByteArray := prog_8_method_14_code
def yX6_sheet : MethodName := ⟨RX6, "sheet", "(III)I"⟩
abbrev cX6_drop : ByteArray := prog_8_method_15_code
def yX6_drop : MethodName := ⟨RX6, "drop", "(I)I"⟩
abbrev cX6_against : ByteArray := prog_8_method_16_code
def yX6_against : MethodName := ⟨RX6, "against", "(II)I"⟩
abbrev cX6_item : ByteArray := prog_8_method_17_code
def yX6_item : MethodName := ⟨RX6, "item", "(IIII)I"⟩
abbrev cX6_source : ByteArray := prog_8_method_18_code
def yX6_source : MethodName := ⟨RX6, "source", "(IIII)I"⟩
abbrev cX6_carry : ByteArray := prog_8_method_19_code
def yX6_carry : MethodName := ⟨RX6, "carry", "(II)V"⟩
abbrev cX6_grains : ByteArray := prog_8_method_20_code
def yX6_grains : MethodName := ⟨RX6, "grains", "(II)J"⟩
abbrev cX6_total : ByteArray := prog_8_method_21_code
def yX6_total : MethodName := ⟨RX6, "total", "(II)J"⟩
abbrev cX6_isDoor : ByteArray := prog_8_method_22_code
def yX6_isDoor : MethodName := ⟨RX6, "isDoor", "(I)Z"⟩
abbrev cX6_door : ByteArray := prog_8_method_23_code
def yX6_door : MethodName := ⟨RX6, "door", "(II)I"⟩
abbrev cX6_lose : ByteArray := prog_8_method_24_code
def yX6_lose : MethodName := ⟨RX6, "lose", "(IZ)I"⟩
abbrev cX6_write : ByteArray := prog_8_method_25_code
def yX6_write : MethodName := ⟨RX6, "write", "(I)V"⟩
abbrev cX6_hours : ByteArray := prog_8_method_26_code
def yX6_hours : MethodName := ⟨RX6, "hours", "(II)I"⟩
abbrev cX6_numberAt : ByteArray := prog_8_method_27_code
def yX6_numberAt : MethodName := ⟨RX6, "numberAt", "(II)J"⟩
abbrev cX6_hour : ByteArray := prog_8_method_28_code
def yX6_hour : MethodName := ⟨RX6, "hour", "(III)J"⟩
abbrev cX6_told : ByteArray := prog_8_method_29_code
def yX6_told : MethodName := ⟨RX6, "told", "(I)I"⟩
abbrev cX6_kept : ByteArray := prog_8_method_30_code
def yX6_kept : MethodName := ⟨RX6, "kept", "(II)I"⟩
abbrev cX6_mean : ByteArray := prog_8_method_31_code
def yX6_mean : MethodName := ⟨RX6, "mean", "(I)J"⟩
abbrev cX6_rank : ByteArray := prog_8_method_32_code
def yX6_rank : MethodName := ⟨RX6, "rank", "(II)J"⟩
abbrev cX6_rolling : ByteArray := prog_8_method_33_code
def yX6_rolling : MethodName := ⟨RX6, "rolling", "(II)J"⟩
abbrev cX6_watch : ByteArray := prog_8_method_34_code
def yX6_watch : MethodName := ⟨RX6, "watch", "(IZ)I"⟩
abbrev cX6_isKeptAt : ByteArray := prog_8_method_35_code
def yX6_isKeptAt : MethodName := ⟨RX6, "isKeptAt", "(I)Z"⟩
abbrev cX6_setTenths : ByteArray := prog_8_method_36_code
def yX6_setTenths : MethodName := ⟨RX6, "setTenths", "(III)V"⟩
abbrev cX6_law : ByteArray := prog_8_method_37_code
def yX6_law : MethodName := ⟨RX6, "law", "(II)I"⟩
abbrev cX6_price : ByteArray := prog_8_method_38_code
def yX6_price : MethodName := ⟨RX6, "price", "(II)I"⟩
abbrev cX6_cheapest : ByteArray := prog_8_method_39_code
def yX6_cheapest : MethodName := ⟨RX6, "cheapest", "(I)I"⟩
def RJ9 : String := "java/lang/Math"
def TJ9 : u_T := fun k => match k with
  | _ => ("", "", "", false)
abbrev cJ9_floorMod_7cf53 : ByteArray := prog_9_method_50_code
def yJ9_floorMod_7cf53 : MethodName := ⟨RJ9, "floorMod", "(II)I"⟩
abbrev cJ9_abs_067f4 : ByteArray := prog_9_method_61_code
def yJ9_abs_067f4 : MethodName := ⟨RJ9, "abs", "(J)J"⟩
abbrev cJ9_max_f86c9 : ByteArray := prog_9_method_66_code
def yJ9_max_f86c9 : MethodName := ⟨RJ9, "max", "(JJ)J"⟩
abbrev cJ9_min_7cf53 : ByteArray := prog_9_method_69_code
def yJ9_min_7cf53 : MethodName := ⟨RJ9, "min", "(II)I"⟩
def RJ10 : String := "java/lang/System"
def TJ10 : u_T := fun k => match k with
  | _ => ("", "", "", false)
def RJ7 : String := "java/util/Arrays"
def TJ7 : u_T := fun k => match k with
  | _ => ("", "", "", false)
abbrev cJ7_fill_d0a16 : ByteArray := prog_11_method_101_code
def yJ7_fill_d0a16 : MethodName := ⟨RJ7, "fill", "([JJ)V"⟩
abbrev cJ7_fill_53178 : ByteArray := prog_11_method_103_code
def yJ7_fill_53178 : MethodName := ⟨RJ7, "fill", "([II)V"⟩
def RL : String := "WindBoxesLaw"
abbrev cL_law : ByteArray := code
def yL_law : MethodName := ⟨RL, "law", "([I)Z"⟩
abbrev vwCl : List vw_C := [(RX0, TX0, 3), (RX1, TX1, 5), (RX2, TX2, 8), (RX3, TX3, 4), (RX4, TX4, 7), (RX5, TX5, 6), (RX6, TX6, 22)]
end
section
theorem dX0_init_0 : decode cX0_init 0 = .ok (.aload_n 0, 1) := by decide +kernel
theorem dX0_init_1 : decode cX0_init 1 = .ok (.invokespecial 3, 3) := by decide +kernel
theorem dX0_init_4 : decode cX0_init 4 = .ok (.aload_n 0, 1) := by decide +kernel
theorem dX0_init_5 : decode cX0_init 5 = .ok (.bipush 24, 2) := by decide +kernel
theorem dX0_init_7 : decode cX0_init 7 = .ok (.newarray .int, 2) := by decide +kernel
theorem dX0_init_9 : decode cX0_init 9 = .ok (.putfield 9, 3) := by decide +kernel
theorem dX0_init_12 : decode cX0_init 12 = .ok (.aload_n 0, 1) := by decide +kernel
theorem dX0_init_13 : decode cX0_init 13 = .ok (.bipush 10, 2) := by decide +kernel
theorem dX0_init_15 : decode cX0_init 15 = .ok (.newarray .long, 2) := by decide +kernel
theorem dX0_init_17 : decode cX0_init 17 = .ok (.putfield 15, 3) := by decide +kernel
theorem dX0_init_20 : decode cX0_init 20 = .ok (.aload_n 0, 1) := by decide +kernel
theorem dX0_init_21 : decode cX0_init 21 = .ok (.bipush 24, 2) := by decide +kernel
theorem dX0_init_23 : decode cX0_init 23 = .ok (.newarray .long, 2) := by decide +kernel
theorem dX0_init_25 : decode cX0_init 25 = .ok (.putfield 19, 3) := by decide +kernel
theorem dX0_init_28 : decode cX0_init 28 = .ok (.return_, 1) := by decide +kernel
theorem dX0_surplus_0 : decode cX0_surplus 0 = .ok (.iload_n 1, 1) := by decide +kernel
theorem dX0_surplus_1 : decode cX0_surplus 1 = .ok (.iload_n 1, 1) := by decide +kernel
theorem dX0_surplus_2 : decode cX0_surplus 2 = .ok (.iconst 3, 1) := by decide +kernel
theorem dX0_surplus_3 : decode cX0_surplus 3 = .ok (.idiv, 1) := by decide +kernel
theorem dX0_surplus_4 : decode cX0_surplus 4 = .ok (.iadd, 1) := by decide +kernel
theorem dX0_surplus_5 : decode cX0_surplus 5 = .ok (.istore_n 2, 1) := by decide +kernel
theorem dX0_surplus_6 : decode cX0_surplus 6 = .ok (.bipush 12, 2) := by decide +kernel
theorem dX0_surplus_8 : decode cX0_surplus 8 = .ok (.iload_n 1, 1) := by decide +kernel
theorem dX0_surplus_9 : decode cX0_surplus 9 = .ok (.iadd, 1) := by decide +kernel
theorem dX0_surplus_10 : decode cX0_surplus 10 = .ok (.istore_n 3, 1) := by decide +kernel
theorem dX0_surplus_11 : decode cX0_surplus 11 = .ok (.iload_n 3, 1) := by decide +kernel
theorem dX0_surplus_12 : decode cX0_surplus 12 = .ok (.iconst 3, 1) := by decide +kernel
theorem dX0_surplus_13 : decode cX0_surplus 13 = .ok (.iadd, 1) := by decide +kernel
theorem dX0_surplus_14 : decode cX0_surplus 14 = .ok (.istore 4, 2) := by decide +kernel
theorem dX0_surplus_16 : decode cX0_surplus 16 = .ok (.aload_n 0, 1) := by decide +kernel
theorem dX0_surplus_17 : decode cX0_surplus 17 = .ok (.getfield 9, 3) := by decide +kernel
theorem dX0_surplus_20 : decode cX0_surplus 20 = .ok (.iload_n 2, 1) := by decide +kernel
theorem dX0_surplus_21 : decode cX0_surplus 21 = .ok (.iconst 1, 1) := by decide +kernel
theorem dX0_surplus_22 : decode cX0_surplus 22 = .ok (.iadd, 1) := by decide +kernel
theorem dX0_surplus_23 : decode cX0_surplus 23 = .ok (.iaload, 1) := by decide +kernel
theorem dX0_surplus_24 : decode cX0_surplus 24 = .ok (.aload_n 0, 1) := by decide +kernel
theorem dX0_surplus_25 : decode cX0_surplus 25 = .ok (.getfield 9, 3) := by decide +kernel
theorem dX0_surplus_28 : decode cX0_surplus 28 = .ok (.iload_n 2, 1) := by decide +kernel
theorem dX0_surplus_29 : decode cX0_surplus 29 = .ok (.iaload, 1) := by decide +kernel
theorem dX0_surplus_30 : decode cX0_surplus 30 = .ok (.isub, 1) := by decide +kernel
theorem dX0_surplus_31 : decode cX0_surplus 31 = .ok (.aload_n 0, 1) := by decide +kernel
theorem dX0_surplus_32 : decode cX0_surplus 32 = .ok (.getfield 9, 3) := by decide +kernel
theorem dX0_surplus_35 : decode cX0_surplus 35 = .ok (.iload 4, 2) := by decide +kernel
theorem dX0_surplus_37 : decode cX0_surplus 37 = .ok (.iaload, 1) := by decide +kernel
theorem dX0_surplus_38 : decode cX0_surplus 38 = .ok (.iadd, 1) := by decide +kernel
theorem dX0_surplus_39 : decode cX0_surplus 39 = .ok (.aload_n 0, 1) := by decide +kernel
theorem dX0_surplus_40 : decode cX0_surplus 40 = .ok (.getfield 9, 3) := by decide +kernel
theorem dX0_surplus_43 : decode cX0_surplus 43 = .ok (.iload_n 3, 1) := by decide +kernel
theorem dX0_surplus_44 : decode cX0_surplus 44 = .ok (.iaload, 1) := by decide +kernel
theorem dX0_surplus_45 : decode cX0_surplus 45 = .ok (.isub, 1) := by decide +kernel
theorem dX0_surplus_46 : decode cX0_surplus 46 = .ok (.ireturn, 1) := by decide +kernel
theorem dX0_settle_0 : decode cX0_settle 0 = .ok (.aload_n 0, 1) := by decide +kernel
theorem dX0_settle_1 : decode cX0_settle 1 = .ok (.getfield 15, 3) := by decide +kernel
theorem dX0_settle_4 : decode cX0_settle 4 = .ok (.lconst 0, 1) := by decide +kernel
theorem dX0_settle_5 : decode cX0_settle 5 = .ok (.invokestatic 22, 3) := by decide +kernel
theorem dX0_settle_8 : decode cX0_settle 8 = .ok (.iconst 0, 1) := by decide +kernel
theorem dX0_settle_9 : decode cX0_settle 9 = .ok (.istore_n 1, 1) := by decide +kernel
theorem dX0_settle_10 : decode cX0_settle 10 = .ok (.iload_n 1, 1) := by decide +kernel
theorem dX0_settle_11 : decode cX0_settle 11 = .ok (.bipush 9, 2) := by decide +kernel
theorem dX0_settle_13 : decode cX0_settle 13 = .ok (.if_icmp .ge 60, 3) := by decide +kernel
theorem dX0_settle_16 : decode cX0_settle 16 = .ok (.ldc2_w 28, 3) := by decide +kernel
theorem dX0_settle_19 : decode cX0_settle 19 = .ok (.aload_n 0, 1) := by decide +kernel
theorem dX0_settle_20 : decode cX0_settle 20 = .ok (.iload_n 1, 1) := by decide +kernel
theorem dX0_settle_21 : decode cX0_settle 21 = .ok (.invokevirtual 30, 3) := by decide +kernel
theorem dX0_settle_24 : decode cX0_settle 24 = .ok (.i2l, 1) := by decide +kernel
theorem dX0_settle_25 : decode cX0_settle 25 = .ok (.lmul, 1) := by decide +kernel
theorem dX0_settle_26 : decode cX0_settle 26 = .ok (.lstore_n 2, 1) := by decide +kernel
theorem dX0_settle_27 : decode cX0_settle 27 = .ok (.iconst 0, 1) := by decide +kernel
theorem dX0_settle_28 : decode cX0_settle 28 = .ok (.istore 4, 2) := by decide +kernel
theorem dX0_settle_30 : decode cX0_settle 30 = .ok (.iload 4, 2) := by decide +kernel
theorem dX0_settle_32 : decode cX0_settle 32 = .ok (.bipush 9, 2) := by decide +kernel
theorem dX0_settle_34 : decode cX0_settle 34 = .ok (.if_icmp .ge 33, 3) := by decide +kernel
theorem dX0_settle_37 : decode cX0_settle 37 = .ok (.aload_n 0, 1) := by decide +kernel
theorem dX0_settle_38 : decode cX0_settle 38 = .ok (.getfield 15, 3) := by decide +kernel
theorem dX0_settle_41 : decode cX0_settle 41 = .ok (.iload 4, 2) := by decide +kernel
theorem dX0_settle_43 : decode cX0_settle 43 = .ok (.dup2, 1) := by decide +kernel
theorem dX0_settle_44 : decode cX0_settle 44 = .ok (.laload, 1) := by decide +kernel
theorem dX0_settle_45 : decode cX0_settle 45 = .ok (.lload_n 2, 1) := by decide +kernel
theorem dX0_settle_46 : decode cX0_settle 46 = .ok (.getstatic 34, 3) := by decide +kernel
theorem dX0_settle_49 : decode cX0_settle 49 = .ok (.iload_n 1, 1) := by decide +kernel
theorem dX0_settle_50 : decode cX0_settle 50 = .ok (.bipush 9, 2) := by decide +kernel
theorem dX0_settle_52 : decode cX0_settle 52 = .ok (.imul, 1) := by decide +kernel
theorem dX0_settle_53 : decode cX0_settle 53 = .ok (.iload 4, 2) := by decide +kernel
theorem dX0_settle_55 : decode cX0_settle 55 = .ok (.iadd, 1) := by decide +kernel
theorem dX0_settle_56 : decode cX0_settle 56 = .ok (.iaload, 1) := by decide +kernel
theorem dX0_settle_57 : decode cX0_settle 57 = .ok (.i2l, 1) := by decide +kernel
theorem dX0_settle_58 : decode cX0_settle 58 = .ok (.lmul, 1) := by decide +kernel
theorem dX0_settle_59 : decode cX0_settle 59 = .ok (.lsub, 1) := by decide +kernel
theorem dX0_settle_60 : decode cX0_settle 60 = .ok (.lastore, 1) := by decide +kernel
theorem dX0_settle_61 : decode cX0_settle 61 = .ok (.iinc 4 1, 3) := by decide +kernel
theorem dX0_settle_64 : decode cX0_settle 64 = .ok (.goto (-34), 3) := by decide +kernel
theorem dX0_settle_67 : decode cX0_settle 67 = .ok (.iinc 1 1, 3) := by decide +kernel
theorem dX0_settle_70 : decode cX0_settle 70 = .ok (.goto (-60), 3) := by decide +kernel
theorem dX0_settle_73 : decode cX0_settle 73 = .ok (.iconst 0, 1) := by decide +kernel
theorem dX0_settle_74 : decode cX0_settle 74 = .ok (.istore_n 1, 1) := by decide +kernel
theorem dX0_settle_75 : decode cX0_settle 75 = .ok (.iload_n 1, 1) := by decide +kernel
theorem dX0_settle_76 : decode cX0_settle 76 = .ok (.bipush 24, 2) := by decide +kernel
theorem dX0_settle_78 : decode cX0_settle 78 = .ok (.if_icmp .ge 32, 3) := by decide +kernel
theorem dX0_settle_81 : decode cX0_settle 81 = .ok (.aload_n 0, 1) := by decide +kernel
theorem dX0_settle_82 : decode cX0_settle 82 = .ok (.getfield 19, 3) := by decide +kernel
theorem dX0_settle_85 : decode cX0_settle 85 = .ok (.iload_n 1, 1) := by decide +kernel
theorem dX0_settle_86 : decode cX0_settle 86 = .ok (.ldc2_w 37, 3) := by decide +kernel
theorem dX0_settle_89 : decode cX0_settle 89 = .ok (.aload_n 0, 1) := by decide +kernel
theorem dX0_settle_90 : decode cX0_settle 90 = .ok (.getfield 9, 3) := by decide +kernel
theorem dX0_settle_93 : decode cX0_settle 93 = .ok (.iload_n 1, 1) := by decide +kernel
theorem dX0_settle_94 : decode cX0_settle 94 = .ok (.iaload, 1) := by decide +kernel
theorem dX0_settle_95 : decode cX0_settle 95 = .ok (.i2l, 1) := by decide +kernel
theorem dX0_settle_96 : decode cX0_settle 96 = .ok (.lmul, 1) := by decide +kernel
theorem dX0_settle_97 : decode cX0_settle 97 = .ok (.aload_n 0, 1) := by decide +kernel
theorem dX0_settle_98 : decode cX0_settle 98 = .ok (.iload_n 1, 1) := by decide +kernel
theorem dX0_settle_99 : decode cX0_settle 99 = .ok (.invokevirtual 39, 3) := by decide +kernel
theorem dX0_settle_102 : decode cX0_settle 102 = .ok (.ladd, 1) := by decide +kernel
theorem dX0_settle_103 : decode cX0_settle 103 = .ok (.lastore, 1) := by decide +kernel
theorem dX0_settle_104 : decode cX0_settle 104 = .ok (.iinc 1 1, 3) := by decide +kernel
theorem dX0_settle_107 : decode cX0_settle 107 = .ok (.goto (-32), 3) := by decide +kernel
theorem dX0_settle_110 : decode cX0_settle 110 = .ok (.return_, 1) := by decide +kernel
theorem dX0_changeAt_0 : decode cX0_changeAt 0 = .ok (.aload_n 0, 1) := by decide +kernel
theorem dX0_changeAt_1 : decode cX0_changeAt 1 = .ok (.getfield 15, 3) := by decide +kernel
theorem dX0_changeAt_4 : decode cX0_changeAt 4 = .ok (.getstatic 43, 3) := by decide +kernel
theorem dX0_changeAt_7 : decode cX0_changeAt 7 = .ok (.iload_n 1, 1) := by decide +kernel
theorem dX0_changeAt_8 : decode cX0_changeAt 8 = .ok (.iaload, 1) := by decide +kernel
theorem dX0_changeAt_9 : decode cX0_changeAt 9 = .ok (.laload, 1) := by decide +kernel
theorem dX0_changeAt_10 : decode cX0_changeAt 10 = .ok (.aload_n 0, 1) := by decide +kernel
theorem dX0_changeAt_11 : decode cX0_changeAt 11 = .ok (.getfield 15, 3) := by decide +kernel
theorem dX0_changeAt_14 : decode cX0_changeAt 14 = .ok (.getstatic 46, 3) := by decide +kernel
theorem dX0_changeAt_17 : decode cX0_changeAt 17 = .ok (.iload_n 1, 1) := by decide +kernel
theorem dX0_changeAt_18 : decode cX0_changeAt 18 = .ok (.iaload, 1) := by decide +kernel
theorem dX0_changeAt_19 : decode cX0_changeAt 19 = .ok (.laload, 1) := by decide +kernel
theorem dX0_changeAt_20 : decode cX0_changeAt 20 = .ok (.lsub, 1) := by decide +kernel
theorem dX0_changeAt_21 : decode cX0_changeAt 21 = .ok (.lreturn, 1) := by decide +kernel
theorem dX0_squaresOfChanges_0 : decode cX0_squaresOfChanges 0 = .ok (.lconst 0, 1) := by decide +kernel
theorem dX0_squaresOfChanges_1 : decode cX0_squaresOfChanges 1 = .ok (.lstore_n 1, 1) := by decide +kernel
theorem dX0_squaresOfChanges_2 : decode cX0_squaresOfChanges 2 = .ok (.iconst 0, 1) := by decide +kernel
theorem dX0_squaresOfChanges_3 : decode cX0_squaresOfChanges 3 = .ok (.istore_n 3, 1) := by decide +kernel
theorem dX0_squaresOfChanges_4 : decode cX0_squaresOfChanges 4 = .ok (.iload_n 3, 1) := by decide +kernel
theorem dX0_squaresOfChanges_5 : decode cX0_squaresOfChanges 5 = .ok (.bipush 24, 2) := by decide +kernel
theorem dX0_squaresOfChanges_7 : decode cX0_squaresOfChanges 7 = .ok (.if_icmp .ge 23, 3) := by decide +kernel
theorem dX0_squaresOfChanges_10 : decode cX0_squaresOfChanges 10 = .ok (.lload_n 1, 1) := by decide +kernel
theorem dX0_squaresOfChanges_11 : decode cX0_squaresOfChanges 11 = .ok (.aload_n 0, 1) := by decide +kernel
theorem dX0_squaresOfChanges_12 : decode cX0_squaresOfChanges 12 = .ok (.iload_n 3, 1) := by decide +kernel
theorem dX0_squaresOfChanges_13 : decode cX0_squaresOfChanges 13 = .ok (.invokevirtual 39, 3) := by decide +kernel
theorem dX0_squaresOfChanges_16 : decode cX0_squaresOfChanges 16 = .ok (.aload_n 0, 1) := by decide +kernel
theorem dX0_squaresOfChanges_17 : decode cX0_squaresOfChanges 17 = .ok (.iload_n 3, 1) := by decide +kernel
theorem dX0_squaresOfChanges_18 : decode cX0_squaresOfChanges 18 = .ok (.invokevirtual 39, 3) := by decide +kernel
theorem dX0_squaresOfChanges_21 : decode cX0_squaresOfChanges 21 = .ok (.lmul, 1) := by decide +kernel
theorem dX0_squaresOfChanges_22 : decode cX0_squaresOfChanges 22 = .ok (.ladd, 1) := by decide +kernel
theorem dX0_squaresOfChanges_23 : decode cX0_squaresOfChanges 23 = .ok (.lstore_n 1, 1) := by decide +kernel
theorem dX0_squaresOfChanges_24 : decode cX0_squaresOfChanges 24 = .ok (.iinc 3 1, 3) := by decide +kernel
theorem dX0_squaresOfChanges_27 : decode cX0_squaresOfChanges 27 = .ok (.goto (-23), 3) := by decide +kernel
theorem dX0_squaresOfChanges_30 : decode cX0_squaresOfChanges 30 = .ok (.lload_n 1, 1) := by decide +kernel
theorem dX0_squaresOfChanges_31 : decode cX0_squaresOfChanges 31 = .ok (.lreturn, 1) := by decide +kernel
theorem dX1_init_0 : decode cX1_init 0 = .ok (.aload_n 0, 1) := by decide +kernel
theorem dX1_init_1 : decode cX1_init 1 = .ok (.invokespecial 3, 3) := by decide +kernel
theorem dX1_init_4 : decode cX1_init 4 = .ok (.aload_n 0, 1) := by decide +kernel
theorem dX1_init_5 : decode cX1_init 5 = .ok (.iconst 3, 1) := by decide +kernel
theorem dX1_init_6 : decode cX1_init 6 = .ok (.newarray .int, 2) := by decide +kernel
theorem dX1_init_8 : decode cX1_init 8 = .ok (.dup, 1) := by decide +kernel
theorem dX1_init_9 : decode cX1_init 9 = .ok (.iconst 0, 1) := by decide +kernel
theorem dX1_init_10 : decode cX1_init 10 = .ok (.iconst 1, 1) := by decide +kernel
theorem dX1_init_11 : decode cX1_init 11 = .ok (.iastore, 1) := by decide +kernel
theorem dX1_init_12 : decode cX1_init 12 = .ok (.dup, 1) := by decide +kernel
theorem dX1_init_13 : decode cX1_init 13 = .ok (.iconst 1, 1) := by decide +kernel
theorem dX1_init_14 : decode cX1_init 14 = .ok (.iconst 1, 1) := by decide +kernel
theorem dX1_init_15 : decode cX1_init 15 = .ok (.iastore, 1) := by decide +kernel
theorem dX1_init_16 : decode cX1_init 16 = .ok (.dup, 1) := by decide +kernel
theorem dX1_init_17 : decode cX1_init 17 = .ok (.iconst 2, 1) := by decide +kernel
theorem dX1_init_18 : decode cX1_init 18 = .ok (.iconst 1, 1) := by decide +kernel
theorem dX1_init_19 : decode cX1_init 19 = .ok (.iastore, 1) := by decide +kernel
theorem dX1_init_20 : decode cX1_init 20 = .ok (.putfield 9, 3) := by decide +kernel
theorem dX1_init_23 : decode cX1_init 23 = .ok (.aload_n 0, 1) := by decide +kernel
theorem dX1_init_24 : decode cX1_init 24 = .ok (.iconst 3, 1) := by decide +kernel
theorem dX1_init_25 : decode cX1_init 25 = .ok (.newarray .int, 2) := by decide +kernel
theorem dX1_init_27 : decode cX1_init 27 = .ok (.putfield 15, 3) := by decide +kernel
theorem dX1_init_30 : decode cX1_init 30 = .ok (.aload_n 0, 1) := by decide +kernel
theorem dX1_init_31 : decode cX1_init 31 = .ok (.iconst 0, 1) := by decide +kernel
theorem dX1_init_32 : decode cX1_init 32 = .ok (.putfield 18, 3) := by decide +kernel
theorem dX1_init_35 : decode cX1_init 35 = .ok (.aload_n 0, 1) := by decide +kernel
theorem dX1_init_36 : decode cX1_init 36 = .ok (.iconst 0, 1) := by decide +kernel
theorem dX1_init_37 : decode cX1_init 37 = .ok (.putfield 22, 3) := by decide +kernel
theorem dX1_init_40 : decode cX1_init 40 = .ok (.aload_n 0, 1) := by decide +kernel
theorem dX1_init_41 : decode cX1_init 41 = .ok (.iconst 0, 1) := by decide +kernel
theorem dX1_init_42 : decode cX1_init 42 = .ok (.putfield 25, 3) := by decide +kernel
theorem dX1_init_45 : decode cX1_init 45 = .ok (.return_, 1) := by decide +kernel
theorem dX1_doorsKeptAt_0 : decode cX1_doorsKeptAt 0 = .ok (.iconst 0, 1) := by decide +kernel
theorem dX1_doorsKeptAt_1 : decode cX1_doorsKeptAt 1 = .ok (.istore_n 2, 1) := by decide +kernel
theorem dX1_doorsKeptAt_2 : decode cX1_doorsKeptAt 2 = .ok (.iconst 0, 1) := by decide +kernel
theorem dX1_doorsKeptAt_3 : decode cX1_doorsKeptAt 3 = .ok (.istore_n 3, 1) := by decide +kernel
theorem dX1_doorsKeptAt_4 : decode cX1_doorsKeptAt 4 = .ok (.iload_n 3, 1) := by decide +kernel
theorem dX1_doorsKeptAt_5 : decode cX1_doorsKeptAt 5 = .ok (.iconst 4, 1) := by decide +kernel
theorem dX1_doorsKeptAt_6 : decode cX1_doorsKeptAt 6 = .ok (.if_icmp .ge 39, 3) := by decide +kernel
theorem dX1_doorsKeptAt_9 : decode cX1_doorsKeptAt 9 = .ok (.iload_n 2, 1) := by decide +kernel
theorem dX1_doorsKeptAt_10 : decode cX1_doorsKeptAt 10 = .ok (.aload_n 1, 1) := by decide +kernel
theorem dX1_doorsKeptAt_11 : decode cX1_doorsKeptAt 11 = .ok (.iload_n 3, 1) := by decide +kernel
theorem dX1_doorsKeptAt_12 : decode cX1_doorsKeptAt 12 = .ok (.aaload, 1) := by decide +kernel
theorem dX1_doorsKeptAt_13 : decode cX1_doorsKeptAt 13 = .ok (.getfield 28, 3) := by decide +kernel
theorem dX1_doorsKeptAt_16 : decode cX1_doorsKeptAt 16 = .ok (.ifCond .eq 20, 3) := by decide +kernel
theorem dX1_doorsKeptAt_19 : decode cX1_doorsKeptAt 19 = .ok (.aload_n 0, 1) := by decide +kernel
theorem dX1_doorsKeptAt_20 : decode cX1_doorsKeptAt 20 = .ok (.aload_n 1, 1) := by decide +kernel
theorem dX1_doorsKeptAt_21 : decode cX1_doorsKeptAt 21 = .ok (.iload_n 3, 1) := by decide +kernel
theorem dX1_doorsKeptAt_22 : decode cX1_doorsKeptAt 22 = .ok (.aaload, 1) := by decide +kernel
theorem dX1_doorsKeptAt_23 : decode cX1_doorsKeptAt 23 = .ok (.iconst 0, 1) := by decide +kernel
theorem dX1_doorsKeptAt_24 : decode cX1_doorsKeptAt 24 = .ok (.iconst 0, 1) := by decide +kernel
theorem dX1_doorsKeptAt_25 : decode cX1_doorsKeptAt 25 = .ok (.iconst 0, 1) := by decide +kernel
theorem dX1_doorsKeptAt_26 : decode cX1_doorsKeptAt 26 = .ok (.invokevirtual 34, 3) := by decide +kernel
theorem dX1_doorsKeptAt_29 : decode cX1_doorsKeptAt 29 = .ok (.ifCond .eq 7, 3) := by decide +kernel
theorem dX1_doorsKeptAt_32 : decode cX1_doorsKeptAt 32 = .ok (.iconst 1, 1) := by decide +kernel
theorem dX1_doorsKeptAt_33 : decode cX1_doorsKeptAt 33 = .ok (.goto 4, 3) := by decide +kernel
theorem dX1_doorsKeptAt_36 : decode cX1_doorsKeptAt 36 = .ok (.iconst 0, 1) := by decide +kernel
theorem dX1_doorsKeptAt_37 : decode cX1_doorsKeptAt 37 = .ok (.iadd, 1) := by decide +kernel
theorem dX1_doorsKeptAt_38 : decode cX1_doorsKeptAt 38 = .ok (.istore_n 2, 1) := by decide +kernel
theorem dX1_doorsKeptAt_39 : decode cX1_doorsKeptAt 39 = .ok (.iinc 3 1, 3) := by decide +kernel
theorem dX1_doorsKeptAt_42 : decode cX1_doorsKeptAt 42 = .ok (.goto (-38), 3) := by decide +kernel
theorem dX1_doorsKeptAt_45 : decode cX1_doorsKeptAt 45 = .ok (.iload_n 2, 1) := by decide +kernel
theorem dX1_doorsKeptAt_46 : decode cX1_doorsKeptAt 46 = .ok (.ireturn, 1) := by decide +kernel
theorem dX1_isKeptAt_0 : decode cX1_isKeptAt 0 = .ok (.aload_n 0, 1) := by decide +kernel
theorem dX1_isKeptAt_1 : decode cX1_isKeptAt 1 = .ok (.getfield 22, 3) := by decide +kernel
theorem dX1_isKeptAt_4 : decode cX1_isKeptAt 4 = .ok (.i2l, 1) := by decide +kernel
theorem dX1_isKeptAt_5 : decode cX1_isKeptAt 5 = .ok (.ldc2_w 38, 3) := by decide +kernel
theorem dX1_isKeptAt_8 : decode cX1_isKeptAt 8 = .ok (.lmul, 1) := by decide +kernel
theorem dX1_isKeptAt_9 : decode cX1_isKeptAt 9 = .ok (.lstore 5, 2) := by decide +kernel
theorem dX1_isKeptAt_11 : decode cX1_isKeptAt 11 = .ok (.aload_n 1, 1) := by decide +kernel
theorem dX1_isKeptAt_12 : decode cX1_isKeptAt 12 = .ok (.aload_n 0, 1) := by decide +kernel
theorem dX1_isKeptAt_13 : decode cX1_isKeptAt 13 = .ok (.getfield 25, 3) := by decide +kernel
theorem dX1_isKeptAt_16 : decode cX1_isKeptAt 16 = .ok (.lload 5, 2) := by decide +kernel
theorem dX1_isKeptAt_18 : decode cX1_isKeptAt 18 = .ok (.bipush 10, 2) := by decide +kernel
theorem dX1_isKeptAt_20 : decode cX1_isKeptAt 20 = .ok (.iload_n 2, 1) := by decide +kernel
theorem dX1_isKeptAt_21 : decode cX1_isKeptAt 21 = .ok (.isub, 1) := by decide +kernel
theorem dX1_isKeptAt_22 : decode cX1_isKeptAt 22 = .ok (.bipush 10, 2) := by decide +kernel
theorem dX1_isKeptAt_24 : decode cX1_isKeptAt 24 = .ok (.iload_n 3, 1) := by decide +kernel
theorem dX1_isKeptAt_25 : decode cX1_isKeptAt 25 = .ok (.isub, 1) := by decide +kernel
theorem dX1_isKeptAt_26 : decode cX1_isKeptAt 26 = .ok (.bipush 10, 2) := by decide +kernel
theorem dX1_isKeptAt_28 : decode cX1_isKeptAt 28 = .ok (.iload 4, 2) := by decide +kernel
theorem dX1_isKeptAt_30 : decode cX1_isKeptAt 30 = .ok (.isub, 1) := by decide +kernel
theorem dX1_isKeptAt_31 : decode cX1_isKeptAt 31 = .ok (.invokevirtual 40, 3) := by decide +kernel
theorem dX1_isKeptAt_34 : decode cX1_isKeptAt 34 = .ok (.ireturn, 1) := by decide +kernel
theorem dX1_isKept_0 : decode cX1_isKept 0 = .ok (.iconst 0, 1) := by decide +kernel
theorem dX1_isKept_1 : decode cX1_isKept 1 = .ok (.istore 5, 2) := by decide +kernel
theorem dX1_isKept_3 : decode cX1_isKept 3 = .ok (.iload 5, 2) := by decide +kernel
theorem dX1_isKept_5 : decode cX1_isKept 5 = .ok (.iconst 4, 1) := by decide +kernel
theorem dX1_isKept_6 : decode cX1_isKept 6 = .ok (.if_icmp .ge 36, 3) := by decide +kernel
theorem dX1_isKept_9 : decode cX1_isKept 9 = .ok (.aload_n 1, 1) := by decide +kernel
theorem dX1_isKept_10 : decode cX1_isKept 10 = .ok (.iload 5, 2) := by decide +kernel
theorem dX1_isKept_12 : decode cX1_isKept 12 = .ok (.aaload, 1) := by decide +kernel
theorem dX1_isKept_13 : decode cX1_isKept 13 = .ok (.getfield 28, 3) := by decide +kernel
theorem dX1_isKept_16 : decode cX1_isKept 16 = .ok (.ifCond .eq 20, 3) := by decide +kernel
theorem dX1_isKept_19 : decode cX1_isKept 19 = .ok (.aload_n 0, 1) := by decide +kernel
theorem dX1_isKept_20 : decode cX1_isKept 20 = .ok (.aload_n 1, 1) := by decide +kernel
theorem dX1_isKept_21 : decode cX1_isKept 21 = .ok (.iload 5, 2) := by decide +kernel
theorem dX1_isKept_23 : decode cX1_isKept 23 = .ok (.aaload, 1) := by decide +kernel
theorem dX1_isKept_24 : decode cX1_isKept 24 = .ok (.iload_n 2, 1) := by decide +kernel
theorem dX1_isKept_25 : decode cX1_isKept 25 = .ok (.iload_n 3, 1) := by decide +kernel
theorem dX1_isKept_26 : decode cX1_isKept 26 = .ok (.iload 4, 2) := by decide +kernel
theorem dX1_isKept_28 : decode cX1_isKept 28 = .ok (.invokevirtual 34, 3) := by decide +kernel
theorem dX1_isKept_31 : decode cX1_isKept 31 = .ok (.ifCond .ne 5, 3) := by decide +kernel
theorem dX1_isKept_34 : decode cX1_isKept 34 = .ok (.iconst 0, 1) := by decide +kernel
theorem dX1_isKept_35 : decode cX1_isKept 35 = .ok (.ireturn, 1) := by decide +kernel
theorem dX1_isKept_36 : decode cX1_isKept 36 = .ok (.iinc 5 1, 3) := by decide +kernel
theorem dX1_isKept_39 : decode cX1_isKept 39 = .ok (.goto (-36), 3) := by decide +kernel
theorem dX1_isKept_42 : decode cX1_isKept 42 = .ok (.iconst 1, 1) := by decide +kernel
theorem dX1_isKept_43 : decode cX1_isKept 43 = .ok (.ireturn, 1) := by decide +kernel
theorem dX1_seekCuts_0 : decode cX1_seekCuts 0 = .ok (.aload_n 0, 1) := by decide +kernel
theorem dX1_seekCuts_1 : decode cX1_seekCuts 1 = .ok (.ldc 46, 2) := by decide +kernel
theorem dX1_seekCuts_3 : decode cX1_seekCuts 3 = .ok (.putfield 18, 3) := by decide +kernel
theorem dX1_seekCuts_6 : decode cX1_seekCuts 6 = .ok (.iconst 0, 1) := by decide +kernel
theorem dX1_seekCuts_7 : decode cX1_seekCuts 7 = .ok (.istore_n 2, 1) := by decide +kernel
theorem dX1_seekCuts_8 : decode cX1_seekCuts 8 = .ok (.iload_n 2, 1) := by decide +kernel
theorem dX1_seekCuts_9 : decode cX1_seekCuts 9 = .ok (.bipush 10, 2) := by decide +kernel
theorem dX1_seekCuts_11 : decode cX1_seekCuts 11 = .ok (.if_icmp .gt 66, 3) := by decide +kernel
theorem dX1_seekCuts_14 : decode cX1_seekCuts 14 = .ok (.bipush 11, 2) := by decide +kernel
theorem dX1_seekCuts_16 : decode cX1_seekCuts 16 = .ok (.istore_n 3, 1) := by decide +kernel
theorem dX1_seekCuts_17 : decode cX1_seekCuts 17 = .ok (.iconst 0, 1) := by decide +kernel
theorem dX1_seekCuts_18 : decode cX1_seekCuts 18 = .ok (.istore 4, 2) := by decide +kernel
theorem dX1_seekCuts_20 : decode cX1_seekCuts 20 = .ok (.iload 4, 2) := by decide +kernel
theorem dX1_seekCuts_22 : decode cX1_seekCuts 22 = .ok (.bipush 10, 2) := by decide +kernel
theorem dX1_seekCuts_24 : decode cX1_seekCuts 24 = .ok (.if_icmp .gt 47, 3) := by decide +kernel
theorem dX1_seekCuts_27 : decode cX1_seekCuts 27 = .ok (.iload_n 3, 1) := by decide +kernel
theorem dX1_seekCuts_28 : decode cX1_seekCuts 28 = .ok (.ifCond .le 23, 3) := by decide +kernel
theorem dX1_seekCuts_31 : decode cX1_seekCuts 31 = .ok (.aload_n 0, 1) := by decide +kernel
theorem dX1_seekCuts_32 : decode cX1_seekCuts 32 = .ok (.aload_n 1, 1) := by decide +kernel
theorem dX1_seekCuts_33 : decode cX1_seekCuts 33 = .ok (.iload_n 2, 1) := by decide +kernel
theorem dX1_seekCuts_34 : decode cX1_seekCuts 34 = .ok (.iload 4, 2) := by decide +kernel
theorem dX1_seekCuts_36 : decode cX1_seekCuts 36 = .ok (.iload_n 3, 1) := by decide +kernel
theorem dX1_seekCuts_37 : decode cX1_seekCuts 37 = .ok (.iconst 1, 1) := by decide +kernel
theorem dX1_seekCuts_38 : decode cX1_seekCuts 38 = .ok (.isub, 1) := by decide +kernel
theorem dX1_seekCuts_39 : decode cX1_seekCuts 39 = .ok (.invokevirtual 47, 3) := by decide +kernel
theorem dX1_seekCuts_42 : decode cX1_seekCuts 42 = .ok (.ifCond .eq 9, 3) := by decide +kernel
theorem dX1_seekCuts_45 : decode cX1_seekCuts 45 = .ok (.iinc 3 (-1), 3) := by decide +kernel
theorem dX1_seekCuts_48 : decode cX1_seekCuts 48 = .ok (.goto (-21), 3) := by decide +kernel
theorem dX1_seekCuts_51 : decode cX1_seekCuts 51 = .ok (.iload_n 3, 1) := by decide +kernel
theorem dX1_seekCuts_52 : decode cX1_seekCuts 52 = .ok (.bipush 10, 2) := by decide +kernel
theorem dX1_seekCuts_54 : decode cX1_seekCuts 54 = .ok (.if_icmp .gt 11, 3) := by decide +kernel
theorem dX1_seekCuts_57 : decode cX1_seekCuts 57 = .ok (.aload_n 0, 1) := by decide +kernel
theorem dX1_seekCuts_58 : decode cX1_seekCuts 58 = .ok (.iload_n 2, 1) := by decide +kernel
theorem dX1_seekCuts_59 : decode cX1_seekCuts 59 = .ok (.iload 4, 2) := by decide +kernel
theorem dX1_seekCuts_61 : decode cX1_seekCuts 61 = .ok (.iload_n 3, 1) := by decide +kernel
theorem dX1_seekCuts_62 : decode cX1_seekCuts 62 = .ok (.invokevirtual 51, 3) := by decide +kernel
theorem dX1_seekCuts_65 : decode cX1_seekCuts 65 = .ok (.iinc 4 1, 3) := by decide +kernel
theorem dX1_seekCuts_68 : decode cX1_seekCuts 68 = .ok (.goto (-48), 3) := by decide +kernel
theorem dX1_seekCuts_71 : decode cX1_seekCuts 71 = .ok (.iinc 2 1, 3) := by decide +kernel
theorem dX1_seekCuts_74 : decode cX1_seekCuts 74 = .ok (.goto (-66), 3) := by decide +kernel
theorem dX1_seekCuts_77 : decode cX1_seekCuts 77 = .ok (.return_, 1) := by decide +kernel
theorem dX1_offer_0 : decode cX1_offer 0 = .ok (.iload_n 1, 1) := by decide +kernel
theorem dX1_offer_1 : decode cX1_offer 1 = .ok (.aload_n 0, 1) := by decide +kernel
theorem dX1_offer_2 : decode cX1_offer 2 = .ok (.getfield 9, 3) := by decide +kernel
theorem dX1_offer_5 : decode cX1_offer 5 = .ok (.iconst 0, 1) := by decide +kernel
theorem dX1_offer_6 : decode cX1_offer 6 = .ok (.iaload, 1) := by decide +kernel
theorem dX1_offer_7 : decode cX1_offer 7 = .ok (.imul, 1) := by decide +kernel
theorem dX1_offer_8 : decode cX1_offer 8 = .ok (.iload_n 2, 1) := by decide +kernel
theorem dX1_offer_9 : decode cX1_offer 9 = .ok (.aload_n 0, 1) := by decide +kernel
theorem dX1_offer_10 : decode cX1_offer 10 = .ok (.getfield 9, 3) := by decide +kernel
theorem dX1_offer_13 : decode cX1_offer 13 = .ok (.iconst 1, 1) := by decide +kernel
theorem dX1_offer_14 : decode cX1_offer 14 = .ok (.iaload, 1) := by decide +kernel
theorem dX1_offer_15 : decode cX1_offer 15 = .ok (.imul, 1) := by decide +kernel
theorem dX1_offer_16 : decode cX1_offer 16 = .ok (.iadd, 1) := by decide +kernel
theorem dX1_offer_17 : decode cX1_offer 17 = .ok (.iload_n 3, 1) := by decide +kernel
theorem dX1_offer_18 : decode cX1_offer 18 = .ok (.aload_n 0, 1) := by decide +kernel
theorem dX1_offer_19 : decode cX1_offer 19 = .ok (.getfield 9, 3) := by decide +kernel
theorem dX1_offer_22 : decode cX1_offer 22 = .ok (.iconst 2, 1) := by decide +kernel
theorem dX1_offer_23 : decode cX1_offer 23 = .ok (.iaload, 1) := by decide +kernel
theorem dX1_offer_24 : decode cX1_offer 24 = .ok (.imul, 1) := by decide +kernel
theorem dX1_offer_25 : decode cX1_offer 25 = .ok (.iadd, 1) := by decide +kernel
theorem dX1_offer_26 : decode cX1_offer 26 = .ok (.istore 4, 2) := by decide +kernel
theorem dX1_offer_28 : decode cX1_offer 28 = .ok (.iload 4, 2) := by decide +kernel
theorem dX1_offer_30 : decode cX1_offer 30 = .ok (.aload_n 0, 1) := by decide +kernel
theorem dX1_offer_31 : decode cX1_offer 31 = .ok (.getfield 18, 3) := by decide +kernel
theorem dX1_offer_34 : decode cX1_offer 34 = .ok (.if_icmp .ge 30, 3) := by decide +kernel
theorem dX1_offer_37 : decode cX1_offer 37 = .ok (.aload_n 0, 1) := by decide +kernel
theorem dX1_offer_38 : decode cX1_offer 38 = .ok (.iload 4, 2) := by decide +kernel
theorem dX1_offer_40 : decode cX1_offer 40 = .ok (.putfield 18, 3) := by decide +kernel
theorem dX1_offer_43 : decode cX1_offer 43 = .ok (.aload_n 0, 1) := by decide +kernel
theorem dX1_offer_44 : decode cX1_offer 44 = .ok (.getfield 15, 3) := by decide +kernel
theorem dX1_offer_47 : decode cX1_offer 47 = .ok (.iconst 0, 1) := by decide +kernel
theorem dX1_offer_48 : decode cX1_offer 48 = .ok (.iload_n 1, 1) := by decide +kernel
theorem dX1_offer_49 : decode cX1_offer 49 = .ok (.iastore, 1) := by decide +kernel
theorem dX1_offer_50 : decode cX1_offer 50 = .ok (.aload_n 0, 1) := by decide +kernel
theorem dX1_offer_51 : decode cX1_offer 51 = .ok (.getfield 15, 3) := by decide +kernel
theorem dX1_offer_54 : decode cX1_offer 54 = .ok (.iconst 1, 1) := by decide +kernel
theorem dX1_offer_55 : decode cX1_offer 55 = .ok (.iload_n 2, 1) := by decide +kernel
theorem dX1_offer_56 : decode cX1_offer 56 = .ok (.iastore, 1) := by decide +kernel
theorem dX1_offer_57 : decode cX1_offer 57 = .ok (.aload_n 0, 1) := by decide +kernel
theorem dX1_offer_58 : decode cX1_offer 58 = .ok (.getfield 15, 3) := by decide +kernel
theorem dX1_offer_61 : decode cX1_offer 61 = .ok (.iconst 2, 1) := by decide +kernel
theorem dX1_offer_62 : decode cX1_offer 62 = .ok (.iload_n 3, 1) := by decide +kernel
theorem dX1_offer_63 : decode cX1_offer 63 = .ok (.iastore, 1) := by decide +kernel
theorem dX1_offer_64 : decode cX1_offer 64 = .ok (.return_, 1) := by decide +kernel
theorem dX2_init_0 : decode cX2_init 0 = .ok (.aload_n 0, 1) := by decide +kernel
theorem dX2_init_1 : decode cX2_init 1 = .ok (.invokespecial 3, 3) := by decide +kernel
theorem dX2_init_4 : decode cX2_init 4 = .ok (.aload_n 0, 1) := by decide +kernel
theorem dX2_init_5 : decode cX2_init 5 = .ok (.bipush 100, 2) := by decide +kernel
theorem dX2_init_7 : decode cX2_init 7 = .ok (.newarray .long, 2) := by decide +kernel
theorem dX2_init_9 : decode cX2_init 9 = .ok (.putfield 9, 3) := by decide +kernel
theorem dX2_init_12 : decode cX2_init 12 = .ok (.aload_n 0, 1) := by decide +kernel
theorem dX2_init_13 : decode cX2_init 13 = .ok (.iconst 3, 1) := by decide +kernel
theorem dX2_init_14 : decode cX2_init 14 = .ok (.bipush 100, 2) := by decide +kernel
theorem dX2_init_16 : decode cX2_init 16 = .ok (.multianewarray 15 2, 4) := by decide +kernel
theorem dX2_init_20 : decode cX2_init 20 = .ok (.putfield 17, 3) := by decide +kernel
theorem dX2_init_23 : decode cX2_init 23 = .ok (.aload_n 0, 1) := by decide +kernel
theorem dX2_init_24 : decode cX2_init 24 = .ok (.bipush 100, 2) := by decide +kernel
theorem dX2_init_26 : decode cX2_init 26 = .ok (.newarray .boolean, 2) := by decide +kernel
theorem dX2_init_28 : decode cX2_init 28 = .ok (.putfield 20, 3) := by decide +kernel
theorem dX2_init_31 : decode cX2_init 31 = .ok (.aload_n 0, 1) := by decide +kernel
theorem dX2_init_32 : decode cX2_init 32 = .ok (.iconst 0, 1) := by decide +kernel
theorem dX2_init_33 : decode cX2_init 33 = .ok (.putfield 24, 3) := by decide +kernel
theorem dX2_init_36 : decode cX2_init 36 = .ok (.aload_n 0, 1) := by decide +kernel
theorem dX2_init_37 : decode cX2_init 37 = .ok (.iconst 0, 1) := by decide +kernel
theorem dX2_init_38 : decode cX2_init 38 = .ok (.putfield 28, 3) := by decide +kernel
theorem dX2_init_41 : decode cX2_init 41 = .ok (.aload_n 0, 1) := by decide +kernel
theorem dX2_init_42 : decode cX2_init 42 = .ok (.iconst 0, 1) := by decide +kernel
theorem dX2_init_43 : decode cX2_init 43 = .ok (.putfield 31, 3) := by decide +kernel
theorem dX2_init_46 : decode cX2_init 46 = .ok (.aload_n 0, 1) := by decide +kernel
theorem dX2_init_47 : decode cX2_init 47 = .ok (.iconst 0, 1) := by decide +kernel
theorem dX2_init_48 : decode cX2_init 48 = .ok (.putfield 34, 3) := by decide +kernel
theorem dX2_init_51 : decode cX2_init 51 = .ok (.aload_n 0, 1) := by decide +kernel
theorem dX2_init_52 : decode cX2_init 52 = .ok (.iconst 0, 1) := by decide +kernel
theorem dX2_init_53 : decode cX2_init 53 = .ok (.putfield 38, 3) := by decide +kernel
theorem dX2_init_56 : decode cX2_init 56 = .ok (.return_, 1) := by decide +kernel
theorem dX2_move_0 : decode cX2_move 0 = .ok (.aload_n 0, 1) := by decide +kernel
theorem dX2_move_1 : decode cX2_move 1 = .ok (.getfield 28, 3) := by decide +kernel
theorem dX2_move_4 : decode cX2_move 4 = .ok (.istore_n 2, 1) := by decide +kernel
theorem dX2_move_5 : decode cX2_move 5 = .ok (.aload_n 0, 1) := by decide +kernel
theorem dX2_move_6 : decode cX2_move 6 = .ok (.iload_n 1, 1) := by decide +kernel
theorem dX2_move_7 : decode cX2_move 7 = .ok (.putfield 24, 3) := by decide +kernel
theorem dX2_move_10 : decode cX2_move 10 = .ok (.aload_n 0, 1) := by decide +kernel
theorem dX2_move_11 : decode cX2_move 11 = .ok (.iconst 0, 1) := by decide +kernel
theorem dX2_move_12 : decode cX2_move 12 = .ok (.putfield 28, 3) := by decide +kernel
theorem dX2_move_15 : decode cX2_move 15 = .ok (.iload_n 2, 1) := by decide +kernel
theorem dX2_move_16 : decode cX2_move 16 = .ok (.ireturn, 1) := by decide +kernel
theorem dX2_write_0 : decode cX2_write 0 = .ok (.aload_n 0, 1) := by decide +kernel
theorem dX2_write_1 : decode cX2_write 1 = .ok (.aload_n 0, 1) := by decide +kernel
theorem dX2_write_2 : decode cX2_write 2 = .ok (.getfield 31, 3) := by decide +kernel
theorem dX2_write_5 : decode cX2_write 5 = .ok (.iconst 1, 1) := by decide +kernel
theorem dX2_write_6 : decode cX2_write 6 = .ok (.iadd, 1) := by decide +kernel
theorem dX2_write_7 : decode cX2_write 7 = .ok (.bipush 100, 2) := by decide +kernel
theorem dX2_write_9 : decode cX2_write 9 = .ok (.irem, 1) := by decide +kernel
theorem dX2_write_10 : decode cX2_write 10 = .ok (.putfield 31, 3) := by decide +kernel
theorem dX2_write_13 : decode cX2_write 13 = .ok (.aload_n 0, 1) := by decide +kernel
theorem dX2_write_14 : decode cX2_write 14 = .ok (.aload_n 0, 1) := by decide +kernel
theorem dX2_write_15 : decode cX2_write 15 = .ok (.getfield 28, 3) := by decide +kernel
theorem dX2_write_18 : decode cX2_write 18 = .ok (.iconst 1, 1) := by decide +kernel
theorem dX2_write_19 : decode cX2_write 19 = .ok (.iadd, 1) := by decide +kernel
theorem dX2_write_20 : decode cX2_write 20 = .ok (.bipush 100, 2) := by decide +kernel
theorem dX2_write_22 : decode cX2_write 22 = .ok (.invokestatic 41, 3) := by decide +kernel
theorem dX2_write_25 : decode cX2_write 25 = .ok (.putfield 28, 3) := by decide +kernel
theorem dX2_write_28 : decode cX2_write 28 = .ok (.aload_n 0, 1) := by decide +kernel
theorem dX2_write_29 : decode cX2_write 29 = .ok (.getfield 20, 3) := by decide +kernel
theorem dX2_write_32 : decode cX2_write 32 = .ok (.aload_n 0, 1) := by decide +kernel
theorem dX2_write_33 : decode cX2_write 33 = .ok (.getfield 31, 3) := by decide +kernel
theorem dX2_write_36 : decode cX2_write 36 = .ok (.aload_n 0, 1) := by decide +kernel
theorem dX2_write_37 : decode cX2_write 37 = .ok (.getfield 34, 3) := by decide +kernel
theorem dX2_write_40 : decode cX2_write 40 = .ok (.bastore, 1) := by decide +kernel
theorem dX2_write_41 : decode cX2_write 41 = .ok (.aload_n 0, 1) := by decide +kernel
theorem dX2_write_42 : decode cX2_write 42 = .ok (.getfield 9, 3) := by decide +kernel
theorem dX2_write_45 : decode cX2_write 45 = .ok (.aload_n 0, 1) := by decide +kernel
theorem dX2_write_46 : decode cX2_write 46 = .ok (.getfield 31, 3) := by decide +kernel
theorem dX2_write_49 : decode cX2_write 49 = .ok (.lconst 0, 1) := by decide +kernel
theorem dX2_write_50 : decode cX2_write 50 = .ok (.lastore, 1) := by decide +kernel
theorem dX2_write_51 : decode cX2_write 51 = .ok (.iconst 0, 1) := by decide +kernel
theorem dX2_write_52 : decode cX2_write 52 = .ok (.istore_n 2, 1) := by decide +kernel
theorem dX2_write_53 : decode cX2_write 53 = .ok (.iload_n 2, 1) := by decide +kernel
theorem dX2_write_54 : decode cX2_write 54 = .ok (.iconst 3, 1) := by decide +kernel
theorem dX2_write_55 : decode cX2_write 55 = .ok (.if_icmp .ge 46, 3) := by decide +kernel
theorem dX2_write_58 : decode cX2_write 58 = .ok (.aload_n 1, 1) := by decide +kernel
theorem dX2_write_59 : decode cX2_write 59 = .ok (.iload_n 2, 1) := by decide +kernel
theorem dX2_write_60 : decode cX2_write 60 = .ok (.aaload, 1) := by decide +kernel
theorem dX2_write_61 : decode cX2_write 61 = .ok (.getfield 47, 3) := by decide +kernel
theorem dX2_write_64 : decode cX2_write 64 = .ok (.aload_n 0, 1) := by decide +kernel
theorem dX2_write_65 : decode cX2_write 65 = .ok (.getfield 24, 3) := by decide +kernel
theorem dX2_write_68 : decode cX2_write 68 = .ok (.laload, 1) := by decide +kernel
theorem dX2_write_69 : decode cX2_write 69 = .ok (.lstore_n 3, 1) := by decide +kernel
theorem dX2_write_70 : decode cX2_write 70 = .ok (.aload_n 0, 1) := by decide +kernel
theorem dX2_write_71 : decode cX2_write 71 = .ok (.getfield 17, 3) := by decide +kernel
theorem dX2_write_74 : decode cX2_write 74 = .ok (.iload_n 2, 1) := by decide +kernel
theorem dX2_write_75 : decode cX2_write 75 = .ok (.aaload, 1) := by decide +kernel
theorem dX2_write_76 : decode cX2_write 76 = .ok (.aload_n 0, 1) := by decide +kernel
theorem dX2_write_77 : decode cX2_write 77 = .ok (.getfield 31, 3) := by decide +kernel
theorem dX2_write_80 : decode cX2_write 80 = .ok (.lload_n 3, 1) := by decide +kernel
theorem dX2_write_81 : decode cX2_write 81 = .ok (.lastore, 1) := by decide +kernel
theorem dX2_write_82 : decode cX2_write 82 = .ok (.aload_n 0, 1) := by decide +kernel
theorem dX2_write_83 : decode cX2_write 83 = .ok (.getfield 9, 3) := by decide +kernel
theorem dX2_write_86 : decode cX2_write 86 = .ok (.aload_n 0, 1) := by decide +kernel
theorem dX2_write_87 : decode cX2_write 87 = .ok (.getfield 31, 3) := by decide +kernel
theorem dX2_write_90 : decode cX2_write 90 = .ok (.dup2, 1) := by decide +kernel
theorem dX2_write_91 : decode cX2_write 91 = .ok (.laload, 1) := by decide +kernel
theorem dX2_write_92 : decode cX2_write 92 = .ok (.lload_n 3, 1) := by decide +kernel
theorem dX2_write_93 : decode cX2_write 93 = .ok (.ladd, 1) := by decide +kernel
theorem dX2_write_94 : decode cX2_write 94 = .ok (.lastore, 1) := by decide +kernel
theorem dX2_write_95 : decode cX2_write 95 = .ok (.iinc 2 1, 3) := by decide +kernel
theorem dX2_write_98 : decode cX2_write 98 = .ok (.goto (-45), 3) := by decide +kernel
theorem dX2_write_101 : decode cX2_write 101 = .ok (.return_, 1) := by decide +kernel
theorem dX2_slotOf_0 : decode cX2_slotOf 0 = .ok (.aload_n 0, 1) := by decide +kernel
theorem dX2_slotOf_1 : decode cX2_slotOf 1 = .ok (.getfield 31, 3) := by decide +kernel
theorem dX2_slotOf_4 : decode cX2_slotOf 4 = .ok (.iload_n 1, 1) := by decide +kernel
theorem dX2_slotOf_5 : decode cX2_slotOf 5 = .ok (.isub, 1) := by decide +kernel
theorem dX2_slotOf_6 : decode cX2_slotOf 6 = .ok (.bipush 100, 2) := by decide +kernel
theorem dX2_slotOf_8 : decode cX2_slotOf 8 = .ok (.iadd, 1) := by decide +kernel
theorem dX2_slotOf_9 : decode cX2_slotOf 9 = .ok (.bipush 100, 2) := by decide +kernel
theorem dX2_slotOf_11 : decode cX2_slotOf 11 = .ok (.irem, 1) := by decide +kernel
theorem dX2_slotOf_12 : decode cX2_slotOf 12 = .ok (.ireturn, 1) := by decide +kernel
theorem dX2_countOfWritten_0 : decode cX2_countOfWritten 0 = .ok (.aload_n 0, 1) := by decide +kernel
theorem dX2_countOfWritten_1 : decode cX2_countOfWritten 1 = .ok (.iconst 0, 1) := by decide +kernel
theorem dX2_countOfWritten_2 : decode cX2_countOfWritten 2 = .ok (.aload_n 0, 1) := by decide +kernel
theorem dX2_countOfWritten_3 : decode cX2_countOfWritten 3 = .ok (.getfield 28, 3) := by decide +kernel
theorem dX2_countOfWritten_6 : decode cX2_countOfWritten 6 = .ok (.invokevirtual 52, 3) := by decide +kernel
theorem dX2_countOfWritten_9 : decode cX2_countOfWritten 9 = .ok (.ireturn, 1) := by decide +kernel
theorem dX2_writtenIn_0 : decode cX2_writtenIn 0 = .ok (.iconst 0, 1) := by decide +kernel
theorem dX2_writtenIn_1 : decode cX2_writtenIn 1 = .ok (.istore_n 3, 1) := by decide +kernel
theorem dX2_writtenIn_2 : decode cX2_writtenIn 2 = .ok (.iload_n 1, 1) := by decide +kernel
theorem dX2_writtenIn_3 : decode cX2_writtenIn 3 = .ok (.istore 4, 2) := by decide +kernel
theorem dX2_writtenIn_5 : decode cX2_writtenIn 5 = .ok (.iload 4, 2) := by decide +kernel
theorem dX2_writtenIn_7 : decode cX2_writtenIn 7 = .ok (.iload_n 1, 1) := by decide +kernel
theorem dX2_writtenIn_8 : decode cX2_writtenIn 8 = .ok (.iload_n 2, 1) := by decide +kernel
theorem dX2_writtenIn_9 : decode cX2_writtenIn 9 = .ok (.iadd, 1) := by decide +kernel
theorem dX2_writtenIn_10 : decode cX2_writtenIn 10 = .ok (.if_icmp .ge 31, 3) := by decide +kernel
theorem dX2_writtenIn_13 : decode cX2_writtenIn 13 = .ok (.iload_n 3, 1) := by decide +kernel
theorem dX2_writtenIn_14 : decode cX2_writtenIn 14 = .ok (.aload_n 0, 1) := by decide +kernel
theorem dX2_writtenIn_15 : decode cX2_writtenIn 15 = .ok (.getfield 20, 3) := by decide +kernel
theorem dX2_writtenIn_18 : decode cX2_writtenIn 18 = .ok (.aload_n 0, 1) := by decide +kernel
theorem dX2_writtenIn_19 : decode cX2_writtenIn 19 = .ok (.iload 4, 2) := by decide +kernel
theorem dX2_writtenIn_21 : decode cX2_writtenIn 21 = .ok (.invokevirtual 55, 3) := by decide +kernel
theorem dX2_writtenIn_24 : decode cX2_writtenIn 24 = .ok (.baload, 1) := by decide +kernel
theorem dX2_writtenIn_25 : decode cX2_writtenIn 25 = .ok (.ifCond .eq 7, 3) := by decide +kernel
theorem dX2_writtenIn_28 : decode cX2_writtenIn 28 = .ok (.iconst 0, 1) := by decide +kernel
theorem dX2_writtenIn_29 : decode cX2_writtenIn 29 = .ok (.goto 4, 3) := by decide +kernel
theorem dX2_writtenIn_32 : decode cX2_writtenIn 32 = .ok (.iconst 1, 1) := by decide +kernel
theorem dX2_writtenIn_33 : decode cX2_writtenIn 33 = .ok (.iadd, 1) := by decide +kernel
theorem dX2_writtenIn_34 : decode cX2_writtenIn 34 = .ok (.istore_n 3, 1) := by decide +kernel
theorem dX2_writtenIn_35 : decode cX2_writtenIn 35 = .ok (.iinc 4 1, 3) := by decide +kernel
theorem dX2_writtenIn_38 : decode cX2_writtenIn 38 = .ok (.goto (-33), 3) := by decide +kernel
theorem dX2_writtenIn_41 : decode cX2_writtenIn 41 = .ok (.iload_n 3, 1) := by decide +kernel
theorem dX2_writtenIn_42 : decode cX2_writtenIn 42 = .ok (.ireturn, 1) := by decide +kernel
theorem dX2_sumIn_0 : decode cX2_sumIn 0 = .ok (.lconst 0, 1) := by decide +kernel
theorem dX2_sumIn_1 : decode cX2_sumIn 1 = .ok (.lstore_n 3, 1) := by decide +kernel
theorem dX2_sumIn_2 : decode cX2_sumIn 2 = .ok (.iload_n 1, 1) := by decide +kernel
theorem dX2_sumIn_3 : decode cX2_sumIn 3 = .ok (.istore 5, 2) := by decide +kernel
theorem dX2_sumIn_5 : decode cX2_sumIn 5 = .ok (.iload 5, 2) := by decide +kernel
theorem dX2_sumIn_7 : decode cX2_sumIn 7 = .ok (.iload_n 1, 1) := by decide +kernel
theorem dX2_sumIn_8 : decode cX2_sumIn 8 = .ok (.iload_n 2, 1) := by decide +kernel
theorem dX2_sumIn_9 : decode cX2_sumIn 9 = .ok (.iadd, 1) := by decide +kernel
theorem dX2_sumIn_10 : decode cX2_sumIn 10 = .ok (.if_icmp .ge 41, 3) := by decide +kernel
theorem dX2_sumIn_13 : decode cX2_sumIn 13 = .ok (.aload_n 0, 1) := by decide +kernel
theorem dX2_sumIn_14 : decode cX2_sumIn 14 = .ok (.iload 5, 2) := by decide +kernel
theorem dX2_sumIn_16 : decode cX2_sumIn 16 = .ok (.invokevirtual 55, 3) := by decide +kernel
theorem dX2_sumIn_19 : decode cX2_sumIn 19 = .ok (.istore 6, 2) := by decide +kernel
theorem dX2_sumIn_21 : decode cX2_sumIn 21 = .ok (.lload_n 3, 1) := by decide +kernel
theorem dX2_sumIn_22 : decode cX2_sumIn 22 = .ok (.aload_n 0, 1) := by decide +kernel
theorem dX2_sumIn_23 : decode cX2_sumIn 23 = .ok (.getfield 20, 3) := by decide +kernel
theorem dX2_sumIn_26 : decode cX2_sumIn 26 = .ok (.iload 6, 2) := by decide +kernel
theorem dX2_sumIn_28 : decode cX2_sumIn 28 = .ok (.baload, 1) := by decide +kernel
theorem dX2_sumIn_29 : decode cX2_sumIn 29 = .ok (.ifCond .eq 7, 3) := by decide +kernel
theorem dX2_sumIn_32 : decode cX2_sumIn 32 = .ok (.lconst 0, 1) := by decide +kernel
theorem dX2_sumIn_33 : decode cX2_sumIn 33 = .ok (.goto 10, 3) := by decide +kernel
theorem dX2_sumIn_36 : decode cX2_sumIn 36 = .ok (.aload_n 0, 1) := by decide +kernel
theorem dX2_sumIn_37 : decode cX2_sumIn 37 = .ok (.getfield 9, 3) := by decide +kernel
theorem dX2_sumIn_40 : decode cX2_sumIn 40 = .ok (.iload 6, 2) := by decide +kernel
theorem dX2_sumIn_42 : decode cX2_sumIn 42 = .ok (.laload, 1) := by decide +kernel
theorem dX2_sumIn_43 : decode cX2_sumIn 43 = .ok (.ladd, 1) := by decide +kernel
theorem dX2_sumIn_44 : decode cX2_sumIn 44 = .ok (.lstore_n 3, 1) := by decide +kernel
theorem dX2_sumIn_45 : decode cX2_sumIn 45 = .ok (.iinc 5 1, 3) := by decide +kernel
theorem dX2_sumIn_48 : decode cX2_sumIn 48 = .ok (.goto (-43), 3) := by decide +kernel
theorem dX2_sumIn_51 : decode cX2_sumIn 51 = .ok (.lload_n 3, 1) := by decide +kernel
theorem dX2_sumIn_52 : decode cX2_sumIn 52 = .ok (.lreturn, 1) := by decide +kernel
theorem dX2_meanOfWritten_0 : decode cX2_meanOfWritten 0 = .ok (.aload_n 0, 1) := by decide +kernel
theorem dX2_meanOfWritten_1 : decode cX2_meanOfWritten 1 = .ok (.invokevirtual 59, 3) := by decide +kernel
theorem dX2_meanOfWritten_4 : decode cX2_meanOfWritten 4 = .ok (.istore_n 1, 1) := by decide +kernel
theorem dX2_meanOfWritten_5 : decode cX2_meanOfWritten 5 = .ok (.iload_n 1, 1) := by decide +kernel
theorem dX2_meanOfWritten_6 : decode cX2_meanOfWritten 6 = .ok (.ifCond .ne 9, 3) := by decide +kernel
theorem dX2_meanOfWritten_9 : decode cX2_meanOfWritten 9 = .ok (.ldc2_w 63, 3) := by decide +kernel
theorem dX2_meanOfWritten_12 : decode cX2_meanOfWritten 12 = .ok (.goto 15, 3) := by decide +kernel
theorem dX2_meanOfWritten_15 : decode cX2_meanOfWritten 15 = .ok (.aload_n 0, 1) := by decide +kernel
theorem dX2_meanOfWritten_16 : decode cX2_meanOfWritten 16 = .ok (.iconst 0, 1) := by decide +kernel
theorem dX2_meanOfWritten_17 : decode cX2_meanOfWritten 17 = .ok (.aload_n 0, 1) := by decide +kernel
theorem dX2_meanOfWritten_18 : decode cX2_meanOfWritten 18 = .ok (.getfield 28, 3) := by decide +kernel
theorem dX2_meanOfWritten_21 : decode cX2_meanOfWritten 21 = .ok (.invokevirtual 65, 3) := by decide +kernel
theorem dX2_meanOfWritten_24 : decode cX2_meanOfWritten 24 = .ok (.iload_n 1, 1) := by decide +kernel
theorem dX2_meanOfWritten_25 : decode cX2_meanOfWritten 25 = .ok (.i2l, 1) := by decide +kernel
theorem dX2_meanOfWritten_26 : decode cX2_meanOfWritten 26 = .ok (.ldiv, 1) := by decide +kernel
theorem dX2_meanOfWritten_27 : decode cX2_meanOfWritten 27 = .ok (.lreturn, 1) := by decide +kernel
theorem dX2_greatest_0 : decode cX2_greatest 0 = .ok (.iconst 0, 1) := by decide +kernel
theorem dX2_greatest_1 : decode cX2_greatest 1 = .ok (.istore_n 2, 1) := by decide +kernel
theorem dX2_greatest_2 : decode cX2_greatest 2 = .ok (.iload_n 2, 1) := by decide +kernel
theorem dX2_greatest_3 : decode cX2_greatest 3 = .ok (.aload_n 0, 1) := by decide +kernel
theorem dX2_greatest_4 : decode cX2_greatest 4 = .ok (.getfield 28, 3) := by decide +kernel
theorem dX2_greatest_7 : decode cX2_greatest 7 = .ok (.if_icmp .ge 57, 3) := by decide +kernel
theorem dX2_greatest_10 : decode cX2_greatest 10 = .ok (.aload_n 0, 1) := by decide +kernel
theorem dX2_greatest_11 : decode cX2_greatest 11 = .ok (.iload_n 2, 1) := by decide +kernel
theorem dX2_greatest_12 : decode cX2_greatest 12 = .ok (.invokevirtual 55, 3) := by decide +kernel
theorem dX2_greatest_15 : decode cX2_greatest 15 = .ok (.istore_n 3, 1) := by decide +kernel
theorem dX2_greatest_16 : decode cX2_greatest 16 = .ok (.aload_n 0, 1) := by decide +kernel
theorem dX2_greatest_17 : decode cX2_greatest 17 = .ok (.getfield 9, 3) := by decide +kernel
theorem dX2_greatest_20 : decode cX2_greatest 20 = .ok (.iload_n 3, 1) := by decide +kernel
theorem dX2_greatest_21 : decode cX2_greatest 21 = .ok (.laload, 1) := by decide +kernel
theorem dX2_greatest_22 : decode cX2_greatest 22 = .ok (.lstore 4, 2) := by decide +kernel
theorem dX2_greatest_24 : decode cX2_greatest 24 = .ok (.aload_n 0, 1) := by decide +kernel
theorem dX2_greatest_25 : decode cX2_greatest 25 = .ok (.getfield 20, 3) := by decide +kernel
theorem dX2_greatest_28 : decode cX2_greatest 28 = .ok (.iload_n 3, 1) := by decide +kernel
theorem dX2_greatest_29 : decode cX2_greatest 29 = .ok (.baload, 1) := by decide +kernel
theorem dX2_greatest_30 : decode cX2_greatest 30 = .ok (.ifCond .ne 28, 3) := by decide +kernel
theorem dX2_greatest_33 : decode cX2_greatest 33 = .ok (.aload_n 0, 1) := by decide +kernel
theorem dX2_greatest_34 : decode cX2_greatest 34 = .ok (.lload 4, 2) := by decide +kernel
theorem dX2_greatest_36 : decode cX2_greatest 36 = .ok (.invokevirtual 69, 3) := by decide +kernel
theorem dX2_greatest_39 : decode cX2_greatest 39 = .ok (.iload_n 1, 1) := by decide +kernel
theorem dX2_greatest_40 : decode cX2_greatest 40 = .ok (.if_icmp .ge 18, 3) := by decide +kernel
theorem dX2_greatest_43 : decode cX2_greatest 43 = .ok (.aload_n 0, 1) := by decide +kernel
theorem dX2_greatest_44 : decode cX2_greatest 44 = .ok (.lload 4, 2) := by decide +kernel
theorem dX2_greatest_46 : decode cX2_greatest 46 = .ok (.lconst 1, 1) := by decide +kernel
theorem dX2_greatest_47 : decode cX2_greatest 47 = .ok (.lsub, 1) := by decide +kernel
theorem dX2_greatest_48 : decode cX2_greatest 48 = .ok (.invokevirtual 69, 3) := by decide +kernel
theorem dX2_greatest_51 : decode cX2_greatest 51 = .ok (.iload_n 1, 1) := by decide +kernel
theorem dX2_greatest_52 : decode cX2_greatest 52 = .ok (.if_icmp .lt 6, 3) := by decide +kernel
theorem dX2_greatest_55 : decode cX2_greatest 55 = .ok (.lload 4, 2) := by decide +kernel
theorem dX2_greatest_57 : decode cX2_greatest 57 = .ok (.lreturn, 1) := by decide +kernel
theorem dX2_greatest_58 : decode cX2_greatest 58 = .ok (.iinc 2 1, 3) := by decide +kernel
theorem dX2_greatest_61 : decode cX2_greatest 61 = .ok (.goto (-59), 3) := by decide +kernel
theorem dX2_greatest_64 : decode cX2_greatest 64 = .ok (.ldc2_w 63, 3) := by decide +kernel
theorem dX2_greatest_67 : decode cX2_greatest 67 = .ok (.lreturn, 1) := by decide +kernel
theorem dX2_countAbove_0 : decode cX2_countAbove 0 = .ok (.iconst 0, 1) := by decide +kernel
theorem dX2_countAbove_1 : decode cX2_countAbove 1 = .ok (.istore_n 3, 1) := by decide +kernel
theorem dX2_countAbove_2 : decode cX2_countAbove 2 = .ok (.iconst 0, 1) := by decide +kernel
theorem dX2_countAbove_3 : decode cX2_countAbove 3 = .ok (.istore 4, 2) := by decide +kernel
theorem dX2_countAbove_5 : decode cX2_countAbove 5 = .ok (.iload 4, 2) := by decide +kernel
theorem dX2_countAbove_7 : decode cX2_countAbove 7 = .ok (.aload_n 0, 1) := by decide +kernel
theorem dX2_countAbove_8 : decode cX2_countAbove 8 = .ok (.getfield 28, 3) := by decide +kernel
theorem dX2_countAbove_11 : decode cX2_countAbove 11 = .ok (.if_icmp .ge 47, 3) := by decide +kernel
theorem dX2_countAbove_14 : decode cX2_countAbove 14 = .ok (.aload_n 0, 1) := by decide +kernel
theorem dX2_countAbove_15 : decode cX2_countAbove 15 = .ok (.iload 4, 2) := by decide +kernel
theorem dX2_countAbove_17 : decode cX2_countAbove 17 = .ok (.invokevirtual 55, 3) := by decide +kernel
theorem dX2_countAbove_20 : decode cX2_countAbove 20 = .ok (.istore 5, 2) := by decide +kernel
theorem dX2_countAbove_22 : decode cX2_countAbove 22 = .ok (.iload_n 3, 1) := by decide +kernel
theorem dX2_countAbove_23 : decode cX2_countAbove 23 = .ok (.aload_n 0, 1) := by decide +kernel
theorem dX2_countAbove_24 : decode cX2_countAbove 24 = .ok (.getfield 20, 3) := by decide +kernel
theorem dX2_countAbove_27 : decode cX2_countAbove 27 = .ok (.iload 5, 2) := by decide +kernel
theorem dX2_countAbove_29 : decode cX2_countAbove 29 = .ok (.baload, 1) := by decide +kernel
theorem dX2_countAbove_30 : decode cX2_countAbove 30 = .ok (.ifCond .ne 19, 3) := by decide +kernel
theorem dX2_countAbove_33 : decode cX2_countAbove 33 = .ok (.aload_n 0, 1) := by decide +kernel
theorem dX2_countAbove_34 : decode cX2_countAbove 34 = .ok (.getfield 9, 3) := by decide +kernel
theorem dX2_countAbove_37 : decode cX2_countAbove 37 = .ok (.iload 5, 2) := by decide +kernel
theorem dX2_countAbove_39 : decode cX2_countAbove 39 = .ok (.laload, 1) := by decide +kernel
theorem dX2_countAbove_40 : decode cX2_countAbove 40 = .ok (.lload_n 1, 1) := by decide +kernel
theorem dX2_countAbove_41 : decode cX2_countAbove 41 = .ok (.lcmp, 1) := by decide +kernel
theorem dX2_countAbove_42 : decode cX2_countAbove 42 = .ok (.ifCond .le 7, 3) := by decide +kernel
theorem dX2_countAbove_45 : decode cX2_countAbove 45 = .ok (.iconst 1, 1) := by decide +kernel
theorem dX2_countAbove_46 : decode cX2_countAbove 46 = .ok (.goto 4, 3) := by decide +kernel
theorem dX2_countAbove_49 : decode cX2_countAbove 49 = .ok (.iconst 0, 1) := by decide +kernel
theorem dX2_countAbove_50 : decode cX2_countAbove 50 = .ok (.iadd, 1) := by decide +kernel
theorem dX2_countAbove_51 : decode cX2_countAbove 51 = .ok (.istore_n 3, 1) := by decide +kernel
theorem dX2_countAbove_52 : decode cX2_countAbove 52 = .ok (.iinc 4 1, 3) := by decide +kernel
theorem dX2_countAbove_55 : decode cX2_countAbove 55 = .ok (.goto (-50), 3) := by decide +kernel
theorem dX2_countAbove_58 : decode cX2_countAbove 58 = .ok (.iload_n 3, 1) := by decide +kernel
theorem dX2_countAbove_59 : decode cX2_countAbove 59 = .ok (.ireturn, 1) := by decide +kernel
theorem dX2_greatestMean_0 : decode cX2_greatestMean 0 = .ok (.ldc2_w 63, 3) := by decide +kernel
theorem dX2_greatestMean_3 : decode cX2_greatestMean 3 = .ok (.lstore_n 2, 1) := by decide +kernel
theorem dX2_greatestMean_4 : decode cX2_greatestMean 4 = .ok (.iload_n 1, 1) := by decide +kernel
theorem dX2_greatestMean_5 : decode cX2_greatestMean 5 = .ok (.iconst 1, 1) := by decide +kernel
theorem dX2_greatestMean_6 : decode cX2_greatestMean 6 = .ok (.iadd, 1) := by decide +kernel
theorem dX2_greatestMean_7 : decode cX2_greatestMean 7 = .ok (.iconst 2, 1) := by decide +kernel
theorem dX2_greatestMean_8 : decode cX2_greatestMean 8 = .ok (.idiv, 1) := by decide +kernel
theorem dX2_greatestMean_9 : decode cX2_greatestMean 9 = .ok (.istore 4, 2) := by decide +kernel
theorem dX2_greatestMean_11 : decode cX2_greatestMean 11 = .ok (.iconst 0, 1) := by decide +kernel
theorem dX2_greatestMean_12 : decode cX2_greatestMean 12 = .ok (.istore 5, 2) := by decide +kernel
theorem dX2_greatestMean_14 : decode cX2_greatestMean 14 = .ok (.iload 5, 2) := by decide +kernel
theorem dX2_greatestMean_16 : decode cX2_greatestMean 16 = .ok (.iload_n 1, 1) := by decide +kernel
theorem dX2_greatestMean_17 : decode cX2_greatestMean 17 = .ok (.iadd, 1) := by decide +kernel
theorem dX2_greatestMean_18 : decode cX2_greatestMean 18 = .ok (.aload_n 0, 1) := by decide +kernel
theorem dX2_greatestMean_19 : decode cX2_greatestMean 19 = .ok (.getfield 28, 3) := by decide +kernel
theorem dX2_greatestMean_22 : decode cX2_greatestMean 22 = .ok (.if_icmp .gt 46, 3) := by decide +kernel
theorem dX2_greatestMean_25 : decode cX2_greatestMean 25 = .ok (.aload_n 0, 1) := by decide +kernel
theorem dX2_greatestMean_26 : decode cX2_greatestMean 26 = .ok (.iload 5, 2) := by decide +kernel
theorem dX2_greatestMean_28 : decode cX2_greatestMean 28 = .ok (.iload_n 1, 1) := by decide +kernel
theorem dX2_greatestMean_29 : decode cX2_greatestMean 29 = .ok (.invokevirtual 52, 3) := by decide +kernel
theorem dX2_greatestMean_32 : decode cX2_greatestMean 32 = .ok (.istore 6, 2) := by decide +kernel
theorem dX2_greatestMean_34 : decode cX2_greatestMean 34 = .ok (.iload 6, 2) := by decide +kernel
theorem dX2_greatestMean_36 : decode cX2_greatestMean 36 = .ok (.ifCond .le 26, 3) := by decide +kernel
theorem dX2_greatestMean_39 : decode cX2_greatestMean 39 = .ok (.iload 6, 2) := by decide +kernel
theorem dX2_greatestMean_41 : decode cX2_greatestMean 41 = .ok (.iload 4, 2) := by decide +kernel
theorem dX2_greatestMean_43 : decode cX2_greatestMean 43 = .ok (.if_icmp .lt 19, 3) := by decide +kernel
theorem dX2_greatestMean_46 : decode cX2_greatestMean 46 = .ok (.lload_n 2, 1) := by decide +kernel
theorem dX2_greatestMean_47 : decode cX2_greatestMean 47 = .ok (.aload_n 0, 1) := by decide +kernel
theorem dX2_greatestMean_48 : decode cX2_greatestMean 48 = .ok (.iload 5, 2) := by decide +kernel
theorem dX2_greatestMean_50 : decode cX2_greatestMean 50 = .ok (.iload_n 1, 1) := by decide +kernel
theorem dX2_greatestMean_51 : decode cX2_greatestMean 51 = .ok (.invokevirtual 65, 3) := by decide +kernel
theorem dX2_greatestMean_54 : decode cX2_greatestMean 54 = .ok (.iload 6, 2) := by decide +kernel
theorem dX2_greatestMean_56 : decode cX2_greatestMean 56 = .ok (.i2l, 1) := by decide +kernel
theorem dX2_greatestMean_57 : decode cX2_greatestMean 57 = .ok (.ldiv, 1) := by decide +kernel
theorem dX2_greatestMean_58 : decode cX2_greatestMean 58 = .ok (.invokestatic 73, 3) := by decide +kernel
theorem dX2_greatestMean_61 : decode cX2_greatestMean 61 = .ok (.lstore_n 2, 1) := by decide +kernel
theorem dX2_greatestMean_62 : decode cX2_greatestMean 62 = .ok (.iinc 5 1, 3) := by decide +kernel
theorem dX2_greatestMean_65 : decode cX2_greatestMean 65 = .ok (.goto (-51), 3) := by decide +kernel
theorem dX2_greatestMean_68 : decode cX2_greatestMean 68 = .ok (.lload_n 2, 1) := by decide +kernel
theorem dX2_greatestMean_69 : decode cX2_greatestMean 69 = .ok (.lreturn, 1) := by decide +kernel
theorem dX2_isAboveAtMost_0 : decode cX2_isAboveAtMost 0 = .ok (.iconst 0, 1) := by decide +kernel
theorem dX2_isAboveAtMost_1 : decode cX2_isAboveAtMost 1 = .ok (.istore 7, 2) := by decide +kernel
theorem dX2_isAboveAtMost_3 : decode cX2_isAboveAtMost 3 = .ok (.iconst 0, 1) := by decide +kernel
theorem dX2_isAboveAtMost_4 : decode cX2_isAboveAtMost 4 = .ok (.istore 8, 2) := by decide +kernel
theorem dX2_isAboveAtMost_6 : decode cX2_isAboveAtMost 6 = .ok (.iload 8, 2) := by decide +kernel
theorem dX2_isAboveAtMost_8 : decode cX2_isAboveAtMost 8 = .ok (.aload_n 0, 1) := by decide +kernel
theorem dX2_isAboveAtMost_9 : decode cX2_isAboveAtMost 9 = .ok (.getfield 28, 3) := by decide +kernel
theorem dX2_isAboveAtMost_12 : decode cX2_isAboveAtMost 12 = .ok (.if_icmp .ge 93, 3) := by decide +kernel
theorem dX2_isAboveAtMost_15 : decode cX2_isAboveAtMost 15 = .ok (.iload 7, 2) := by decide +kernel
theorem dX2_isAboveAtMost_17 : decode cX2_isAboveAtMost 17 = .ok (.iload_n 1, 1) := by decide +kernel
theorem dX2_isAboveAtMost_18 : decode cX2_isAboveAtMost 18 = .ok (.if_icmp .gt 87, 3) := by decide +kernel
theorem dX2_isAboveAtMost_21 : decode cX2_isAboveAtMost 21 = .ok (.aload_n 0, 1) := by decide +kernel
theorem dX2_isAboveAtMost_22 : decode cX2_isAboveAtMost 22 = .ok (.iload 8, 2) := by decide +kernel
theorem dX2_isAboveAtMost_24 : decode cX2_isAboveAtMost 24 = .ok (.invokevirtual 55, 3) := by decide +kernel
theorem dX2_isAboveAtMost_27 : decode cX2_isAboveAtMost 27 = .ok (.istore 9, 2) := by decide +kernel
theorem dX2_isAboveAtMost_29 : decode cX2_isAboveAtMost 29 = .ok (.aload_n 0, 1) := by decide +kernel
theorem dX2_isAboveAtMost_30 : decode cX2_isAboveAtMost 30 = .ok (.getfield 20, 3) := by decide +kernel
theorem dX2_isAboveAtMost_33 : decode cX2_isAboveAtMost 33 = .ok (.iload 9, 2) := by decide +kernel
theorem dX2_isAboveAtMost_35 : decode cX2_isAboveAtMost 35 = .ok (.baload, 1) := by decide +kernel
theorem dX2_isAboveAtMost_36 : decode cX2_isAboveAtMost 36 = .ok (.ifCond .ne 63, 3) := by decide +kernel
theorem dX2_isAboveAtMost_39 : decode cX2_isAboveAtMost 39 = .ok (.aload_n 0, 1) := by decide +kernel
theorem dX2_isAboveAtMost_40 : decode cX2_isAboveAtMost 40 = .ok (.getfield 17, 3) := by decide +kernel
theorem dX2_isAboveAtMost_43 : decode cX2_isAboveAtMost 43 = .ok (.iconst 0, 1) := by decide +kernel
theorem dX2_isAboveAtMost_44 : decode cX2_isAboveAtMost 44 = .ok (.aaload, 1) := by decide +kernel
theorem dX2_isAboveAtMost_45 : decode cX2_isAboveAtMost 45 = .ok (.iload 9, 2) := by decide +kernel
theorem dX2_isAboveAtMost_47 : decode cX2_isAboveAtMost 47 = .ok (.laload, 1) := by decide +kernel
theorem dX2_isAboveAtMost_48 : decode cX2_isAboveAtMost 48 = .ok (.iload 4, 2) := by decide +kernel
theorem dX2_isAboveAtMost_50 : decode cX2_isAboveAtMost 50 = .ok (.i2l, 1) := by decide +kernel
theorem dX2_isAboveAtMost_51 : decode cX2_isAboveAtMost 51 = .ok (.lmul, 1) := by decide +kernel
theorem dX2_isAboveAtMost_52 : decode cX2_isAboveAtMost 52 = .ok (.aload_n 0, 1) := by decide +kernel
theorem dX2_isAboveAtMost_53 : decode cX2_isAboveAtMost 53 = .ok (.getfield 17, 3) := by decide +kernel
theorem dX2_isAboveAtMost_56 : decode cX2_isAboveAtMost 56 = .ok (.iconst 1, 1) := by decide +kernel
theorem dX2_isAboveAtMost_57 : decode cX2_isAboveAtMost 57 = .ok (.aaload, 1) := by decide +kernel
theorem dX2_isAboveAtMost_58 : decode cX2_isAboveAtMost 58 = .ok (.iload 9, 2) := by decide +kernel
theorem dX2_isAboveAtMost_60 : decode cX2_isAboveAtMost 60 = .ok (.laload, 1) := by decide +kernel
theorem dX2_isAboveAtMost_61 : decode cX2_isAboveAtMost 61 = .ok (.iload 5, 2) := by decide +kernel
theorem dX2_isAboveAtMost_63 : decode cX2_isAboveAtMost 63 = .ok (.i2l, 1) := by decide +kernel
theorem dX2_isAboveAtMost_64 : decode cX2_isAboveAtMost 64 = .ok (.lmul, 1) := by decide +kernel
theorem dX2_isAboveAtMost_65 : decode cX2_isAboveAtMost 65 = .ok (.ladd, 1) := by decide +kernel
theorem dX2_isAboveAtMost_66 : decode cX2_isAboveAtMost 66 = .ok (.aload_n 0, 1) := by decide +kernel
theorem dX2_isAboveAtMost_67 : decode cX2_isAboveAtMost 67 = .ok (.getfield 17, 3) := by decide +kernel
theorem dX2_isAboveAtMost_70 : decode cX2_isAboveAtMost 70 = .ok (.iconst 2, 1) := by decide +kernel
theorem dX2_isAboveAtMost_71 : decode cX2_isAboveAtMost 71 = .ok (.aaload, 1) := by decide +kernel
theorem dX2_isAboveAtMost_72 : decode cX2_isAboveAtMost 72 = .ok (.iload 9, 2) := by decide +kernel
theorem dX2_isAboveAtMost_74 : decode cX2_isAboveAtMost 74 = .ok (.laload, 1) := by decide +kernel
theorem dX2_isAboveAtMost_75 : decode cX2_isAboveAtMost 75 = .ok (.iload 6, 2) := by decide +kernel
theorem dX2_isAboveAtMost_77 : decode cX2_isAboveAtMost 77 = .ok (.i2l, 1) := by decide +kernel
theorem dX2_isAboveAtMost_78 : decode cX2_isAboveAtMost 78 = .ok (.lmul, 1) := by decide +kernel
theorem dX2_isAboveAtMost_79 : decode cX2_isAboveAtMost 79 = .ok (.ladd, 1) := by decide +kernel
theorem dX2_isAboveAtMost_80 : decode cX2_isAboveAtMost 80 = .ok (.lstore 10, 2) := by decide +kernel
theorem dX2_isAboveAtMost_82 : decode cX2_isAboveAtMost 82 = .ok (.iload 7, 2) := by decide +kernel
theorem dX2_isAboveAtMost_84 : decode cX2_isAboveAtMost 84 = .ok (.lload 10, 2) := by decide +kernel
theorem dX2_isAboveAtMost_86 : decode cX2_isAboveAtMost 86 = .ok (.lload_n 2, 1) := by decide +kernel
theorem dX2_isAboveAtMost_87 : decode cX2_isAboveAtMost 87 = .ok (.lcmp, 1) := by decide +kernel
theorem dX2_isAboveAtMost_88 : decode cX2_isAboveAtMost 88 = .ok (.ifCond .le 7, 3) := by decide +kernel
theorem dX2_isAboveAtMost_91 : decode cX2_isAboveAtMost 91 = .ok (.iconst 1, 1) := by decide +kernel
theorem dX2_isAboveAtMost_92 : decode cX2_isAboveAtMost 92 = .ok (.goto 4, 3) := by decide +kernel
theorem dX2_isAboveAtMost_95 : decode cX2_isAboveAtMost 95 = .ok (.iconst 0, 1) := by decide +kernel
theorem dX2_isAboveAtMost_96 : decode cX2_isAboveAtMost 96 = .ok (.iadd, 1) := by decide +kernel
theorem dX2_isAboveAtMost_97 : decode cX2_isAboveAtMost 97 = .ok (.istore 7, 2) := by decide +kernel
theorem dX2_isAboveAtMost_99 : decode cX2_isAboveAtMost 99 = .ok (.iinc 8 1, 3) := by decide +kernel
theorem dX2_isAboveAtMost_102 : decode cX2_isAboveAtMost 102 = .ok (.goto (-96), 3) := by decide +kernel
theorem dX2_isAboveAtMost_105 : decode cX2_isAboveAtMost 105 = .ok (.iload 7, 2) := by decide +kernel
theorem dX2_isAboveAtMost_107 : decode cX2_isAboveAtMost 107 = .ok (.iload_n 1, 1) := by decide +kernel
theorem dX2_isAboveAtMost_108 : decode cX2_isAboveAtMost 108 = .ok (.if_icmp .gt 7, 3) := by decide +kernel
theorem dX2_isAboveAtMost_111 : decode cX2_isAboveAtMost 111 = .ok (.iconst 1, 1) := by decide +kernel
theorem dX2_isAboveAtMost_112 : decode cX2_isAboveAtMost 112 = .ok (.goto 4, 3) := by decide +kernel
theorem dX2_isAboveAtMost_115 : decode cX2_isAboveAtMost 115 = .ok (.iconst 0, 1) := by decide +kernel
theorem dX2_isAboveAtMost_116 : decode cX2_isAboveAtMost 116 = .ok (.ireturn, 1) := by decide +kernel
theorem dX3_init_0 : decode cX3_init 0 = .ok (.aload_n 0, 1) := by decide +kernel
theorem dX3_init_1 : decode cX3_init 1 = .ok (.invokespecial 3, 3) := by decide +kernel
theorem dX3_init_4 : decode cX3_init 4 = .ok (.aload_n 0, 1) := by decide +kernel
theorem dX3_init_5 : decode cX3_init 5 = .ok (.bipush 24, 2) := by decide +kernel
theorem dX3_init_7 : decode cX3_init 7 = .ok (.newarray .int, 2) := by decide +kernel
theorem dX3_init_9 : decode cX3_init 9 = .ok (.putfield 9, 3) := by decide +kernel
theorem dX3_init_12 : decode cX3_init 12 = .ok (.aload_n 0, 1) := by decide +kernel
theorem dX3_init_13 : decode cX3_init 13 = .ok (.iconst 0, 1) := by decide +kernel
theorem dX3_init_14 : decode cX3_init 14 = .ok (.putfield 15, 3) := by decide +kernel
theorem dX3_init_17 : decode cX3_init 17 = .ok (.aload_n 0, 1) := by decide +kernel
theorem dX3_init_18 : decode cX3_init 18 = .ok (.iconst 0, 1) := by decide +kernel
theorem dX3_init_19 : decode cX3_init 19 = .ok (.putfield 19, 3) := by decide +kernel
theorem dX3_init_22 : decode cX3_init 22 = .ok (.aload_n 0, 1) := by decide +kernel
theorem dX3_init_23 : decode cX3_init 23 = .ok (.iconst 0, 1) := by decide +kernel
theorem dX3_init_24 : decode cX3_init 24 = .ok (.putfield 23, 3) := by decide +kernel
theorem dX3_init_27 : decode cX3_init 27 = .ok (.return_, 1) := by decide +kernel
theorem dX3_begin_0 : decode cX3_begin 0 = .ok (.aload_n 0, 1) := by decide +kernel
theorem dX3_begin_1 : decode cX3_begin 1 = .ok (.getfield 9, 3) := by decide +kernel
theorem dX3_begin_4 : decode cX3_begin 4 = .ok (.iconst 0, 1) := by decide +kernel
theorem dX3_begin_5 : decode cX3_begin 5 = .ok (.invokestatic 26, 3) := by decide +kernel
theorem dX3_begin_8 : decode cX3_begin 8 = .ok (.aload_n 0, 1) := by decide +kernel
theorem dX3_begin_9 : decode cX3_begin 9 = .ok (.iconst 1, 1) := by decide +kernel
theorem dX3_begin_10 : decode cX3_begin 10 = .ok (.putfield 15, 3) := by decide +kernel
theorem dX3_begin_13 : decode cX3_begin 13 = .ok (.aload_n 0, 1) := by decide +kernel
theorem dX3_begin_14 : decode cX3_begin 14 = .ok (.iload_n 1, 1) := by decide +kernel
theorem dX3_begin_15 : decode cX3_begin 15 = .ok (.putfield 19, 3) := by decide +kernel
theorem dX3_begin_18 : decode cX3_begin 18 = .ok (.aload_n 0, 1) := by decide +kernel
theorem dX3_begin_19 : decode cX3_begin 19 = .ok (.iload_n 2, 1) := by decide +kernel
theorem dX3_begin_20 : decode cX3_begin 20 = .ok (.putfield 23, 3) := by decide +kernel
theorem dX3_begin_23 : decode cX3_begin 23 = .ok (.return_, 1) := by decide +kernel
theorem dX3_isOf_0 : decode cX3_isOf 0 = .ok (.aload_n 0, 1) := by decide +kernel
theorem dX3_isOf_1 : decode cX3_isOf 1 = .ok (.getfield 15, 3) := by decide +kernel
theorem dX3_isOf_4 : decode cX3_isOf 4 = .ok (.ifCond .eq 15, 3) := by decide +kernel
theorem dX3_isOf_7 : decode cX3_isOf 7 = .ok (.aload_n 0, 1) := by decide +kernel
theorem dX3_isOf_8 : decode cX3_isOf 8 = .ok (.getfield 19, 3) := by decide +kernel
theorem dX3_isOf_11 : decode cX3_isOf 11 = .ok (.iload_n 1, 1) := by decide +kernel
theorem dX3_isOf_12 : decode cX3_isOf 12 = .ok (.if_icmp .ne 7, 3) := by decide +kernel
theorem dX3_isOf_15 : decode cX3_isOf 15 = .ok (.iconst 1, 1) := by decide +kernel
theorem dX3_isOf_16 : decode cX3_isOf 16 = .ok (.goto 4, 3) := by decide +kernel
theorem dX3_isOf_19 : decode cX3_isOf 19 = .ok (.iconst 0, 1) := by decide +kernel
theorem dX3_isOf_20 : decode cX3_isOf 20 = .ok (.ireturn, 1) := by decide +kernel
theorem dX3_areRates_0 : decode cX3_areRates 0 = .ok (.iconst 0, 1) := by decide +kernel
theorem dX3_areRates_1 : decode cX3_areRates 1 = .ok (.istore_n 1, 1) := by decide +kernel
theorem dX3_areRates_2 : decode cX3_areRates 2 = .ok (.iload_n 1, 1) := by decide +kernel
theorem dX3_areRates_3 : decode cX3_areRates 3 = .ok (.aload_n 0, 1) := by decide +kernel
theorem dX3_areRates_4 : decode cX3_areRates 4 = .ok (.getfield 23, 3) := by decide +kernel
theorem dX3_areRates_7 : decode cX3_areRates 7 = .ok (.if_icmp .ge 31, 3) := by decide +kernel
theorem dX3_areRates_10 : decode cX3_areRates 10 = .ok (.aload_n 0, 1) := by decide +kernel
theorem dX3_areRates_11 : decode cX3_areRates 11 = .ok (.getfield 9, 3) := by decide +kernel
theorem dX3_areRates_14 : decode cX3_areRates 14 = .ok (.iload_n 1, 1) := by decide +kernel
theorem dX3_areRates_15 : decode cX3_areRates 15 = .ok (.iaload, 1) := by decide +kernel
theorem dX3_areRates_16 : decode cX3_areRates 16 = .ok (.ifCond .lt 14, 3) := by decide +kernel
theorem dX3_areRates_19 : decode cX3_areRates 19 = .ok (.aload_n 0, 1) := by decide +kernel
theorem dX3_areRates_20 : decode cX3_areRates 20 = .ok (.getfield 9, 3) := by decide +kernel
theorem dX3_areRates_23 : decode cX3_areRates 23 = .ok (.iload_n 1, 1) := by decide +kernel
theorem dX3_areRates_24 : decode cX3_areRates 24 = .ok (.iaload, 1) := by decide +kernel
theorem dX3_areRates_25 : decode cX3_areRates 25 = .ok (.ldc 32, 2) := by decide +kernel
theorem dX3_areRates_27 : decode cX3_areRates 27 = .ok (.if_icmp .le 5, 3) := by decide +kernel
theorem dX3_areRates_30 : decode cX3_areRates 30 = .ok (.iconst 0, 1) := by decide +kernel
theorem dX3_areRates_31 : decode cX3_areRates 31 = .ok (.ireturn, 1) := by decide +kernel
theorem dX3_areRates_32 : decode cX3_areRates 32 = .ok (.iinc 1 1, 3) := by decide +kernel
theorem dX3_areRates_35 : decode cX3_areRates 35 = .ok (.goto (-33), 3) := by decide +kernel
theorem dX3_areRates_38 : decode cX3_areRates 38 = .ok (.iconst 1, 1) := by decide +kernel
theorem dX3_areRates_39 : decode cX3_areRates 39 = .ok (.ireturn, 1) := by decide +kernel
theorem dX4_init_0 : decode cX4_init 0 = .ok (.aload_n 0, 1) := by decide +kernel
theorem dX4_init_1 : decode cX4_init 1 = .ok (.invokespecial 3, 3) := by decide +kernel
theorem dX4_init_4 : decode cX4_init 4 = .ok (.aload_n 0, 1) := by decide +kernel
theorem dX4_init_5 : decode cX4_init 5 = .ok (.bipush 24, 2) := by decide +kernel
theorem dX4_init_7 : decode cX4_init 7 = .ok (.newarray .int, 2) := by decide +kernel
theorem dX4_init_9 : decode cX4_init 9 = .ok (.putfield 9, 3) := by decide +kernel
theorem dX4_init_12 : decode cX4_init 12 = .ok (.aload_n 0, 1) := by decide +kernel
theorem dX4_init_13 : decode cX4_init 13 = .ok (.bipush 10, 2) := by decide +kernel
theorem dX4_init_15 : decode cX4_init 15 = .ok (.newarray .long, 2) := by decide +kernel
theorem dX4_init_17 : decode cX4_init 17 = .ok (.putfield 15, 3) := by decide +kernel
theorem dX4_init_20 : decode cX4_init 20 = .ok (.aload_n 0, 1) := by decide +kernel
theorem dX4_init_21 : decode cX4_init 21 = .ok (.bipush 10, 2) := by decide +kernel
theorem dX4_init_23 : decode cX4_init 23 = .ok (.newarray .long, 2) := by decide +kernel
theorem dX4_init_25 : decode cX4_init 25 = .ok (.putfield 19, 3) := by decide +kernel
theorem dX4_init_28 : decode cX4_init 28 = .ok (.aload_n 0, 1) := by decide +kernel
theorem dX4_init_29 : decode cX4_init 29 = .ok (.iconst 0, 1) := by decide +kernel
theorem dX4_init_30 : decode cX4_init 30 = .ok (.putfield 22, 3) := by decide +kernel
theorem dX4_init_33 : decode cX4_init 33 = .ok (.aload_n 0, 1) := by decide +kernel
theorem dX4_init_34 : decode cX4_init 34 = .ok (.lconst 0, 1) := by decide +kernel
theorem dX4_init_35 : decode cX4_init 35 = .ok (.putfield 26, 3) := by decide +kernel
theorem dX4_init_38 : decode cX4_init 38 = .ok (.aload_n 0, 1) := by decide +kernel
theorem dX4_init_39 : decode cX4_init 39 = .ok (.lconst 0, 1) := by decide +kernel
theorem dX4_init_40 : decode cX4_init 40 = .ok (.putfield 30, 3) := by decide +kernel
theorem dX4_init_43 : decode cX4_init 43 = .ok (.aload_n 0, 1) := by decide +kernel
theorem dX4_init_44 : decode cX4_init 44 = .ok (.lconst 0, 1) := by decide +kernel
theorem dX4_init_45 : decode cX4_init 45 = .ok (.putfield 33, 3) := by decide +kernel
theorem dX4_init_48 : decode cX4_init 48 = .ok (.return_, 1) := by decide +kernel
theorem dX4_stand_0 : decode cX4_stand 0 = .ok (.aload_n 0, 1) := by decide +kernel
theorem dX4_stand_1 : decode cX4_stand 1 = .ok (.iload_n 1, 1) := by decide +kernel
theorem dX4_stand_2 : decode cX4_stand 2 = .ok (.putfield 22, 3) := by decide +kernel
theorem dX4_stand_5 : decode cX4_stand 5 = .ok (.iconst 0, 1) := by decide +kernel
theorem dX4_stand_6 : decode cX4_stand 6 = .ok (.istore_n 3, 1) := by decide +kernel
theorem dX4_stand_7 : decode cX4_stand 7 = .ok (.iconst 0, 1) := by decide +kernel
theorem dX4_stand_8 : decode cX4_stand 8 = .ok (.istore 4, 2) := by decide +kernel
theorem dX4_stand_10 : decode cX4_stand 10 = .ok (.iload 4, 2) := by decide +kernel
theorem dX4_stand_12 : decode cX4_stand 12 = .ok (.bipush 24, 2) := by decide +kernel
theorem dX4_stand_14 : decode cX4_stand 14 = .ok (.if_icmp .ge 30, 3) := by decide +kernel
theorem dX4_stand_17 : decode cX4_stand 17 = .ok (.aload_n 0, 1) := by decide +kernel
theorem dX4_stand_18 : decode cX4_stand 18 = .ok (.getfield 9, 3) := by decide +kernel
theorem dX4_stand_21 : decode cX4_stand 21 = .ok (.iload 4, 2) := by decide +kernel
theorem dX4_stand_23 : decode cX4_stand 23 = .ok (.aload_n 2, 1) := by decide +kernel
theorem dX4_stand_24 : decode cX4_stand 24 = .ok (.iload 4, 2) := by decide +kernel
theorem dX4_stand_26 : decode cX4_stand 26 = .ok (.iaload, 1) := by decide +kernel
theorem dX4_stand_27 : decode cX4_stand 27 = .ok (.iastore, 1) := by decide +kernel
theorem dX4_stand_28 : decode cX4_stand 28 = .ok (.iload_n 3, 1) := by decide +kernel
theorem dX4_stand_29 : decode cX4_stand 29 = .ok (.aload_n 0, 1) := by decide +kernel
theorem dX4_stand_30 : decode cX4_stand 30 = .ok (.getfield 9, 3) := by decide +kernel
theorem dX4_stand_33 : decode cX4_stand 33 = .ok (.iload 4, 2) := by decide +kernel
theorem dX4_stand_35 : decode cX4_stand 35 = .ok (.iaload, 1) := by decide +kernel
theorem dX4_stand_36 : decode cX4_stand 36 = .ok (.iadd, 1) := by decide +kernel
theorem dX4_stand_37 : decode cX4_stand 37 = .ok (.istore_n 3, 1) := by decide +kernel
theorem dX4_stand_38 : decode cX4_stand 38 = .ok (.iinc 4 1, 3) := by decide +kernel
theorem dX4_stand_41 : decode cX4_stand 41 = .ok (.goto (-31), 3) := by decide +kernel
theorem dX4_stand_44 : decode cX4_stand 44 = .ok (.iload_n 3, 1) := by decide +kernel
theorem dX4_stand_45 : decode cX4_stand 45 = .ok (.ireturn, 1) := by decide +kernel
theorem dX4_giveOff_0 : decode cX4_giveOff 0 = .ok (.aload_n 0, 1) := by decide +kernel
theorem dX4_giveOff_1 : decode cX4_giveOff 1 = .ok (.getfield 15, 3) := by decide +kernel
theorem dX4_giveOff_4 : decode cX4_giveOff 4 = .ok (.aload_n 0, 1) := by decide +kernel
theorem dX4_giveOff_5 : decode cX4_giveOff 5 = .ok (.getfield 22, 3) := by decide +kernel
theorem dX4_giveOff_8 : decode cX4_giveOff 8 = .ok (.dup2, 1) := by decide +kernel
theorem dX4_giveOff_9 : decode cX4_giveOff 9 = .ok (.laload, 1) := by decide +kernel
theorem dX4_giveOff_10 : decode cX4_giveOff 10 = .ok (.aload_n 0, 1) := by decide +kernel
theorem dX4_giveOff_11 : decode cX4_giveOff 11 = .ok (.getfield 9, 3) := by decide +kernel
theorem dX4_giveOff_14 : decode cX4_giveOff 14 = .ok (.iload_n 1, 1) := by decide +kernel
theorem dX4_giveOff_15 : decode cX4_giveOff 15 = .ok (.iaload, 1) := by decide +kernel
theorem dX4_giveOff_16 : decode cX4_giveOff 16 = .ok (.i2l, 1) := by decide +kernel
theorem dX4_giveOff_17 : decode cX4_giveOff 17 = .ok (.ladd, 1) := by decide +kernel
theorem dX4_giveOff_18 : decode cX4_giveOff 18 = .ok (.lastore, 1) := by decide +kernel
theorem dX4_giveOff_19 : decode cX4_giveOff 19 = .ok (.aload_n 0, 1) := by decide +kernel
theorem dX4_giveOff_20 : decode cX4_giveOff 20 = .ok (.dup, 1) := by decide +kernel
theorem dX4_giveOff_21 : decode cX4_giveOff 21 = .ok (.getfield 26, 3) := by decide +kernel
theorem dX4_giveOff_24 : decode cX4_giveOff 24 = .ok (.aload_n 0, 1) := by decide +kernel
theorem dX4_giveOff_25 : decode cX4_giveOff 25 = .ok (.getfield 9, 3) := by decide +kernel
theorem dX4_giveOff_28 : decode cX4_giveOff 28 = .ok (.iload_n 1, 1) := by decide +kernel
theorem dX4_giveOff_29 : decode cX4_giveOff 29 = .ok (.iaload, 1) := by decide +kernel
theorem dX4_giveOff_30 : decode cX4_giveOff 30 = .ok (.i2l, 1) := by decide +kernel
theorem dX4_giveOff_31 : decode cX4_giveOff 31 = .ok (.ladd, 1) := by decide +kernel
theorem dX4_giveOff_32 : decode cX4_giveOff 32 = .ok (.putfield 26, 3) := by decide +kernel
theorem dX4_giveOff_35 : decode cX4_giveOff 35 = .ok (.return_, 1) := by decide +kernel
theorem dX4_fallOut_0 : decode cX4_fallOut 0 = .ok (.iconst 0, 1) := by decide +kernel
theorem dX4_fallOut_1 : decode cX4_fallOut 1 = .ok (.istore_n 2, 1) := by decide +kernel
theorem dX4_fallOut_2 : decode cX4_fallOut 2 = .ok (.iload_n 2, 1) := by decide +kernel
theorem dX4_fallOut_3 : decode cX4_fallOut 3 = .ok (.bipush 9, 2) := by decide +kernel
theorem dX4_fallOut_5 : decode cX4_fallOut 5 = .ok (.if_icmp .ge 71, 3) := by decide +kernel
theorem dX4_fallOut_8 : decode cX4_fallOut 8 = .ok (.aload_n 0, 1) := by decide +kernel
theorem dX4_fallOut_9 : decode cX4_fallOut 9 = .ok (.getfield 15, 3) := by decide +kernel
theorem dX4_fallOut_12 : decode cX4_fallOut 12 = .ok (.iload_n 2, 1) := by decide +kernel
theorem dX4_fallOut_13 : decode cX4_fallOut 13 = .ok (.laload, 1) := by decide +kernel
theorem dX4_fallOut_14 : decode cX4_fallOut 14 = .ok (.iload_n 1, 1) := by decide +kernel
theorem dX4_fallOut_15 : decode cX4_fallOut 15 = .ok (.i2l, 1) := by decide +kernel
theorem dX4_fallOut_16 : decode cX4_fallOut 16 = .ok (.lmul, 1) := by decide +kernel
theorem dX4_fallOut_17 : decode cX4_fallOut 17 = .ok (.ldc2_w 36, 3) := by decide +kernel
theorem dX4_fallOut_20 : decode cX4_fallOut 20 = .ok (.ldiv, 1) := by decide +kernel
theorem dX4_fallOut_21 : decode cX4_fallOut 21 = .ok (.lstore_n 3, 1) := by decide +kernel
theorem dX4_fallOut_22 : decode cX4_fallOut 22 = .ok (.aload_n 0, 1) := by decide +kernel
theorem dX4_fallOut_23 : decode cX4_fallOut 23 = .ok (.getfield 15, 3) := by decide +kernel
theorem dX4_fallOut_26 : decode cX4_fallOut 26 = .ok (.iload_n 2, 1) := by decide +kernel
theorem dX4_fallOut_27 : decode cX4_fallOut 27 = .ok (.laload, 1) := by decide +kernel
theorem dX4_fallOut_28 : decode cX4_fallOut 28 = .ok (.lload_n 3, 1) := by decide +kernel
theorem dX4_fallOut_29 : decode cX4_fallOut 29 = .ok (.lsub, 1) := by decide +kernel
theorem dX4_fallOut_30 : decode cX4_fallOut 30 = .ok (.ldc2_w 36, 3) := by decide +kernel
theorem dX4_fallOut_33 : decode cX4_fallOut 33 = .ok (.ldiv, 1) := by decide +kernel
theorem dX4_fallOut_34 : decode cX4_fallOut 34 = .ok (.lstore 5, 2) := by decide +kernel
theorem dX4_fallOut_36 : decode cX4_fallOut 36 = .ok (.aload_n 0, 1) := by decide +kernel
theorem dX4_fallOut_37 : decode cX4_fallOut 37 = .ok (.getfield 15, 3) := by decide +kernel
theorem dX4_fallOut_40 : decode cX4_fallOut 40 = .ok (.iload_n 2, 1) := by decide +kernel
theorem dX4_fallOut_41 : decode cX4_fallOut 41 = .ok (.dup2, 1) := by decide +kernel
theorem dX4_fallOut_42 : decode cX4_fallOut 42 = .ok (.laload, 1) := by decide +kernel
theorem dX4_fallOut_43 : decode cX4_fallOut 43 = .ok (.lload_n 3, 1) := by decide +kernel
theorem dX4_fallOut_44 : decode cX4_fallOut 44 = .ok (.lload 5, 2) := by decide +kernel
theorem dX4_fallOut_46 : decode cX4_fallOut 46 = .ok (.ladd, 1) := by decide +kernel
theorem dX4_fallOut_47 : decode cX4_fallOut 47 = .ok (.lsub, 1) := by decide +kernel
theorem dX4_fallOut_48 : decode cX4_fallOut 48 = .ok (.lastore, 1) := by decide +kernel
theorem dX4_fallOut_49 : decode cX4_fallOut 49 = .ok (.aload_n 0, 1) := by decide +kernel
theorem dX4_fallOut_50 : decode cX4_fallOut 50 = .ok (.dup, 1) := by decide +kernel
theorem dX4_fallOut_51 : decode cX4_fallOut 51 = .ok (.getfield 30, 3) := by decide +kernel
theorem dX4_fallOut_54 : decode cX4_fallOut 54 = .ok (.lload_n 3, 1) := by decide +kernel
theorem dX4_fallOut_55 : decode cX4_fallOut 55 = .ok (.ladd, 1) := by decide +kernel
theorem dX4_fallOut_56 : decode cX4_fallOut 56 = .ok (.putfield 30, 3) := by decide +kernel
theorem dX4_fallOut_59 : decode cX4_fallOut 59 = .ok (.aload_n 0, 1) := by decide +kernel
theorem dX4_fallOut_60 : decode cX4_fallOut 60 = .ok (.dup, 1) := by decide +kernel
theorem dX4_fallOut_61 : decode cX4_fallOut 61 = .ok (.getfield 33, 3) := by decide +kernel
theorem dX4_fallOut_64 : decode cX4_fallOut 64 = .ok (.lload 5, 2) := by decide +kernel
theorem dX4_fallOut_66 : decode cX4_fallOut 66 = .ok (.ladd, 1) := by decide +kernel
theorem dX4_fallOut_67 : decode cX4_fallOut 67 = .ok (.putfield 33, 3) := by decide +kernel
theorem dX4_fallOut_70 : decode cX4_fallOut 70 = .ok (.iinc 2 1, 3) := by decide +kernel
theorem dX4_fallOut_73 : decode cX4_fallOut 73 = .ok (.goto (-71), 3) := by decide +kernel
theorem dX4_fallOut_76 : decode cX4_fallOut 76 = .ok (.return_, 1) := by decide +kernel
theorem dX4_blow_0 : decode cX4_blow 0 = .ok (.aload_n 0, 1) := by decide +kernel
theorem dX4_blow_1 : decode cX4_blow 1 = .ok (.getfield 15, 3) := by decide +kernel
theorem dX4_blow_4 : decode cX4_blow 4 = .ok (.iconst 0, 1) := by decide +kernel
theorem dX4_blow_5 : decode cX4_blow 5 = .ok (.aload_n 0, 1) := by decide +kernel
theorem dX4_blow_6 : decode cX4_blow 6 = .ok (.getfield 19, 3) := by decide +kernel
theorem dX4_blow_9 : decode cX4_blow 9 = .ok (.iconst 0, 1) := by decide +kernel
theorem dX4_blow_10 : decode cX4_blow 10 = .ok (.bipush 9, 2) := by decide +kernel
theorem dX4_blow_12 : decode cX4_blow 12 = .ok (.invokestatic 38, 3) := by decide +kernel
theorem dX4_blow_15 : decode cX4_blow 15 = .ok (.iconst 0, 1) := by decide +kernel
theorem dX4_blow_16 : decode cX4_blow 16 = .ok (.istore_n 2, 1) := by decide +kernel
theorem dX4_blow_17 : decode cX4_blow 17 = .ok (.iload_n 2, 1) := by decide +kernel
theorem dX4_blow_18 : decode cX4_blow 18 = .ok (.bipush 24, 2) := by decide +kernel
theorem dX4_blow_20 : decode cX4_blow 20 = .ok (.if_icmp .ge 112, 3) := by decide +kernel
theorem dX4_blow_23 : decode cX4_blow 23 = .ok (.aload_n 1, 1) := by decide +kernel
theorem dX4_blow_24 : decode cX4_blow 24 = .ok (.iload_n 2, 1) := by decide +kernel
theorem dX4_blow_25 : decode cX4_blow 25 = .ok (.laload, 1) := by decide +kernel
theorem dX4_blow_26 : decode cX4_blow 26 = .ok (.lconst 0, 1) := by decide +kernel
theorem dX4_blow_27 : decode cX4_blow 27 = .ok (.lcmp, 1) := by decide +kernel
theorem dX4_blow_28 : decode cX4_blow 28 = .ok (.ifCond .le 7, 3) := by decide +kernel
theorem dX4_blow_31 : decode cX4_blow 31 = .ok (.iconst 1, 1) := by decide +kernel
theorem dX4_blow_32 : decode cX4_blow 32 = .ok (.goto 4, 3) := by decide +kernel
theorem dX4_blow_35 : decode cX4_blow 35 = .ok (.iconst 0, 1) := by decide +kernel
theorem dX4_blow_36 : decode cX4_blow 36 = .ok (.istore_n 3, 1) := by decide +kernel
theorem dX4_blow_37 : decode cX4_blow 37 = .ok (.iload_n 3, 1) := by decide +kernel
theorem dX4_blow_38 : decode cX4_blow 38 = .ok (.ifCond .eq 11, 3) := by decide +kernel
theorem dX4_blow_41 : decode cX4_blow 41 = .ok (.getstatic 44, 3) := by decide +kernel
theorem dX4_blow_44 : decode cX4_blow 44 = .ok (.iload_n 2, 1) := by decide +kernel
theorem dX4_blow_45 : decode cX4_blow 45 = .ok (.iaload, 1) := by decide +kernel
theorem dX4_blow_46 : decode cX4_blow 46 = .ok (.goto 8, 3) := by decide +kernel
theorem dX4_blow_49 : decode cX4_blow 49 = .ok (.getstatic 47, 3) := by decide +kernel
theorem dX4_blow_52 : decode cX4_blow 52 = .ok (.iload_n 2, 1) := by decide +kernel
theorem dX4_blow_53 : decode cX4_blow 53 = .ok (.iaload, 1) := by decide +kernel
theorem dX4_blow_54 : decode cX4_blow 54 = .ok (.istore 4, 2) := by decide +kernel
theorem dX4_blow_56 : decode cX4_blow 56 = .ok (.iload_n 3, 1) := by decide +kernel
theorem dX4_blow_57 : decode cX4_blow 57 = .ok (.ifCond .eq 11, 3) := by decide +kernel
theorem dX4_blow_60 : decode cX4_blow 60 = .ok (.getstatic 47, 3) := by decide +kernel
theorem dX4_blow_63 : decode cX4_blow 63 = .ok (.iload_n 2, 1) := by decide +kernel
theorem dX4_blow_64 : decode cX4_blow 64 = .ok (.iaload, 1) := by decide +kernel
theorem dX4_blow_65 : decode cX4_blow 65 = .ok (.goto 8, 3) := by decide +kernel
theorem dX4_blow_68 : decode cX4_blow 68 = .ok (.getstatic 44, 3) := by decide +kernel
theorem dX4_blow_71 : decode cX4_blow 71 = .ok (.iload_n 2, 1) := by decide +kernel
theorem dX4_blow_72 : decode cX4_blow 72 = .ok (.iaload, 1) := by decide +kernel
theorem dX4_blow_73 : decode cX4_blow 73 = .ok (.istore 5, 2) := by decide +kernel
theorem dX4_blow_75 : decode cX4_blow 75 = .ok (.iload 4, 2) := by decide +kernel
theorem dX4_blow_77 : decode cX4_blow 77 = .ok (.bipush 9, 2) := by decide +kernel
theorem dX4_blow_79 : decode cX4_blow 79 = .ok (.if_icmp .eq 47, 3) := by decide +kernel
theorem dX4_blow_82 : decode cX4_blow 82 = .ok (.aload_n 0, 1) := by decide +kernel
theorem dX4_blow_83 : decode cX4_blow 83 = .ok (.getfield 19, 3) := by decide +kernel
theorem dX4_blow_86 : decode cX4_blow 86 = .ok (.iload 4, 2) := by decide +kernel
theorem dX4_blow_88 : decode cX4_blow 88 = .ok (.laload, 1) := by decide +kernel
theorem dX4_blow_89 : decode cX4_blow 89 = .ok (.aload_n 1, 1) := by decide +kernel
theorem dX4_blow_90 : decode cX4_blow 90 = .ok (.iload_n 2, 1) := by decide +kernel
theorem dX4_blow_91 : decode cX4_blow 91 = .ok (.laload, 1) := by decide +kernel
theorem dX4_blow_92 : decode cX4_blow 92 = .ok (.invokestatic 50, 3) := by decide +kernel
theorem dX4_blow_95 : decode cX4_blow 95 = .ok (.lmul, 1) := by decide +kernel
theorem dX4_blow_96 : decode cX4_blow 96 = .ok (.ldc2_w 56, 3) := by decide +kernel
theorem dX4_blow_99 : decode cX4_blow 99 = .ok (.ldiv, 1) := by decide +kernel
theorem dX4_blow_100 : decode cX4_blow 100 = .ok (.lstore 6, 2) := by decide +kernel
theorem dX4_blow_102 : decode cX4_blow 102 = .ok (.aload_n 0, 1) := by decide +kernel
theorem dX4_blow_103 : decode cX4_blow 103 = .ok (.getfield 15, 3) := by decide +kernel
theorem dX4_blow_106 : decode cX4_blow 106 = .ok (.iload 4, 2) := by decide +kernel
theorem dX4_blow_108 : decode cX4_blow 108 = .ok (.dup2, 1) := by decide +kernel
theorem dX4_blow_109 : decode cX4_blow 109 = .ok (.laload, 1) := by decide +kernel
theorem dX4_blow_110 : decode cX4_blow 110 = .ok (.lload 6, 2) := by decide +kernel
theorem dX4_blow_112 : decode cX4_blow 112 = .ok (.lsub, 1) := by decide +kernel
theorem dX4_blow_113 : decode cX4_blow 113 = .ok (.lastore, 1) := by decide +kernel
theorem dX4_blow_114 : decode cX4_blow 114 = .ok (.aload_n 0, 1) := by decide +kernel
theorem dX4_blow_115 : decode cX4_blow 115 = .ok (.getfield 15, 3) := by decide +kernel
theorem dX4_blow_118 : decode cX4_blow 118 = .ok (.iload 5, 2) := by decide +kernel
theorem dX4_blow_120 : decode cX4_blow 120 = .ok (.dup2, 1) := by decide +kernel
theorem dX4_blow_121 : decode cX4_blow 121 = .ok (.laload, 1) := by decide +kernel
theorem dX4_blow_122 : decode cX4_blow 122 = .ok (.lload 6, 2) := by decide +kernel
theorem dX4_blow_124 : decode cX4_blow 124 = .ok (.ladd, 1) := by decide +kernel
theorem dX4_blow_125 : decode cX4_blow 125 = .ok (.lastore, 1) := by decide +kernel
theorem dX4_blow_126 : decode cX4_blow 126 = .ok (.iinc 2 1, 3) := by decide +kernel
theorem dX4_blow_129 : decode cX4_blow 129 = .ok (.goto (-112), 3) := by decide +kernel
theorem dX4_blow_132 : decode cX4_blow 132 = .ok (.return_, 1) := by decide +kernel
theorem dX4_inBoxes_0 : decode cX4_inBoxes 0 = .ok (.lconst 0, 1) := by decide +kernel
theorem dX4_inBoxes_1 : decode cX4_inBoxes 1 = .ok (.lstore_n 1, 1) := by decide +kernel
theorem dX4_inBoxes_2 : decode cX4_inBoxes 2 = .ok (.iconst 0, 1) := by decide +kernel
theorem dX4_inBoxes_3 : decode cX4_inBoxes 3 = .ok (.istore_n 3, 1) := by decide +kernel
theorem dX4_inBoxes_4 : decode cX4_inBoxes 4 = .ok (.iload_n 3, 1) := by decide +kernel
theorem dX4_inBoxes_5 : decode cX4_inBoxes 5 = .ok (.bipush 9, 2) := by decide +kernel
theorem dX4_inBoxes_7 : decode cX4_inBoxes 7 = .ok (.if_icmp .ge 18, 3) := by decide +kernel
theorem dX4_inBoxes_10 : decode cX4_inBoxes 10 = .ok (.lload_n 1, 1) := by decide +kernel
theorem dX4_inBoxes_11 : decode cX4_inBoxes 11 = .ok (.aload_n 0, 1) := by decide +kernel
theorem dX4_inBoxes_12 : decode cX4_inBoxes 12 = .ok (.getfield 15, 3) := by decide +kernel
theorem dX4_inBoxes_15 : decode cX4_inBoxes 15 = .ok (.iload_n 3, 1) := by decide +kernel
theorem dX4_inBoxes_16 : decode cX4_inBoxes 16 = .ok (.laload, 1) := by decide +kernel
theorem dX4_inBoxes_17 : decode cX4_inBoxes 17 = .ok (.ladd, 1) := by decide +kernel
theorem dX4_inBoxes_18 : decode cX4_inBoxes 18 = .ok (.lstore_n 1, 1) := by decide +kernel
theorem dX4_inBoxes_19 : decode cX4_inBoxes 19 = .ok (.iinc 3 1, 3) := by decide +kernel
theorem dX4_inBoxes_22 : decode cX4_inBoxes 22 = .ok (.goto (-18), 3) := by decide +kernel
theorem dX4_inBoxes_25 : decode cX4_inBoxes 25 = .ok (.lload_n 1, 1) := by decide +kernel
theorem dX4_inBoxes_26 : decode cX4_inBoxes 26 = .ok (.lreturn, 1) := by decide +kernel
theorem dJ9_floorMod_7cf53_0 : decode cJ9_floorMod_7cf53 0 = .ok (.iload_n 0, 1) := by decide +kernel
theorem dJ9_floorMod_7cf53_1 : decode cJ9_floorMod_7cf53 1 = .ok (.iload_n 1, 1) := by decide +kernel
theorem dJ9_floorMod_7cf53_2 : decode cJ9_floorMod_7cf53 2 = .ok (.irem, 1) := by decide +kernel
theorem dJ9_floorMod_7cf53_3 : decode cJ9_floorMod_7cf53 3 = .ok (.istore_n 2, 1) := by decide +kernel
theorem dJ9_floorMod_7cf53_4 : decode cJ9_floorMod_7cf53 4 = .ok (.iload_n 0, 1) := by decide +kernel
theorem dJ9_floorMod_7cf53_5 : decode cJ9_floorMod_7cf53 5 = .ok (.iload_n 1, 1) := by decide +kernel
theorem dJ9_floorMod_7cf53_6 : decode cJ9_floorMod_7cf53 6 = .ok (.ixor, 1) := by decide +kernel
theorem dJ9_floorMod_7cf53_7 : decode cJ9_floorMod_7cf53 7 = .ok (.ifCond .ge 11, 3) := by decide +kernel
theorem dJ9_floorMod_7cf53_10 : decode cJ9_floorMod_7cf53 10 = .ok (.iload_n 2, 1) := by decide +kernel
theorem dJ9_floorMod_7cf53_11 : decode cJ9_floorMod_7cf53 11 = .ok (.ifCond .eq 7, 3) := by decide +kernel
theorem dJ9_floorMod_7cf53_14 : decode cJ9_floorMod_7cf53 14 = .ok (.iload_n 2, 1) := by decide +kernel
theorem dJ9_floorMod_7cf53_15 : decode cJ9_floorMod_7cf53 15 = .ok (.iload_n 1, 1) := by decide +kernel
theorem dJ9_floorMod_7cf53_16 : decode cJ9_floorMod_7cf53 16 = .ok (.iadd, 1) := by decide +kernel
theorem dJ9_floorMod_7cf53_17 : decode cJ9_floorMod_7cf53 17 = .ok (.ireturn, 1) := by decide +kernel
theorem dJ9_floorMod_7cf53_18 : decode cJ9_floorMod_7cf53 18 = .ok (.iload_n 2, 1) := by decide +kernel
theorem dJ9_floorMod_7cf53_19 : decode cJ9_floorMod_7cf53 19 = .ok (.ireturn, 1) := by decide +kernel
theorem dJ9_abs_067f4_0 : decode cJ9_abs_067f4 0 = .ok (.lload_n 0, 1) := by decide +kernel
theorem dJ9_abs_067f4_1 : decode cJ9_abs_067f4 1 = .ok (.lconst 0, 1) := by decide +kernel
theorem dJ9_abs_067f4_2 : decode cJ9_abs_067f4 2 = .ok (.lcmp, 1) := by decide +kernel
theorem dJ9_abs_067f4_3 : decode cJ9_abs_067f4 3 = .ok (.ifCond .ge 8, 3) := by decide +kernel
theorem dJ9_abs_067f4_6 : decode cJ9_abs_067f4 6 = .ok (.lload_n 0, 1) := by decide +kernel
theorem dJ9_abs_067f4_7 : decode cJ9_abs_067f4 7 = .ok (.lneg, 1) := by decide +kernel
theorem dJ9_abs_067f4_8 : decode cJ9_abs_067f4 8 = .ok (.goto 4, 3) := by decide +kernel
theorem dJ9_abs_067f4_11 : decode cJ9_abs_067f4 11 = .ok (.lload_n 0, 1) := by decide +kernel
theorem dJ9_abs_067f4_12 : decode cJ9_abs_067f4 12 = .ok (.lreturn, 1) := by decide +kernel
theorem dJ9_max_f86c9_0 : decode cJ9_max_f86c9 0 = .ok (.lload_n 0, 1) := by decide +kernel
theorem dJ9_max_f86c9_1 : decode cJ9_max_f86c9 1 = .ok (.lload_n 2, 1) := by decide +kernel
theorem dJ9_max_f86c9_2 : decode cJ9_max_f86c9 2 = .ok (.lcmp, 1) := by decide +kernel
theorem dJ9_max_f86c9_3 : decode cJ9_max_f86c9 3 = .ok (.ifCond .lt 7, 3) := by decide +kernel
theorem dJ9_max_f86c9_6 : decode cJ9_max_f86c9 6 = .ok (.lload_n 0, 1) := by decide +kernel
theorem dJ9_max_f86c9_7 : decode cJ9_max_f86c9 7 = .ok (.goto 4, 3) := by decide +kernel
theorem dJ9_max_f86c9_10 : decode cJ9_max_f86c9 10 = .ok (.lload_n 2, 1) := by decide +kernel
theorem dJ9_max_f86c9_11 : decode cJ9_max_f86c9 11 = .ok (.lreturn, 1) := by decide +kernel
theorem dJ9_min_7cf53_0 : decode cJ9_min_7cf53 0 = .ok (.iload_n 0, 1) := by decide +kernel
theorem dJ9_min_7cf53_1 : decode cJ9_min_7cf53 1 = .ok (.iload_n 1, 1) := by decide +kernel
theorem dJ9_min_7cf53_2 : decode cJ9_min_7cf53 2 = .ok (.if_icmp .gt 7, 3) := by decide +kernel
theorem dJ9_min_7cf53_5 : decode cJ9_min_7cf53 5 = .ok (.iload_n 0, 1) := by decide +kernel
theorem dJ9_min_7cf53_6 : decode cJ9_min_7cf53 6 = .ok (.goto 4, 3) := by decide +kernel
theorem dJ9_min_7cf53_9 : decode cJ9_min_7cf53 9 = .ok (.iload_n 1, 1) := by decide +kernel
theorem dJ9_min_7cf53_10 : decode cJ9_min_7cf53 10 = .ok (.ireturn, 1) := by decide +kernel
theorem dJ7_fill_d0a16_0 : decode cJ7_fill_d0a16 0 = .ok (.iconst 0, 1) := by decide +kernel
theorem dJ7_fill_d0a16_1 : decode cJ7_fill_d0a16 1 = .ok (.istore_n 3, 1) := by decide +kernel
theorem dJ7_fill_d0a16_2 : decode cJ7_fill_d0a16 2 = .ok (.aload_n 0, 1) := by decide +kernel
theorem dJ7_fill_d0a16_3 : decode cJ7_fill_d0a16 3 = .ok (.arraylength, 1) := by decide +kernel
theorem dJ7_fill_d0a16_4 : decode cJ7_fill_d0a16 4 = .ok (.istore 4, 2) := by decide +kernel
theorem dJ7_fill_d0a16_6 : decode cJ7_fill_d0a16 6 = .ok (.iload_n 3, 1) := by decide +kernel
theorem dJ7_fill_d0a16_7 : decode cJ7_fill_d0a16 7 = .ok (.iload 4, 2) := by decide +kernel
theorem dJ7_fill_d0a16_9 : decode cJ7_fill_d0a16 9 = .ok (.if_icmp .ge 13, 3) := by decide +kernel
theorem dJ7_fill_d0a16_12 : decode cJ7_fill_d0a16 12 = .ok (.aload_n 0, 1) := by decide +kernel
theorem dJ7_fill_d0a16_13 : decode cJ7_fill_d0a16 13 = .ok (.iload_n 3, 1) := by decide +kernel
theorem dJ7_fill_d0a16_14 : decode cJ7_fill_d0a16 14 = .ok (.lload_n 1, 1) := by decide +kernel
theorem dJ7_fill_d0a16_15 : decode cJ7_fill_d0a16 15 = .ok (.lastore, 1) := by decide +kernel
theorem dJ7_fill_d0a16_16 : decode cJ7_fill_d0a16 16 = .ok (.iinc 3 1, 3) := by decide +kernel
theorem dJ7_fill_d0a16_19 : decode cJ7_fill_d0a16 19 = .ok (.goto (-13), 3) := by decide +kernel
theorem dJ7_fill_d0a16_22 : decode cJ7_fill_d0a16 22 = .ok (.return_, 1) := by decide +kernel
theorem dJ7_fill_53178_0 : decode cJ7_fill_53178 0 = .ok (.iconst 0, 1) := by decide +kernel
theorem dJ7_fill_53178_1 : decode cJ7_fill_53178 1 = .ok (.istore_n 2, 1) := by decide +kernel
theorem dJ7_fill_53178_2 : decode cJ7_fill_53178 2 = .ok (.aload_n 0, 1) := by decide +kernel
theorem dJ7_fill_53178_3 : decode cJ7_fill_53178 3 = .ok (.arraylength, 1) := by decide +kernel
theorem dJ7_fill_53178_4 : decode cJ7_fill_53178 4 = .ok (.istore_n 3, 1) := by decide +kernel
theorem dJ7_fill_53178_5 : decode cJ7_fill_53178 5 = .ok (.iload_n 2, 1) := by decide +kernel
theorem dJ7_fill_53178_6 : decode cJ7_fill_53178 6 = .ok (.iload_n 3, 1) := by decide +kernel
theorem dJ7_fill_53178_7 : decode cJ7_fill_53178 7 = .ok (.if_icmp .ge 13, 3) := by decide +kernel
theorem dJ7_fill_53178_10 : decode cJ7_fill_53178 10 = .ok (.aload_n 0, 1) := by decide +kernel
theorem dJ7_fill_53178_11 : decode cJ7_fill_53178 11 = .ok (.iload_n 2, 1) := by decide +kernel
theorem dJ7_fill_53178_12 : decode cJ7_fill_53178 12 = .ok (.iload_n 1, 1) := by decide +kernel
theorem dJ7_fill_53178_13 : decode cJ7_fill_53178 13 = .ok (.iastore, 1) := by decide +kernel
theorem dJ7_fill_53178_14 : decode cJ7_fill_53178 14 = .ok (.iinc 2 1, 3) := by decide +kernel
theorem dJ7_fill_53178_17 : decode cJ7_fill_53178 17 = .ok (.goto (-12), 3) := by decide +kernel
theorem dJ7_fill_53178_20 : decode cJ7_fill_53178 20 = .ok (.return_, 1) := by decide +kernel
end
section
theorem dX5_init_0 : decode cX5_init 0 = .ok (.aload_n 0, 1) := by decide +kernel
theorem dX5_init_1 : decode cX5_init 1 = .ok (.invokespecial 3, 3) := by decide +kernel
theorem dX5_init_4 : decode cX5_init 4 = .ok (.aload_n 0, 1) := by decide +kernel
theorem dX5_init_5 : decode cX5_init 5 = .ok (.new 9, 3) := by decide +kernel
theorem dX5_init_8 : decode cX5_init 8 = .ok (.dup, 1) := by decide +kernel
theorem dX5_init_9 : decode cX5_init 9 = .ok (.invokespecial 11, 3) := by decide +kernel
theorem dX5_init_12 : decode cX5_init 12 = .ok (.putfield 12, 3) := by decide +kernel
theorem dX5_init_15 : decode cX5_init 15 = .ok (.aload_n 0, 1) := by decide +kernel
theorem dX5_init_16 : decode cX5_init 16 = .ok (.iconst 4, 1) := by decide +kernel
theorem dX5_init_17 : decode cX5_init 17 = .ok (.anewarray 16, 3) := by decide +kernel
theorem dX5_init_20 : decode cX5_init 20 = .ok (.putfield 18, 3) := by decide +kernel
theorem dX5_init_23 : decode cX5_init 23 = .ok (.aload_n 0, 1) := by decide +kernel
theorem dX5_init_24 : decode cX5_init 24 = .ok (.iconst 3, 1) := by decide +kernel
theorem dX5_init_25 : decode cX5_init 25 = .ok (.anewarray 22, 3) := by decide +kernel
theorem dX5_init_28 : decode cX5_init 28 = .ok (.putfield 24, 3) := by decide +kernel
theorem dX5_init_31 : decode cX5_init 31 = .ok (.aload_n 0, 1) := by decide +kernel
theorem dX5_init_32 : decode cX5_init 32 = .ok (.iconst 4, 1) := by decide +kernel
theorem dX5_init_33 : decode cX5_init 33 = .ok (.anewarray 28, 3) := by decide +kernel
theorem dX5_init_36 : decode cX5_init 36 = .ok (.putfield 30, 3) := by decide +kernel
theorem dX5_init_39 : decode cX5_init 39 = .ok (.aload_n 0, 1) := by decide +kernel
theorem dX5_init_40 : decode cX5_init 40 = .ok (.new 34, 3) := by decide +kernel
theorem dX5_init_43 : decode cX5_init 43 = .ok (.dup, 1) := by decide +kernel
theorem dX5_init_44 : decode cX5_init 44 = .ok (.invokespecial 36, 3) := by decide +kernel
theorem dX5_init_47 : decode cX5_init 47 = .ok (.putfield 37, 3) := by decide +kernel
theorem dX5_init_50 : decode cX5_init 50 = .ok (.aload_n 0, 1) := by decide +kernel
theorem dX5_init_51 : decode cX5_init 51 = .ok (.iconst 0, 1) := by decide +kernel
theorem dX5_init_52 : decode cX5_init 52 = .ok (.putfield 41, 3) := by decide +kernel
theorem dX5_init_55 : decode cX5_init 55 = .ok (.iconst 0, 1) := by decide +kernel
theorem dX5_init_56 : decode cX5_init 56 = .ok (.istore_n 1, 1) := by decide +kernel
theorem dX5_init_57 : decode cX5_init 57 = .ok (.iload_n 1, 1) := by decide +kernel
theorem dX5_init_58 : decode cX5_init 58 = .ok (.iconst 4, 1) := by decide +kernel
theorem dX5_init_59 : decode cX5_init 59 = .ok (.if_icmp .ge 22, 3) := by decide +kernel
theorem dX5_init_62 : decode cX5_init 62 = .ok (.aload_n 0, 1) := by decide +kernel
theorem dX5_init_63 : decode cX5_init 63 = .ok (.getfield 18, 3) := by decide +kernel
theorem dX5_init_66 : decode cX5_init 66 = .ok (.iload_n 1, 1) := by decide +kernel
theorem dX5_init_67 : decode cX5_init 67 = .ok (.new 16, 3) := by decide +kernel
theorem dX5_init_70 : decode cX5_init 70 = .ok (.dup, 1) := by decide +kernel
theorem dX5_init_71 : decode cX5_init 71 = .ok (.invokespecial 45, 3) := by decide +kernel
theorem dX5_init_74 : decode cX5_init 74 = .ok (.aastore, 1) := by decide +kernel
theorem dX5_init_75 : decode cX5_init 75 = .ok (.iinc 1 1, 3) := by decide +kernel
theorem dX5_init_78 : decode cX5_init 78 = .ok (.goto (-21), 3) := by decide +kernel
theorem dX5_init_81 : decode cX5_init 81 = .ok (.iconst 0, 1) := by decide +kernel
theorem dX5_init_82 : decode cX5_init 82 = .ok (.istore_n 1, 1) := by decide +kernel
theorem dX5_init_83 : decode cX5_init 83 = .ok (.iload_n 1, 1) := by decide +kernel
theorem dX5_init_84 : decode cX5_init 84 = .ok (.iconst 3, 1) := by decide +kernel
theorem dX5_init_85 : decode cX5_init 85 = .ok (.if_icmp .ge 22, 3) := by decide +kernel
theorem dX5_init_88 : decode cX5_init 88 = .ok (.aload_n 0, 1) := by decide +kernel
theorem dX5_init_89 : decode cX5_init 89 = .ok (.getfield 24, 3) := by decide +kernel
theorem dX5_init_92 : decode cX5_init 92 = .ok (.iload_n 1, 1) := by decide +kernel
theorem dX5_init_93 : decode cX5_init 93 = .ok (.new 22, 3) := by decide +kernel
theorem dX5_init_96 : decode cX5_init 96 = .ok (.dup, 1) := by decide +kernel
theorem dX5_init_97 : decode cX5_init 97 = .ok (.invokespecial 46, 3) := by decide +kernel
theorem dX5_init_100 : decode cX5_init 100 = .ok (.aastore, 1) := by decide +kernel
theorem dX5_init_101 : decode cX5_init 101 = .ok (.iinc 1 1, 3) := by decide +kernel
theorem dX5_init_104 : decode cX5_init 104 = .ok (.goto (-21), 3) := by decide +kernel
theorem dX5_init_107 : decode cX5_init 107 = .ok (.iconst 0, 1) := by decide +kernel
theorem dX5_init_108 : decode cX5_init 108 = .ok (.istore_n 1, 1) := by decide +kernel
theorem dX5_init_109 : decode cX5_init 109 = .ok (.iload_n 1, 1) := by decide +kernel
theorem dX5_init_110 : decode cX5_init 110 = .ok (.iconst 4, 1) := by decide +kernel
theorem dX5_init_111 : decode cX5_init 111 = .ok (.if_icmp .ge 22, 3) := by decide +kernel
theorem dX5_init_114 : decode cX5_init 114 = .ok (.aload_n 0, 1) := by decide +kernel
theorem dX5_init_115 : decode cX5_init 115 = .ok (.getfield 30, 3) := by decide +kernel
theorem dX5_init_118 : decode cX5_init 118 = .ok (.iload_n 1, 1) := by decide +kernel
theorem dX5_init_119 : decode cX5_init 119 = .ok (.new 28, 3) := by decide +kernel
theorem dX5_init_122 : decode cX5_init 122 = .ok (.dup, 1) := by decide +kernel
theorem dX5_init_123 : decode cX5_init 123 = .ok (.invokespecial 47, 3) := by decide +kernel
theorem dX5_init_126 : decode cX5_init 126 = .ok (.aastore, 1) := by decide +kernel
theorem dX5_init_127 : decode cX5_init 127 = .ok (.iinc 1 1, 3) := by decide +kernel
theorem dX5_init_130 : decode cX5_init 130 = .ok (.goto (-21), 3) := by decide +kernel
theorem dX5_init_133 : decode cX5_init 133 = .ok (.return_, 1) := by decide +kernel
theorem dX5_wind_0 : decode cX5_wind 0 = .ok (.iload_n 1, 1) := by decide +kernel
theorem dX5_wind_1 : decode cX5_wind 1 = .ok (.bipush 24, 2) := by decide +kernel
theorem dX5_wind_3 : decode cX5_wind 3 = .ok (.invokestatic 48, 3) := by decide +kernel
theorem dX5_wind_6 : decode cX5_wind 6 = .ok (.ifCond .eq 15, 3) := by decide +kernel
theorem dX5_wind_9 : decode cX5_wind 9 = .ok (.iload_n 2, 1) := by decide +kernel
theorem dX5_wind_10 : decode cX5_wind 10 = .ok (.bipush (-100), 2) := by decide +kernel
theorem dX5_wind_12 : decode cX5_wind 12 = .ok (.if_icmp .lt 9, 3) := by decide +kernel
theorem dX5_wind_15 : decode cX5_wind 15 = .ok (.iload_n 2, 1) := by decide +kernel
theorem dX5_wind_16 : decode cX5_wind 16 = .ok (.bipush 100, 2) := by decide +kernel
theorem dX5_wind_18 : decode cX5_wind 18 = .ok (.if_icmp .le 7, 3) := by decide +kernel
theorem dX5_wind_21 : decode cX5_wind 21 = .ok (.sipush (-1001), 3) := by decide +kernel
theorem dX5_wind_24 : decode cX5_wind 24 = .ok (.ireturn, 1) := by decide +kernel
theorem dX5_wind_25 : decode cX5_wind 25 = .ok (.aload_n 0, 1) := by decide +kernel
theorem dX5_wind_26 : decode cX5_wind 26 = .ok (.getfield 12, 3) := by decide +kernel
theorem dX5_wind_29 : decode cX5_wind 29 = .ok (.getfield 52, 3) := by decide +kernel
theorem dX5_wind_32 : decode cX5_wind 32 = .ok (.iload_n 1, 1) := by decide +kernel
theorem dX5_wind_33 : decode cX5_wind 33 = .ok (.iaload, 1) := by decide +kernel
theorem dX5_wind_34 : decode cX5_wind 34 = .ok (.istore_n 3, 1) := by decide +kernel
theorem dX5_wind_35 : decode cX5_wind 35 = .ok (.aload_n 0, 1) := by decide +kernel
theorem dX5_wind_36 : decode cX5_wind 36 = .ok (.getfield 12, 3) := by decide +kernel
theorem dX5_wind_39 : decode cX5_wind 39 = .ok (.getfield 52, 3) := by decide +kernel
theorem dX5_wind_42 : decode cX5_wind 42 = .ok (.iload_n 1, 1) := by decide +kernel
theorem dX5_wind_43 : decode cX5_wind 43 = .ok (.iload_n 2, 1) := by decide +kernel
theorem dX5_wind_44 : decode cX5_wind 44 = .ok (.iastore, 1) := by decide +kernel
theorem dX5_wind_45 : decode cX5_wind 45 = .ok (.aload_n 0, 1) := by decide +kernel
theorem dX5_wind_46 : decode cX5_wind 46 = .ok (.getfield 12, 3) := by decide +kernel
theorem dX5_wind_49 : decode cX5_wind 49 = .ok (.invokevirtual 56, 3) := by decide +kernel
theorem dX5_wind_52 : decode cX5_wind 52 = .ok (.iload_n 3, 1) := by decide +kernel
theorem dX5_wind_53 : decode cX5_wind 53 = .ok (.ireturn, 1) := by decide +kernel
theorem dX5_gives_0 : decode cX5_gives 0 = .ok (.iload_n 1, 1) := by decide +kernel
theorem dX5_gives_1 : decode cX5_gives 1 = .ok (.bipush 9, 2) := by decide +kernel
theorem dX5_gives_3 : decode cX5_gives 3 = .ok (.invokestatic 48, 3) := by decide +kernel
theorem dX5_gives_6 : decode cX5_gives 6 = .ok (.ifCond .eq 14, 3) := by decide +kernel
theorem dX5_gives_9 : decode cX5_gives 9 = .ok (.aload_n 0, 1) := by decide +kernel
theorem dX5_gives_10 : decode cX5_gives 10 = .ok (.getfield 12, 3) := by decide +kernel
theorem dX5_gives_13 : decode cX5_gives 13 = .ok (.iload_n 1, 1) := by decide +kernel
theorem dX5_gives_14 : decode cX5_gives 14 = .ok (.invokevirtual 59, 3) := by decide +kernel
theorem dX5_gives_17 : decode cX5_gives 17 = .ok (.goto 6, 3) := by decide +kernel
theorem dX5_gives_20 : decode cX5_gives 20 = .ok (.sipush (-1001), 3) := by decide +kernel
theorem dX5_gives_23 : decode cX5_gives 23 = .ok (.ireturn, 1) := by decide +kernel
theorem dX5_still_0 : decode cX5_still 0 = .ok (.iload_n 1, 1) := by decide +kernel
theorem dX5_still_1 : decode cX5_still 1 = .ok (.bipush 24, 2) := by decide +kernel
theorem dX5_still_3 : decode cX5_still 3 = .ok (.invokestatic 48, 3) := by decide +kernel
theorem dX5_still_6 : decode cX5_still 6 = .ok (.ifCond .eq 15, 3) := by decide +kernel
theorem dX5_still_9 : decode cX5_still 9 = .ok (.aload_n 0, 1) := by decide +kernel
theorem dX5_still_10 : decode cX5_still 10 = .ok (.getfield 12, 3) := by decide +kernel
theorem dX5_still_13 : decode cX5_still 13 = .ok (.getfield 63, 3) := by decide +kernel
theorem dX5_still_16 : decode cX5_still 16 = .ok (.iload_n 1, 1) := by decide +kernel
theorem dX5_still_17 : decode cX5_still 17 = .ok (.laload, 1) := by decide +kernel
theorem dX5_still_18 : decode cX5_still 18 = .ok (.goto 6, 3) := by decide +kernel
theorem dX5_still_21 : decode cX5_still 21 = .ok (.ldc2_w 67, 3) := by decide +kernel
theorem dX5_still_24 : decode cX5_still 24 = .ok (.lreturn, 1) := by decide +kernel
theorem dX5_change_0 : decode cX5_change 0 = .ok (.aload_n 0, 1) := by decide +kernel
theorem dX5_change_1 : decode cX5_change 1 = .ok (.getfield 12, 3) := by decide +kernel
theorem dX5_change_4 : decode cX5_change 4 = .ok (.invokevirtual 69, 3) := by decide +kernel
theorem dX5_change_7 : decode cX5_change 7 = .ok (.lreturn, 1) := by decide +kernel
theorem dX5_sheet_0 : decode cX5_sheet 0 = .ok (.iload_n 1, 1) := by decide +kernel
theorem dX5_sheet_1 : decode cX5_sheet 1 = .ok (.iconst 4, 1) := by decide +kernel
theorem dX5_sheet_2 : decode cX5_sheet 2 = .ok (.invokestatic 48, 3) := by decide +kernel
theorem dX5_sheet_5 : decode cX5_sheet 5 = .ok (.ifCond .eq 16, 3) := by decide +kernel
theorem dX5_sheet_8 : decode cX5_sheet 8 = .ok (.iload_n 2, 1) := by decide +kernel
theorem dX5_sheet_9 : decode cX5_sheet 9 = .ok (.invokestatic 73, 3) := by decide +kernel
theorem dX5_sheet_12 : decode cX5_sheet 12 = .ok (.ifCond .eq 9, 3) := by decide +kernel
theorem dX5_sheet_15 : decode cX5_sheet 15 = .ok (.iload_n 3, 1) := by decide +kernel
theorem dX5_sheet_16 : decode cX5_sheet 16 = .ok (.bipush 24, 2) := by decide +kernel
theorem dX5_sheet_18 : decode cX5_sheet 18 = .ok (.if_icmp .le 5, 3) := by decide +kernel
theorem dX5_sheet_21 : decode cX5_sheet 21 = .ok (.iconst (-1), 1) := by decide +kernel
theorem dX5_sheet_22 : decode cX5_sheet 22 = .ok (.ireturn, 1) := by decide +kernel
theorem dX5_sheet_23 : decode cX5_sheet 23 = .ok (.iload_n 3, 1) := by decide +kernel
theorem dX5_sheet_24 : decode cX5_sheet 24 = .ok (.ifCond .ge 6, 3) := by decide +kernel
theorem dX5_sheet_27 : decode cX5_sheet 27 = .ok (.bipush (-14), 2) := by decide +kernel
theorem dX5_sheet_29 : decode cX5_sheet 29 = .ok (.ireturn, 1) := by decide +kernel
theorem dX5_sheet_30 : decode cX5_sheet 30 = .ok (.aload_n 0, 1) := by decide +kernel
theorem dX5_sheet_31 : decode cX5_sheet 31 = .ok (.getfield 18, 3) := by decide +kernel
theorem dX5_sheet_34 : decode cX5_sheet 34 = .ok (.iload_n 1, 1) := by decide +kernel
theorem dX5_sheet_35 : decode cX5_sheet 35 = .ok (.aaload, 1) := by decide +kernel
theorem dX5_sheet_36 : decode cX5_sheet 36 = .ok (.iload_n 2, 1) := by decide +kernel
theorem dX5_sheet_37 : decode cX5_sheet 37 = .ok (.iload_n 3, 1) := by decide +kernel
theorem dX5_sheet_38 : decode cX5_sheet 38 = .ok (.invokevirtual 77, 3) := by decide +kernel
theorem dX5_sheet_41 : decode cX5_sheet 41 = .ok (.iload_n 3, 1) := by decide +kernel
theorem dX5_sheet_42 : decode cX5_sheet 42 = .ok (.ireturn, 1) := by decide +kernel
theorem dX5_drop_0 : decode cX5_drop 0 = .ok (.iload_n 1, 1) := by decide +kernel
theorem dX5_drop_1 : decode cX5_drop 1 = .ok (.iconst 4, 1) := by decide +kernel
theorem dX5_drop_2 : decode cX5_drop 2 = .ok (.invokestatic 48, 3) := by decide +kernel
theorem dX5_drop_5 : decode cX5_drop 5 = .ok (.ifCond .ne 5, 3) := by decide +kernel
theorem dX5_drop_8 : decode cX5_drop 8 = .ok (.iconst (-1), 1) := by decide +kernel
theorem dX5_drop_9 : decode cX5_drop 9 = .ok (.ireturn, 1) := by decide +kernel
theorem dX5_drop_10 : decode cX5_drop 10 = .ok (.aload_n 0, 1) := by decide +kernel
theorem dX5_drop_11 : decode cX5_drop 11 = .ok (.getfield 18, 3) := by decide +kernel
theorem dX5_drop_14 : decode cX5_drop 14 = .ok (.iload_n 1, 1) := by decide +kernel
theorem dX5_drop_15 : decode cX5_drop 15 = .ok (.aaload, 1) := by decide +kernel
theorem dX5_drop_16 : decode cX5_drop 16 = .ok (.astore_n 2, 1) := by decide +kernel
theorem dX5_drop_17 : decode cX5_drop 17 = .ok (.aload_n 2, 1) := by decide +kernel
theorem dX5_drop_18 : decode cX5_drop 18 = .ok (.getfield 81, 3) := by decide +kernel
theorem dX5_drop_21 : decode cX5_drop 21 = .ok (.ifCond .ne 6, 3) := by decide +kernel
theorem dX5_drop_24 : decode cX5_drop 24 = .ok (.bipush (-11), 2) := by decide +kernel
theorem dX5_drop_26 : decode cX5_drop 26 = .ok (.ireturn, 1) := by decide +kernel
theorem dX5_drop_27 : decode cX5_drop 27 = .ok (.aload_n 2, 1) := by decide +kernel
theorem dX5_drop_28 : decode cX5_drop 28 = .ok (.iconst 0, 1) := by decide +kernel
theorem dX5_drop_29 : decode cX5_drop 29 = .ok (.putfield 81, 3) := by decide +kernel
theorem dX5_drop_32 : decode cX5_drop 32 = .ok (.aload_n 2, 1) := by decide +kernel
theorem dX5_drop_33 : decode cX5_drop 33 = .ok (.getfield 85, 3) := by decide +kernel
theorem dX5_drop_36 : decode cX5_drop 36 = .ok (.ireturn, 1) := by decide +kernel
theorem dX5_item_0 : decode cX5_item 0 = .ok (.iload_n 1, 1) := by decide +kernel
theorem dX5_item_1 : decode cX5_item 1 = .ok (.iconst 4, 1) := by decide +kernel
theorem dX5_item_2 : decode cX5_item 2 = .ok (.invokestatic 48, 3) := by decide +kernel
theorem dX5_item_5 : decode cX5_item 5 = .ok (.ifCond .eq 10, 3) := by decide +kernel
theorem dX5_item_8 : decode cX5_item 8 = .ok (.iload_n 2, 1) := by decide +kernel
theorem dX5_item_9 : decode cX5_item 9 = .ok (.invokestatic 73, 3) := by decide +kernel
theorem dX5_item_12 : decode cX5_item 12 = .ok (.ifCond .ne 5, 3) := by decide +kernel
theorem dX5_item_15 : decode cX5_item 15 = .ok (.iconst (-1), 1) := by decide +kernel
theorem dX5_item_16 : decode cX5_item 16 = .ok (.ireturn, 1) := by decide +kernel
theorem dX5_item_17 : decode cX5_item 17 = .ok (.aload_n 0, 1) := by decide +kernel
theorem dX5_item_18 : decode cX5_item 18 = .ok (.getfield 18, 3) := by decide +kernel
theorem dX5_item_21 : decode cX5_item 21 = .ok (.iload_n 1, 1) := by decide +kernel
theorem dX5_item_22 : decode cX5_item 22 = .ok (.aaload, 1) := by decide +kernel
theorem dX5_item_23 : decode cX5_item 23 = .ok (.astore 5, 2) := by decide +kernel
theorem dX5_item_25 : decode cX5_item 25 = .ok (.aload 5, 2) := by decide +kernel
theorem dX5_item_27 : decode cX5_item 27 = .ok (.iload_n 2, 1) := by decide +kernel
theorem dX5_item_28 : decode cX5_item 28 = .ok (.invokevirtual 88, 3) := by decide +kernel
theorem dX5_item_31 : decode cX5_item 31 = .ok (.ifCond .ne 19, 3) := by decide +kernel
theorem dX5_item_34 : decode cX5_item 34 = .ok (.aload 5, 2) := by decide +kernel
theorem dX5_item_36 : decode cX5_item 36 = .ok (.getfield 81, 3) := by decide +kernel
theorem dX5_item_39 : decode cX5_item 39 = .ok (.ifCond .eq 8, 3) := by decide +kernel
theorem dX5_item_42 : decode cX5_item 42 = .ok (.bipush (-12), 2) := by decide +kernel
theorem dX5_item_44 : decode cX5_item 44 = .ok (.goto 5, 3) := by decide +kernel
theorem dX5_item_47 : decode cX5_item 47 = .ok (.bipush (-11), 2) := by decide +kernel
theorem dX5_item_49 : decode cX5_item 49 = .ok (.ireturn, 1) := by decide +kernel
theorem dX5_item_50 : decode cX5_item 50 = .ok (.iload_n 3, 1) := by decide +kernel
theorem dX5_item_51 : decode cX5_item 51 = .ok (.aload 5, 2) := by decide +kernel
theorem dX5_item_53 : decode cX5_item 53 = .ok (.getfield 85, 3) := by decide +kernel
theorem dX5_item_56 : decode cX5_item 56 = .ok (.invokestatic 48, 3) := by decide +kernel
theorem dX5_item_59 : decode cX5_item 59 = .ok (.ifCond .ne 6, 3) := by decide +kernel
theorem dX5_item_62 : decode cX5_item 62 = .ok (.bipush (-13), 2) := by decide +kernel
theorem dX5_item_64 : decode cX5_item 64 = .ok (.ireturn, 1) := by decide +kernel
theorem dX5_item_65 : decode cX5_item 65 = .ok (.aload 5, 2) := by decide +kernel
theorem dX5_item_67 : decode cX5_item 67 = .ok (.getfield 91, 3) := by decide +kernel
theorem dX5_item_70 : decode cX5_item 70 = .ok (.iload_n 3, 1) := by decide +kernel
theorem dX5_item_71 : decode cX5_item 71 = .ok (.iload_n 2, 1) := by decide +kernel
theorem dX5_item_72 : decode cX5_item 72 = .ok (.ifCond .ne 9, 3) := by decide +kernel
theorem dX5_item_75 : decode cX5_item 75 = .ok (.iload 4, 2) := by decide +kernel
theorem dX5_item_77 : decode cX5_item 77 = .ok (.i2s, 1) := by decide +kernel
theorem dX5_item_78 : decode cX5_item 78 = .ok (.goto 5, 3) := by decide +kernel
theorem dX5_item_81 : decode cX5_item 81 = .ok (.iload 4, 2) := by decide +kernel
theorem dX5_item_83 : decode cX5_item 83 = .ok (.iastore, 1) := by decide +kernel
theorem dX5_item_84 : decode cX5_item 84 = .ok (.iconst 1, 1) := by decide +kernel
theorem dX5_item_85 : decode cX5_item 85 = .ok (.ireturn, 1) := by decide +kernel
theorem dX5_source_0 : decode cX5_source 0 = .ok (.iload_n 1, 1) := by decide +kernel
theorem dX5_source_1 : decode cX5_source 1 = .ok (.iconst 3, 1) := by decide +kernel
theorem dX5_source_2 : decode cX5_source 2 = .ok (.invokestatic 48, 3) := by decide +kernel
theorem dX5_source_5 : decode cX5_source 5 = .ok (.ifCond .eq 28, 3) := by decide +kernel
theorem dX5_source_8 : decode cX5_source 8 = .ok (.iload_n 2, 1) := by decide +kernel
theorem dX5_source_9 : decode cX5_source 9 = .ok (.bipush 9, 2) := by decide +kernel
theorem dX5_source_11 : decode cX5_source 11 = .ok (.invokestatic 48, 3) := by decide +kernel
theorem dX5_source_14 : decode cX5_source 14 = .ok (.ifCond .eq 19, 3) := by decide +kernel
theorem dX5_source_17 : decode cX5_source 17 = .ok (.iload_n 3, 1) := by decide +kernel
theorem dX5_source_18 : decode cX5_source 18 = .ok (.iconst 4, 1) := by decide +kernel
theorem dX5_source_19 : decode cX5_source 19 = .ok (.invokestatic 48, 3) := by decide +kernel
theorem dX5_source_22 : decode cX5_source 22 = .ok (.ifCond .eq 11, 3) := by decide +kernel
theorem dX5_source_25 : decode cX5_source 25 = .ok (.iload 4, 2) := by decide +kernel
theorem dX5_source_27 : decode cX5_source 27 = .ok (.invokestatic 73, 3) := by decide +kernel
theorem dX5_source_30 : decode cX5_source 30 = .ok (.ifCond .ne 5, 3) := by decide +kernel
theorem dX5_source_33 : decode cX5_source 33 = .ok (.iconst (-1), 1) := by decide +kernel
theorem dX5_source_34 : decode cX5_source 34 = .ok (.ireturn, 1) := by decide +kernel
theorem dX5_source_35 : decode cX5_source 35 = .ok (.aload_n 0, 1) := by decide +kernel
theorem dX5_source_36 : decode cX5_source 36 = .ok (.getfield 18, 3) := by decide +kernel
theorem dX5_source_39 : decode cX5_source 39 = .ok (.iload_n 3, 1) := by decide +kernel
theorem dX5_source_40 : decode cX5_source 40 = .ok (.aaload, 1) := by decide +kernel
theorem dX5_source_41 : decode cX5_source 41 = .ok (.astore 5, 2) := by decide +kernel
theorem dX5_source_43 : decode cX5_source 43 = .ok (.aload 5, 2) := by decide +kernel
theorem dX5_source_45 : decode cX5_source 45 = .ok (.iload 4, 2) := by decide +kernel
theorem dX5_source_47 : decode cX5_source 47 = .ok (.invokevirtual 88, 3) := by decide +kernel
theorem dX5_source_50 : decode cX5_source 50 = .ok (.ifCond .ne 19, 3) := by decide +kernel
theorem dX5_source_53 : decode cX5_source 53 = .ok (.aload 5, 2) := by decide +kernel
theorem dX5_source_55 : decode cX5_source 55 = .ok (.getfield 81, 3) := by decide +kernel
theorem dX5_source_58 : decode cX5_source 58 = .ok (.ifCond .eq 8, 3) := by decide +kernel
theorem dX5_source_61 : decode cX5_source 61 = .ok (.bipush (-12), 2) := by decide +kernel
theorem dX5_source_63 : decode cX5_source 63 = .ok (.goto 5, 3) := by decide +kernel
theorem dX5_source_66 : decode cX5_source 66 = .ok (.bipush (-11), 2) := by decide +kernel
theorem dX5_source_68 : decode cX5_source 68 = .ok (.ireturn, 1) := by decide +kernel
theorem dX5_source_69 : decode cX5_source 69 = .ok (.aload 5, 2) := by decide +kernel
theorem dX5_source_71 : decode cX5_source 71 = .ok (.getfield 85, 3) := by decide +kernel
theorem dX5_source_74 : decode cX5_source 74 = .ok (.bipush 24, 2) := by decide +kernel
theorem dX5_source_76 : decode cX5_source 76 = .ok (.if_icmp .eq 6, 3) := by decide +kernel
theorem dX5_source_79 : decode cX5_source 79 = .ok (.bipush (-13), 2) := by decide +kernel
theorem dX5_source_81 : decode cX5_source 81 = .ok (.ireturn, 1) := by decide +kernel
theorem dX5_source_82 : decode cX5_source 82 = .ok (.aload 5, 2) := by decide +kernel
theorem dX5_source_84 : decode cX5_source 84 = .ok (.invokevirtual 94, 3) := by decide +kernel
theorem dX5_source_87 : decode cX5_source 87 = .ok (.ifCond .ne 6, 3) := by decide +kernel
theorem dX5_source_90 : decode cX5_source 90 = .ok (.bipush (-2), 2) := by decide +kernel
theorem dX5_source_92 : decode cX5_source 92 = .ok (.ireturn, 1) := by decide +kernel
theorem dX5_source_93 : decode cX5_source 93 = .ok (.aload_n 0, 1) := by decide +kernel
theorem dX5_source_94 : decode cX5_source 94 = .ok (.getfield 24, 3) := by decide +kernel
theorem dX5_source_97 : decode cX5_source 97 = .ok (.iload_n 1, 1) := by decide +kernel
theorem dX5_source_98 : decode cX5_source 98 = .ok (.aaload, 1) := by decide +kernel
theorem dX5_source_99 : decode cX5_source 99 = .ok (.iload_n 2, 1) := by decide +kernel
theorem dX5_source_100 : decode cX5_source 100 = .ok (.aload 5, 2) := by decide +kernel
theorem dX5_source_102 : decode cX5_source 102 = .ok (.getfield 91, 3) := by decide +kernel
theorem dX5_source_105 : decode cX5_source 105 = .ok (.invokevirtual 98, 3) := by decide +kernel
theorem dX5_source_108 : decode cX5_source 108 = .ok (.ireturn, 1) := by decide +kernel
theorem dX5_door_0 : decode cX5_door 0 = .ok (.iload_n 1, 1) := by decide +kernel
theorem dX5_door_1 : decode cX5_door 1 = .ok (.iconst 4, 1) := by decide +kernel
theorem dX5_door_2 : decode cX5_door 2 = .ok (.invokestatic 48, 3) := by decide +kernel
theorem dX5_door_5 : decode cX5_door 5 = .ok (.ifCond .eq 12, 3) := by decide +kernel
theorem dX5_door_8 : decode cX5_door 8 = .ok (.iload_n 2, 1) := by decide +kernel
theorem dX5_door_9 : decode cX5_door 9 = .ok (.bipush 9, 2) := by decide +kernel
theorem dX5_door_11 : decode cX5_door 11 = .ok (.invokestatic 48, 3) := by decide +kernel
theorem dX5_door_14 : decode cX5_door 14 = .ok (.ifCond .ne 5, 3) := by decide +kernel
theorem dX5_door_17 : decode cX5_door 17 = .ok (.iconst (-1), 1) := by decide +kernel
theorem dX5_door_18 : decode cX5_door 18 = .ok (.ireturn, 1) := by decide +kernel
theorem dX5_door_19 : decode cX5_door 19 = .ok (.aload_n 0, 1) := by decide +kernel
theorem dX5_door_20 : decode cX5_door 20 = .ok (.getfield 30, 3) := by decide +kernel
theorem dX5_door_23 : decode cX5_door 23 = .ok (.iload_n 1, 1) := by decide +kernel
theorem dX5_door_24 : decode cX5_door 24 = .ok (.aaload, 1) := by decide +kernel
theorem dX5_door_25 : decode cX5_door 25 = .ok (.iload_n 2, 1) := by decide +kernel
theorem dX5_door_26 : decode cX5_door 26 = .ok (.invokevirtual 102, 3) := by decide +kernel
theorem dX5_door_29 : decode cX5_door 29 = .ok (.ireturn, 1) := by decide +kernel
theorem dX5_lose_0 : decode cX5_lose 0 = .ok (.iload_n 1, 1) := by decide +kernel
theorem dX5_lose_1 : decode cX5_lose 1 = .ok (.iconst 4, 1) := by decide +kernel
theorem dX5_lose_2 : decode cX5_lose 2 = .ok (.invokestatic 48, 3) := by decide +kernel
theorem dX5_lose_5 : decode cX5_lose 5 = .ok (.ifCond .ne 5, 3) := by decide +kernel
theorem dX5_lose_8 : decode cX5_lose 8 = .ok (.iconst (-1), 1) := by decide +kernel
theorem dX5_lose_9 : decode cX5_lose 9 = .ok (.ireturn, 1) := by decide +kernel
theorem dX5_lose_10 : decode cX5_lose 10 = .ok (.aload_n 0, 1) := by decide +kernel
theorem dX5_lose_11 : decode cX5_lose 11 = .ok (.getfield 30, 3) := by decide +kernel
theorem dX5_lose_14 : decode cX5_lose 14 = .ok (.iload_n 1, 1) := by decide +kernel
theorem dX5_lose_15 : decode cX5_lose 15 = .ok (.aaload, 1) := by decide +kernel
theorem dX5_lose_16 : decode cX5_lose 16 = .ok (.getfield 105, 3) := by decide +kernel
theorem dX5_lose_19 : decode cX5_lose 19 = .ok (.ifCond .eq 7, 3) := by decide +kernel
theorem dX5_lose_22 : decode cX5_lose 22 = .ok (.iconst 1, 1) := by decide +kernel
theorem dX5_lose_23 : decode cX5_lose 23 = .ok (.goto 4, 3) := by decide +kernel
theorem dX5_lose_26 : decode cX5_lose 26 = .ok (.iconst 0, 1) := by decide +kernel
theorem dX5_lose_27 : decode cX5_lose 27 = .ok (.istore_n 3, 1) := by decide +kernel
theorem dX5_lose_28 : decode cX5_lose 28 = .ok (.aload_n 0, 1) := by decide +kernel
theorem dX5_lose_29 : decode cX5_lose 29 = .ok (.getfield 30, 3) := by decide +kernel
theorem dX5_lose_32 : decode cX5_lose 32 = .ok (.iload_n 1, 1) := by decide +kernel
theorem dX5_lose_33 : decode cX5_lose 33 = .ok (.aaload, 1) := by decide +kernel
theorem dX5_lose_34 : decode cX5_lose 34 = .ok (.iload_n 2, 1) := by decide +kernel
theorem dX5_lose_35 : decode cX5_lose 35 = .ok (.putfield 105, 3) := by decide +kernel
theorem dX5_lose_38 : decode cX5_lose 38 = .ok (.iload_n 3, 1) := by decide +kernel
theorem dX5_lose_39 : decode cX5_lose 39 = .ok (.ireturn, 1) := by decide +kernel
theorem dX5_hours_0 : decode cX5_hours 0 = .ok (.iload_n 1, 1) := by decide +kernel
theorem dX5_hours_1 : decode cX5_hours 1 = .ok (.iconst 1, 1) := by decide +kernel
theorem dX5_hours_2 : decode cX5_hours 2 = .ok (.if_icmp .lt 20, 3) := by decide +kernel
theorem dX5_hours_5 : decode cX5_hours 5 = .ok (.iload_n 1, 1) := by decide +kernel
theorem dX5_hours_6 : decode cX5_hours 6 = .ok (.bipush 50, 2) := by decide +kernel
theorem dX5_hours_8 : decode cX5_hours 8 = .ok (.if_icmp .gt 14, 3) := by decide +kernel
theorem dX5_hours_11 : decode cX5_hours 11 = .ok (.iload_n 2, 1) := by decide +kernel
theorem dX5_hours_12 : decode cX5_hours 12 = .ok (.ifCond .lt 10, 3) := by decide +kernel
theorem dX5_hours_15 : decode cX5_hours 15 = .ok (.iload_n 2, 1) := by decide +kernel
theorem dX5_hours_16 : decode cX5_hours 16 = .ok (.sipush 1000, 3) := by decide +kernel
theorem dX5_hours_19 : decode cX5_hours 19 = .ok (.if_icmp .le 5, 3) := by decide +kernel
theorem dX5_hours_22 : decode cX5_hours 22 = .ok (.iconst (-1), 1) := by decide +kernel
theorem dX5_hours_23 : decode cX5_hours 23 = .ok (.ireturn, 1) := by decide +kernel
theorem dX5_hours_24 : decode cX5_hours 24 = .ok (.iconst 0, 1) := by decide +kernel
theorem dX5_hours_25 : decode cX5_hours 25 = .ok (.istore_n 3, 1) := by decide +kernel
theorem dX5_hours_26 : decode cX5_hours 26 = .ok (.iload_n 3, 1) := by decide +kernel
theorem dX5_hours_27 : decode cX5_hours 27 = .ok (.iload_n 1, 1) := by decide +kernel
theorem dX5_hours_28 : decode cX5_hours 28 = .ok (.if_icmp .ge 14, 3) := by decide +kernel
theorem dX5_hours_31 : decode cX5_hours 31 = .ok (.aload_n 0, 1) := by decide +kernel
theorem dX5_hours_32 : decode cX5_hours 32 = .ok (.iload_n 2, 1) := by decide +kernel
theorem dX5_hours_33 : decode cX5_hours 33 = .ok (.invokevirtual 108, 3) := by decide +kernel
theorem dX5_hours_36 : decode cX5_hours 36 = .ok (.iinc 3 1, 3) := by decide +kernel
theorem dX5_hours_39 : decode cX5_hours 39 = .ok (.goto (-13), 3) := by decide +kernel
theorem dX5_hours_42 : decode cX5_hours 42 = .ok (.aload_n 0, 1) := by decide +kernel
theorem dX5_hours_43 : decode cX5_hours 43 = .ok (.getfield 41, 3) := by decide +kernel
theorem dX5_hours_46 : decode cX5_hours 46 = .ok (.ireturn, 1) := by decide +kernel
theorem dX5_grains_0 : decode cX5_grains 0 = .ok (.iload_n 1, 1) := by decide +kernel
theorem dX5_grains_1 : decode cX5_grains 1 = .ok (.iconst 3, 1) := by decide +kernel
theorem dX5_grains_2 : decode cX5_grains 2 = .ok (.invokestatic 48, 3) := by decide +kernel
theorem dX5_grains_5 : decode cX5_grains 5 = .ok (.ifCond .eq 12, 3) := by decide +kernel
theorem dX5_grains_8 : decode cX5_grains 8 = .ok (.iload_n 2, 1) := by decide +kernel
theorem dX5_grains_9 : decode cX5_grains 9 = .ok (.bipush 9, 2) := by decide +kernel
theorem dX5_grains_11 : decode cX5_grains 11 = .ok (.invokestatic 48, 3) := by decide +kernel
theorem dX5_grains_14 : decode cX5_grains 14 = .ok (.ifCond .ne 7, 3) := by decide +kernel
theorem dX5_grains_17 : decode cX5_grains 17 = .ok (.ldc2_w 112, 3) := by decide +kernel
theorem dX5_grains_20 : decode cX5_grains 20 = .ok (.lreturn, 1) := by decide +kernel
theorem dX5_grains_21 : decode cX5_grains 21 = .ok (.aload_n 0, 1) := by decide +kernel
theorem dX5_grains_22 : decode cX5_grains 22 = .ok (.getfield 24, 3) := by decide +kernel
theorem dX5_grains_25 : decode cX5_grains 25 = .ok (.iload_n 1, 1) := by decide +kernel
theorem dX5_grains_26 : decode cX5_grains 26 = .ok (.aaload, 1) := by decide +kernel
theorem dX5_grains_27 : decode cX5_grains 27 = .ok (.getfield 114, 3) := by decide +kernel
theorem dX5_grains_30 : decode cX5_grains 30 = .ok (.iload_n 2, 1) := by decide +kernel
theorem dX5_grains_31 : decode cX5_grains 31 = .ok (.laload, 1) := by decide +kernel
theorem dX5_grains_32 : decode cX5_grains 32 = .ok (.lreturn, 1) := by decide +kernel
theorem dX5_total_0 : decode cX5_total 0 = .ok (.iload_n 1, 1) := by decide +kernel
theorem dX5_total_1 : decode cX5_total 1 = .ok (.iconst 3, 1) := by decide +kernel
theorem dX5_total_2 : decode cX5_total 2 = .ok (.invokestatic 48, 3) := by decide +kernel
theorem dX5_total_5 : decode cX5_total 5 = .ok (.ifCond .ne 7, 3) := by decide +kernel
theorem dX5_total_8 : decode cX5_total 8 = .ok (.ldc2_w 112, 3) := by decide +kernel
theorem dX5_total_11 : decode cX5_total 11 = .ok (.lreturn, 1) := by decide +kernel
theorem dX5_total_12 : decode cX5_total 12 = .ok (.aload_n 0, 1) := by decide +kernel
theorem dX5_total_13 : decode cX5_total 13 = .ok (.getfield 24, 3) := by decide +kernel
theorem dX5_total_16 : decode cX5_total 16 = .ok (.iload_n 1, 1) := by decide +kernel
theorem dX5_total_17 : decode cX5_total 17 = .ok (.aaload, 1) := by decide +kernel
theorem dX5_total_18 : decode cX5_total 18 = .ok (.astore_n 3, 1) := by decide +kernel
theorem dX5_total_19 : decode cX5_total 19 = .ok (.iload_n 2, 1) := by decide +kernel
theorem dX5_total_20 : decode cX5_total 20 = .ok (.tableswitch 64 0 4 #[36, 41, 46, 51, 59], 36) := by decide +kernel
theorem dX5_total_56 : decode cX5_total 56 = .ok (.aload_n 3, 1) := by decide +kernel
theorem dX5_total_57 : decode cX5_total 57 = .ok (.getfield 117, 3) := by decide +kernel
theorem dX5_total_60 : decode cX5_total 60 = .ok (.lreturn, 1) := by decide +kernel
theorem dX5_total_61 : decode cX5_total 61 = .ok (.aload_n 3, 1) := by decide +kernel
theorem dX5_total_62 : decode cX5_total 62 = .ok (.getfield 121, 3) := by decide +kernel
theorem dX5_total_65 : decode cX5_total 65 = .ok (.lreturn, 1) := by decide +kernel
theorem dX5_total_66 : decode cX5_total 66 = .ok (.aload_n 3, 1) := by decide +kernel
theorem dX5_total_67 : decode cX5_total 67 = .ok (.getfield 124, 3) := by decide +kernel
theorem dX5_total_70 : decode cX5_total 70 = .ok (.lreturn, 1) := by decide +kernel
theorem dX5_total_71 : decode cX5_total 71 = .ok (.aload_n 3, 1) := by decide +kernel
theorem dX5_total_72 : decode cX5_total 72 = .ok (.getfield 114, 3) := by decide +kernel
theorem dX5_total_75 : decode cX5_total 75 = .ok (.bipush 9, 2) := by decide +kernel
theorem dX5_total_77 : decode cX5_total 77 = .ok (.laload, 1) := by decide +kernel
theorem dX5_total_78 : decode cX5_total 78 = .ok (.lreturn, 1) := by decide +kernel
theorem dX5_total_79 : decode cX5_total 79 = .ok (.aload_n 3, 1) := by decide +kernel
theorem dX5_total_80 : decode cX5_total 80 = .ok (.invokevirtual 127, 3) := by decide +kernel
theorem dX5_total_83 : decode cX5_total 83 = .ok (.lreturn, 1) := by decide +kernel
theorem dX5_total_84 : decode cX5_total 84 = .ok (.ldc2_w 112, 3) := by decide +kernel
theorem dX5_total_87 : decode cX5_total 87 = .ok (.lreturn, 1) := by decide +kernel
theorem dX5_hour_0 : decode cX5_hour 0 = .ok (.iload_n 1, 1) := by decide +kernel
theorem dX5_hour_1 : decode cX5_hour 1 = .ok (.iconst 4, 1) := by decide +kernel
theorem dX5_hour_2 : decode cX5_hour 2 = .ok (.invokestatic 48, 3) := by decide +kernel
theorem dX5_hour_5 : decode cX5_hour 5 = .ok (.ifCond .eq 28, 3) := by decide +kernel
theorem dX5_hour_8 : decode cX5_hour 8 = .ok (.iload_n 2, 1) := by decide +kernel
theorem dX5_hour_9 : decode cX5_hour 9 = .ok (.aload_n 0, 1) := by decide +kernel
theorem dX5_hour_10 : decode cX5_hour 10 = .ok (.getfield 30, 3) := by decide +kernel
theorem dX5_hour_13 : decode cX5_hour 13 = .ok (.iload_n 1, 1) := by decide +kernel
theorem dX5_hour_14 : decode cX5_hour 14 = .ok (.aaload, 1) := by decide +kernel
theorem dX5_hour_15 : decode cX5_hour 15 = .ok (.getfield 130, 3) := by decide +kernel
theorem dX5_hour_18 : decode cX5_hour 18 = .ok (.invokestatic 48, 3) := by decide +kernel
theorem dX5_hour_21 : decode cX5_hour 21 = .ok (.ifCond .eq 12, 3) := by decide +kernel
theorem dX5_hour_24 : decode cX5_hour 24 = .ok (.iload_n 3, 1) := by decide +kernel
theorem dX5_hour_25 : decode cX5_hour 25 = .ok (.ifCond .lt 8, 3) := by decide +kernel
theorem dX5_hour_28 : decode cX5_hour 28 = .ok (.iload_n 3, 1) := by decide +kernel
theorem dX5_hour_29 : decode cX5_hour 29 = .ok (.iconst 3, 1) := by decide +kernel
theorem dX5_hour_30 : decode cX5_hour 30 = .ok (.if_icmp .le 7, 3) := by decide +kernel
theorem dX5_hour_33 : decode cX5_hour 33 = .ok (.ldc2_w 112, 3) := by decide +kernel
theorem dX5_hour_36 : decode cX5_hour 36 = .ok (.lreturn, 1) := by decide +kernel
theorem dX5_hour_37 : decode cX5_hour 37 = .ok (.aload_n 0, 1) := by decide +kernel
theorem dX5_hour_38 : decode cX5_hour 38 = .ok (.getfield 30, 3) := by decide +kernel
theorem dX5_hour_41 : decode cX5_hour 41 = .ok (.iload_n 1, 1) := by decide +kernel
theorem dX5_hour_42 : decode cX5_hour 42 = .ok (.aaload, 1) := by decide +kernel
theorem dX5_hour_43 : decode cX5_hour 43 = .ok (.astore 4, 2) := by decide +kernel
theorem dX5_hour_45 : decode cX5_hour 45 = .ok (.aload 4, 2) := by decide +kernel
theorem dX5_hour_47 : decode cX5_hour 47 = .ok (.iload_n 2, 1) := by decide +kernel
theorem dX5_hour_48 : decode cX5_hour 48 = .ok (.invokevirtual 133, 3) := by decide +kernel
theorem dX5_hour_51 : decode cX5_hour 51 = .ok (.istore 5, 2) := by decide +kernel
theorem dX5_hour_53 : decode cX5_hour 53 = .ok (.aload 4, 2) := by decide +kernel
theorem dX5_hour_55 : decode cX5_hour 55 = .ok (.getfield 136, 3) := by decide +kernel
theorem dX5_hour_58 : decode cX5_hour 58 = .ok (.iload 5, 2) := by decide +kernel
theorem dX5_hour_60 : decode cX5_hour 60 = .ok (.baload, 1) := by decide +kernel
theorem dX5_hour_61 : decode cX5_hour 61 = .ok (.ifCond .eq 7, 3) := by decide +kernel
theorem dX5_hour_64 : decode cX5_hour 64 = .ok (.ldc2_w 140, 3) := by decide +kernel
theorem dX5_hour_67 : decode cX5_hour 67 = .ok (.lreturn, 1) := by decide +kernel
theorem dX5_hour_68 : decode cX5_hour 68 = .ok (.iload_n 3, 1) := by decide +kernel
theorem dX5_hour_69 : decode cX5_hour 69 = .ok (.iconst 3, 1) := by decide +kernel
theorem dX5_hour_70 : decode cX5_hour 70 = .ok (.if_icmp .ne 14, 3) := by decide +kernel
theorem dX5_hour_73 : decode cX5_hour 73 = .ok (.aload 4, 2) := by decide +kernel
theorem dX5_hour_75 : decode cX5_hour 75 = .ok (.getfield 142, 3) := by decide +kernel
theorem dX5_hour_78 : decode cX5_hour 78 = .ok (.iload 5, 2) := by decide +kernel
theorem dX5_hour_80 : decode cX5_hour 80 = .ok (.laload, 1) := by decide +kernel
theorem dX5_hour_81 : decode cX5_hour 81 = .ok (.goto 13, 3) := by decide +kernel
theorem dX5_hour_84 : decode cX5_hour 84 = .ok (.aload 4, 2) := by decide +kernel
theorem dX5_hour_86 : decode cX5_hour 86 = .ok (.getfield 145, 3) := by decide +kernel
theorem dX5_hour_89 : decode cX5_hour 89 = .ok (.iload_n 3, 1) := by decide +kernel
theorem dX5_hour_90 : decode cX5_hour 90 = .ok (.aaload, 1) := by decide +kernel
theorem dX5_hour_91 : decode cX5_hour 91 = .ok (.iload 5, 2) := by decide +kernel
theorem dX5_hour_93 : decode cX5_hour 93 = .ok (.laload, 1) := by decide +kernel
theorem dX5_hour_94 : decode cX5_hour 94 = .ok (.lreturn, 1) := by decide +kernel
theorem dX5_kept_0 : decode cX5_kept 0 = .ok (.iload_n 1, 1) := by decide +kernel
theorem dX5_kept_1 : decode cX5_kept 1 = .ok (.iconst 4, 1) := by decide +kernel
theorem dX5_kept_2 : decode cX5_kept 2 = .ok (.invokestatic 48, 3) := by decide +kernel
theorem dX5_kept_5 : decode cX5_kept 5 = .ok (.ifCond .eq 12, 3) := by decide +kernel
theorem dX5_kept_8 : decode cX5_kept 8 = .ok (.iload_n 2, 1) := by decide +kernel
theorem dX5_kept_9 : decode cX5_kept 9 = .ok (.ifCond .lt 8, 3) := by decide +kernel
theorem dX5_kept_12 : decode cX5_kept 12 = .ok (.iload_n 2, 1) := by decide +kernel
theorem dX5_kept_13 : decode cX5_kept 13 = .ok (.iconst 1, 1) := by decide +kernel
theorem dX5_kept_14 : decode cX5_kept 14 = .ok (.if_icmp .le 5, 3) := by decide +kernel
theorem dX5_kept_17 : decode cX5_kept 17 = .ok (.iconst (-1), 1) := by decide +kernel
theorem dX5_kept_18 : decode cX5_kept 18 = .ok (.ireturn, 1) := by decide +kernel
theorem dX5_kept_19 : decode cX5_kept 19 = .ok (.iload_n 2, 1) := by decide +kernel
theorem dX5_kept_20 : decode cX5_kept 20 = .ok (.ifCond .ne 15, 3) := by decide +kernel
theorem dX5_kept_23 : decode cX5_kept 23 = .ok (.aload_n 0, 1) := by decide +kernel
theorem dX5_kept_24 : decode cX5_kept 24 = .ok (.getfield 30, 3) := by decide +kernel
theorem dX5_kept_27 : decode cX5_kept 27 = .ok (.iload_n 1, 1) := by decide +kernel
theorem dX5_kept_28 : decode cX5_kept 28 = .ok (.aaload, 1) := by decide +kernel
theorem dX5_kept_29 : decode cX5_kept 29 = .ok (.getfield 130, 3) := by decide +kernel
theorem dX5_kept_32 : decode cX5_kept 32 = .ok (.goto 12, 3) := by decide +kernel
theorem dX5_kept_35 : decode cX5_kept 35 = .ok (.aload_n 0, 1) := by decide +kernel
theorem dX5_kept_36 : decode cX5_kept 36 = .ok (.getfield 30, 3) := by decide +kernel
theorem dX5_kept_39 : decode cX5_kept 39 = .ok (.iload_n 1, 1) := by decide +kernel
theorem dX5_kept_40 : decode cX5_kept 40 = .ok (.aaload, 1) := by decide +kernel
theorem dX5_kept_41 : decode cX5_kept 41 = .ok (.invokevirtual 149, 3) := by decide +kernel
theorem dX5_kept_44 : decode cX5_kept 44 = .ok (.ireturn, 1) := by decide +kernel
theorem dX5_mean_0 : decode cX5_mean 0 = .ok (.iload_n 1, 1) := by decide +kernel
theorem dX5_mean_1 : decode cX5_mean 1 = .ok (.iconst 4, 1) := by decide +kernel
theorem dX5_mean_2 : decode cX5_mean 2 = .ok (.invokestatic 48, 3) := by decide +kernel
theorem dX5_mean_5 : decode cX5_mean 5 = .ok (.ifCond .eq 15, 3) := by decide +kernel
theorem dX5_mean_8 : decode cX5_mean 8 = .ok (.aload_n 0, 1) := by decide +kernel
theorem dX5_mean_9 : decode cX5_mean 9 = .ok (.getfield 30, 3) := by decide +kernel
theorem dX5_mean_12 : decode cX5_mean 12 = .ok (.iload_n 1, 1) := by decide +kernel
theorem dX5_mean_13 : decode cX5_mean 13 = .ok (.aaload, 1) := by decide +kernel
theorem dX5_mean_14 : decode cX5_mean 14 = .ok (.invokevirtual 153, 3) := by decide +kernel
theorem dX5_mean_17 : decode cX5_mean 17 = .ok (.goto 6, 3) := by decide +kernel
theorem dX5_mean_20 : decode cX5_mean 20 = .ok (.ldc2_w 112, 3) := by decide +kernel
theorem dX5_mean_23 : decode cX5_mean 23 = .ok (.lreturn, 1) := by decide +kernel
theorem dX5_rank_0 : decode cX5_rank 0 = .ok (.iload_n 1, 1) := by decide +kernel
theorem dX5_rank_1 : decode cX5_rank 1 = .ok (.iconst 4, 1) := by decide +kernel
theorem dX5_rank_2 : decode cX5_rank 2 = .ok (.invokestatic 48, 3) := by decide +kernel
theorem dX5_rank_5 : decode cX5_rank 5 = .ok (.ifCond .eq 21, 3) := by decide +kernel
theorem dX5_rank_8 : decode cX5_rank 8 = .ok (.iload_n 2, 1) := by decide +kernel
theorem dX5_rank_9 : decode cX5_rank 9 = .ok (.iconst 1, 1) := by decide +kernel
theorem dX5_rank_10 : decode cX5_rank 10 = .ok (.if_icmp .lt 16, 3) := by decide +kernel
theorem dX5_rank_13 : decode cX5_rank 13 = .ok (.aload_n 0, 1) := by decide +kernel
theorem dX5_rank_14 : decode cX5_rank 14 = .ok (.getfield 30, 3) := by decide +kernel
theorem dX5_rank_17 : decode cX5_rank 17 = .ok (.iload_n 1, 1) := by decide +kernel
theorem dX5_rank_18 : decode cX5_rank 18 = .ok (.aaload, 1) := by decide +kernel
theorem dX5_rank_19 : decode cX5_rank 19 = .ok (.iload_n 2, 1) := by decide +kernel
theorem dX5_rank_20 : decode cX5_rank 20 = .ok (.invokevirtual 156, 3) := by decide +kernel
theorem dX5_rank_23 : decode cX5_rank 23 = .ok (.goto 6, 3) := by decide +kernel
theorem dX5_rank_26 : decode cX5_rank 26 = .ok (.ldc2_w 112, 3) := by decide +kernel
theorem dX5_rank_29 : decode cX5_rank 29 = .ok (.lreturn, 1) := by decide +kernel
theorem dX5_rolling_0 : decode cX5_rolling 0 = .ok (.iload_n 1, 1) := by decide +kernel
theorem dX5_rolling_1 : decode cX5_rolling 1 = .ok (.iconst 4, 1) := by decide +kernel
theorem dX5_rolling_2 : decode cX5_rolling 2 = .ok (.invokestatic 48, 3) := by decide +kernel
theorem dX5_rolling_5 : decode cX5_rolling 5 = .ok (.ifCond .eq 27, 3) := by decide +kernel
theorem dX5_rolling_8 : decode cX5_rolling 8 = .ok (.iload_n 2, 1) := by decide +kernel
theorem dX5_rolling_9 : decode cX5_rolling 9 = .ok (.iconst 1, 1) := by decide +kernel
theorem dX5_rolling_10 : decode cX5_rolling 10 = .ok (.if_icmp .lt 22, 3) := by decide +kernel
theorem dX5_rolling_13 : decode cX5_rolling 13 = .ok (.iload_n 2, 1) := by decide +kernel
theorem dX5_rolling_14 : decode cX5_rolling 14 = .ok (.bipush 24, 2) := by decide +kernel
theorem dX5_rolling_16 : decode cX5_rolling 16 = .ok (.if_icmp .gt 16, 3) := by decide +kernel
theorem dX5_rolling_19 : decode cX5_rolling 19 = .ok (.aload_n 0, 1) := by decide +kernel
theorem dX5_rolling_20 : decode cX5_rolling 20 = .ok (.getfield 30, 3) := by decide +kernel
theorem dX5_rolling_23 : decode cX5_rolling 23 = .ok (.iload_n 1, 1) := by decide +kernel
theorem dX5_rolling_24 : decode cX5_rolling 24 = .ok (.aaload, 1) := by decide +kernel
theorem dX5_rolling_25 : decode cX5_rolling 25 = .ok (.iload_n 2, 1) := by decide +kernel
theorem dX5_rolling_26 : decode cX5_rolling 26 = .ok (.invokevirtual 160, 3) := by decide +kernel
theorem dX5_rolling_29 : decode cX5_rolling 29 = .ok (.goto 6, 3) := by decide +kernel
theorem dX5_rolling_32 : decode cX5_rolling 32 = .ok (.ldc2_w 112, 3) := by decide +kernel
theorem dX5_rolling_35 : decode cX5_rolling 35 = .ok (.lreturn, 1) := by decide +kernel
theorem dX5_watch_0 : decode cX5_watch 0 = .ok (.iload_n 1, 1) := by decide +kernel
theorem dX5_watch_1 : decode cX5_watch 1 = .ok (.iconst 4, 1) := by decide +kernel
theorem dX5_watch_2 : decode cX5_watch 2 = .ok (.invokestatic 48, 3) := by decide +kernel
theorem dX5_watch_5 : decode cX5_watch 5 = .ok (.ifCond .ne 5, 3) := by decide +kernel
theorem dX5_watch_8 : decode cX5_watch 8 = .ok (.iconst (-1), 1) := by decide +kernel
theorem dX5_watch_9 : decode cX5_watch 9 = .ok (.ireturn, 1) := by decide +kernel
theorem dX5_watch_10 : decode cX5_watch 10 = .ok (.aload_n 0, 1) := by decide +kernel
theorem dX5_watch_11 : decode cX5_watch 11 = .ok (.getfield 30, 3) := by decide +kernel
theorem dX5_watch_14 : decode cX5_watch 14 = .ok (.iload_n 1, 1) := by decide +kernel
theorem dX5_watch_15 : decode cX5_watch 15 = .ok (.aaload, 1) := by decide +kernel
theorem dX5_watch_16 : decode cX5_watch 16 = .ok (.iload_n 2, 1) := by decide +kernel
theorem dX5_watch_17 : decode cX5_watch 17 = .ok (.putfield 163, 3) := by decide +kernel
theorem dX5_watch_20 : decode cX5_watch 20 = .ok (.iconst 0, 1) := by decide +kernel
theorem dX5_watch_21 : decode cX5_watch 21 = .ok (.istore_n 3, 1) := by decide +kernel
theorem dX5_watch_22 : decode cX5_watch 22 = .ok (.iconst 0, 1) := by decide +kernel
theorem dX5_watch_23 : decode cX5_watch 23 = .ok (.istore 4, 2) := by decide +kernel
theorem dX5_watch_25 : decode cX5_watch 25 = .ok (.iload 4, 2) := by decide +kernel
theorem dX5_watch_27 : decode cX5_watch 27 = .ok (.iconst 4, 1) := by decide +kernel
theorem dX5_watch_28 : decode cX5_watch 28 = .ok (.if_icmp .ge 30, 3) := by decide +kernel
theorem dX5_watch_31 : decode cX5_watch 31 = .ok (.iload_n 3, 1) := by decide +kernel
theorem dX5_watch_32 : decode cX5_watch 32 = .ok (.aload_n 0, 1) := by decide +kernel
theorem dX5_watch_33 : decode cX5_watch 33 = .ok (.getfield 30, 3) := by decide +kernel
theorem dX5_watch_36 : decode cX5_watch 36 = .ok (.iload 4, 2) := by decide +kernel
theorem dX5_watch_38 : decode cX5_watch 38 = .ok (.aaload, 1) := by decide +kernel
theorem dX5_watch_39 : decode cX5_watch 39 = .ok (.getfield 163, 3) := by decide +kernel
theorem dX5_watch_42 : decode cX5_watch 42 = .ok (.ifCond .eq 7, 3) := by decide +kernel
theorem dX5_watch_45 : decode cX5_watch 45 = .ok (.iconst 1, 1) := by decide +kernel
theorem dX5_watch_46 : decode cX5_watch 46 = .ok (.goto 4, 3) := by decide +kernel
theorem dX5_watch_49 : decode cX5_watch 49 = .ok (.iconst 0, 1) := by decide +kernel
theorem dX5_watch_50 : decode cX5_watch 50 = .ok (.iadd, 1) := by decide +kernel
theorem dX5_watch_51 : decode cX5_watch 51 = .ok (.istore_n 3, 1) := by decide +kernel
theorem dX5_watch_52 : decode cX5_watch 52 = .ok (.iinc 4 1, 3) := by decide +kernel
theorem dX5_watch_55 : decode cX5_watch 55 = .ok (.goto (-30), 3) := by decide +kernel
theorem dX5_watch_58 : decode cX5_watch 58 = .ok (.iload_n 3, 1) := by decide +kernel
theorem dX5_watch_59 : decode cX5_watch 59 = .ok (.ireturn, 1) := by decide +kernel
theorem dX5_law_0 : decode cX5_law 0 = .ok (.iload_n 1, 1) := by decide +kernel
theorem dX5_law_1 : decode cX5_law 1 = .ok (.ifCond .lt 19, 3) := by decide +kernel
theorem dX5_law_4 : decode cX5_law 4 = .ok (.iload_n 1, 1) := by decide +kernel
theorem dX5_law_5 : decode cX5_law 5 = .ok (.ldc 166, 2) := by decide +kernel
theorem dX5_law_7 : decode cX5_law 7 = .ok (.if_icmp .gt 13, 3) := by decide +kernel
theorem dX5_law_10 : decode cX5_law 10 = .ok (.iload_n 2, 1) := by decide +kernel
theorem dX5_law_11 : decode cX5_law 11 = .ok (.ifCond .lt 9, 3) := by decide +kernel
theorem dX5_law_14 : decode cX5_law 14 = .ok (.iload_n 2, 1) := by decide +kernel
theorem dX5_law_15 : decode cX5_law 15 = .ok (.bipush 100, 2) := by decide +kernel
theorem dX5_law_17 : decode cX5_law 17 = .ok (.if_icmp .le 5, 3) := by decide +kernel
theorem dX5_law_20 : decode cX5_law 20 = .ok (.iconst (-1), 1) := by decide +kernel
theorem dX5_law_21 : decode cX5_law 21 = .ok (.ireturn, 1) := by decide +kernel
theorem dX5_law_22 : decode cX5_law 22 = .ok (.aload_n 0, 1) := by decide +kernel
theorem dX5_law_23 : decode cX5_law 23 = .ok (.getfield 37, 3) := by decide +kernel
theorem dX5_law_26 : decode cX5_law 26 = .ok (.iload_n 1, 1) := by decide +kernel
theorem dX5_law_27 : decode cX5_law 27 = .ok (.putfield 167, 3) := by decide +kernel
theorem dX5_law_30 : decode cX5_law 30 = .ok (.aload_n 0, 1) := by decide +kernel
theorem dX5_law_31 : decode cX5_law 31 = .ok (.getfield 37, 3) := by decide +kernel
theorem dX5_law_34 : decode cX5_law 34 = .ok (.iload_n 2, 1) := by decide +kernel
theorem dX5_law_35 : decode cX5_law 35 = .ok (.putfield 170, 3) := by decide +kernel
theorem dX5_law_38 : decode cX5_law 38 = .ok (.aload_n 0, 1) := by decide +kernel
theorem dX5_law_39 : decode cX5_law 39 = .ok (.getfield 37, 3) := by decide +kernel
theorem dX5_law_42 : decode cX5_law 42 = .ok (.aload_n 0, 1) := by decide +kernel
theorem dX5_law_43 : decode cX5_law 43 = .ok (.getfield 30, 3) := by decide +kernel
theorem dX5_law_46 : decode cX5_law 46 = .ok (.invokevirtual 173, 3) := by decide +kernel
theorem dX5_law_49 : decode cX5_law 49 = .ok (.ireturn, 1) := by decide +kernel
theorem dX5_price_0 : decode cX5_price 0 = .ok (.iload_n 1, 1) := by decide +kernel
theorem dX5_price_1 : decode cX5_price 1 = .ok (.iconst 3, 1) := by decide +kernel
theorem dX5_price_2 : decode cX5_price 2 = .ok (.invokestatic 48, 3) := by decide +kernel
theorem dX5_price_5 : decode cX5_price 5 = .ok (.ifCond .eq 14, 3) := by decide +kernel
theorem dX5_price_8 : decode cX5_price 8 = .ok (.iload_n 2, 1) := by decide +kernel
theorem dX5_price_9 : decode cX5_price 9 = .ok (.ifCond .lt 10, 3) := by decide +kernel
theorem dX5_price_12 : decode cX5_price 12 = .ok (.iload_n 2, 1) := by decide +kernel
theorem dX5_price_13 : decode cX5_price 13 = .ok (.sipush 1000, 3) := by decide +kernel
theorem dX5_price_16 : decode cX5_price 16 = .ok (.if_icmp .le 5, 3) := by decide +kernel
theorem dX5_price_19 : decode cX5_price 19 = .ok (.iconst (-1), 1) := by decide +kernel
theorem dX5_price_20 : decode cX5_price 20 = .ok (.ireturn, 1) := by decide +kernel
theorem dX5_price_21 : decode cX5_price 21 = .ok (.aload_n 0, 1) := by decide +kernel
theorem dX5_price_22 : decode cX5_price 22 = .ok (.getfield 37, 3) := by decide +kernel
theorem dX5_price_25 : decode cX5_price 25 = .ok (.getfield 177, 3) := by decide +kernel
theorem dX5_price_28 : decode cX5_price 28 = .ok (.iload_n 1, 1) := by decide +kernel
theorem dX5_price_29 : decode cX5_price 29 = .ok (.iaload, 1) := by decide +kernel
theorem dX5_price_30 : decode cX5_price 30 = .ok (.istore_n 3, 1) := by decide +kernel
theorem dX5_price_31 : decode cX5_price 31 = .ok (.aload_n 0, 1) := by decide +kernel
theorem dX5_price_32 : decode cX5_price 32 = .ok (.getfield 37, 3) := by decide +kernel
theorem dX5_price_35 : decode cX5_price 35 = .ok (.getfield 177, 3) := by decide +kernel
theorem dX5_price_38 : decode cX5_price 38 = .ok (.iload_n 1, 1) := by decide +kernel
theorem dX5_price_39 : decode cX5_price 39 = .ok (.iload_n 2, 1) := by decide +kernel
theorem dX5_price_40 : decode cX5_price 40 = .ok (.iastore, 1) := by decide +kernel
theorem dX5_price_41 : decode cX5_price 41 = .ok (.iload_n 3, 1) := by decide +kernel
theorem dX5_price_42 : decode cX5_price 42 = .ok (.ireturn, 1) := by decide +kernel
theorem dX5_cheapest_0 : decode cX5_cheapest 0 = .ok (.iload_n 1, 1) := by decide +kernel
theorem dX5_cheapest_1 : decode cX5_cheapest 1 = .ok (.ifCond .lt 8, 3) := by decide +kernel
theorem dX5_cheapest_4 : decode cX5_cheapest 4 = .ok (.iload_n 1, 1) := by decide +kernel
theorem dX5_cheapest_5 : decode cX5_cheapest 5 = .ok (.iconst 3, 1) := by decide +kernel
theorem dX5_cheapest_6 : decode cX5_cheapest 6 = .ok (.if_icmp .le 5, 3) := by decide +kernel
theorem dX5_cheapest_9 : decode cX5_cheapest 9 = .ok (.iconst (-1), 1) := by decide +kernel
theorem dX5_cheapest_10 : decode cX5_cheapest 10 = .ok (.ireturn, 1) := by decide +kernel
theorem dX5_cheapest_11 : decode cX5_cheapest 11 = .ok (.aload_n 0, 1) := by decide +kernel
theorem dX5_cheapest_12 : decode cX5_cheapest 12 = .ok (.getfield 37, 3) := by decide +kernel
theorem dX5_cheapest_15 : decode cX5_cheapest 15 = .ok (.aload_n 0, 1) := by decide +kernel
theorem dX5_cheapest_16 : decode cX5_cheapest 16 = .ok (.getfield 30, 3) := by decide +kernel
theorem dX5_cheapest_19 : decode cX5_cheapest 19 = .ok (.invokevirtual 180, 3) := by decide +kernel
theorem dX5_cheapest_22 : decode cX5_cheapest 22 = .ok (.iload_n 1, 1) := by decide +kernel
theorem dX5_cheapest_23 : decode cX5_cheapest 23 = .ok (.iconst 3, 1) := by decide +kernel
theorem dX5_cheapest_24 : decode cX5_cheapest 24 = .ok (.if_icmp .ne 13, 3) := by decide +kernel
theorem dX5_cheapest_27 : decode cX5_cheapest 27 = .ok (.aload_n 0, 1) := by decide +kernel
theorem dX5_cheapest_28 : decode cX5_cheapest 28 = .ok (.getfield 37, 3) := by decide +kernel
theorem dX5_cheapest_31 : decode cX5_cheapest 31 = .ok (.getfield 184, 3) := by decide +kernel
theorem dX5_cheapest_34 : decode cX5_cheapest 34 = .ok (.goto 12, 3) := by decide +kernel
theorem dX5_cheapest_37 : decode cX5_cheapest 37 = .ok (.aload_n 0, 1) := by decide +kernel
theorem dX5_cheapest_38 : decode cX5_cheapest 38 = .ok (.getfield 37, 3) := by decide +kernel
theorem dX5_cheapest_41 : decode cX5_cheapest 41 = .ok (.getfield 187, 3) := by decide +kernel
theorem dX5_cheapest_44 : decode cX5_cheapest 44 = .ok (.iload_n 1, 1) := by decide +kernel
theorem dX5_cheapest_45 : decode cX5_cheapest 45 = .ok (.iaload, 1) := by decide +kernel
theorem dX5_cheapest_46 : decode cX5_cheapest 46 = .ok (.ireturn, 1) := by decide +kernel
theorem dX5_isBelow_0 : decode cX5_isBelow 0 = .ok (.iload_n 0, 1) := by decide +kernel
theorem dX5_isBelow_1 : decode cX5_isBelow 1 = .ok (.ifCond .lt 12, 3) := by decide +kernel
theorem dX5_isBelow_4 : decode cX5_isBelow 4 = .ok (.iload_n 0, 1) := by decide +kernel
theorem dX5_isBelow_5 : decode cX5_isBelow 5 = .ok (.iload_n 1, 1) := by decide +kernel
theorem dX5_isBelow_6 : decode cX5_isBelow 6 = .ok (.if_icmp .ge 7, 3) := by decide +kernel
theorem dX5_isBelow_9 : decode cX5_isBelow 9 = .ok (.iconst 1, 1) := by decide +kernel
theorem dX5_isBelow_10 : decode cX5_isBelow 10 = .ok (.goto 4, 3) := by decide +kernel
theorem dX5_isBelow_13 : decode cX5_isBelow 13 = .ok (.iconst 0, 1) := by decide +kernel
theorem dX5_isBelow_14 : decode cX5_isBelow 14 = .ok (.ireturn, 1) := by decide +kernel
theorem dX5_isLane_0 : decode cX5_isLane 0 = .ok (.iload_n 0, 1) := by decide +kernel
theorem dX5_isLane_1 : decode cX5_isLane 1 = .ok (.ifCond .eq 8, 3) := by decide +kernel
theorem dX5_isLane_4 : decode cX5_isLane 4 = .ok (.iload_n 0, 1) := by decide +kernel
theorem dX5_isLane_5 : decode cX5_isLane 5 = .ok (.iconst 1, 1) := by decide +kernel
theorem dX5_isLane_6 : decode cX5_isLane 6 = .ok (.if_icmp .ne 7, 3) := by decide +kernel
theorem dX5_isLane_9 : decode cX5_isLane 9 = .ok (.iconst 1, 1) := by decide +kernel
theorem dX5_isLane_10 : decode cX5_isLane 10 = .ok (.goto 4, 3) := by decide +kernel
theorem dX5_isLane_13 : decode cX5_isLane 13 = .ok (.iconst 0, 1) := by decide +kernel
theorem dX5_isLane_14 : decode cX5_isLane 14 = .ok (.ireturn, 1) := by decide +kernel
theorem dX5_passHour_0 : decode cX5_passHour 0 = .ok (.aload_n 0, 1) := by decide +kernel
theorem dX5_passHour_1 : decode cX5_passHour 1 = .ok (.getfield 41, 3) := by decide +kernel
theorem dX5_passHour_4 : decode cX5_passHour 4 = .ok (.bipush 24, 2) := by decide +kernel
theorem dX5_passHour_6 : decode cX5_passHour 6 = .ok (.invokestatic 190, 3) := by decide +kernel
theorem dX5_passHour_9 : decode cX5_passHour 9 = .ok (.istore_n 2, 1) := by decide +kernel
theorem dX5_passHour_10 : decode cX5_passHour 10 = .ok (.iconst 0, 1) := by decide +kernel
theorem dX5_passHour_11 : decode cX5_passHour 11 = .ok (.istore_n 3, 1) := by decide +kernel
theorem dX5_passHour_12 : decode cX5_passHour 12 = .ok (.iload_n 3, 1) := by decide +kernel
theorem dX5_passHour_13 : decode cX5_passHour 13 = .ok (.iconst 3, 1) := by decide +kernel
theorem dX5_passHour_14 : decode cX5_passHour 14 = .ok (.if_icmp .ge 45, 3) := by decide +kernel
theorem dX5_passHour_17 : decode cX5_passHour 17 = .ok (.aload_n 0, 1) := by decide +kernel
theorem dX5_passHour_18 : decode cX5_passHour 18 = .ok (.getfield 24, 3) := by decide +kernel
theorem dX5_passHour_21 : decode cX5_passHour 21 = .ok (.iload_n 3, 1) := by decide +kernel
theorem dX5_passHour_22 : decode cX5_passHour 22 = .ok (.aaload, 1) := by decide +kernel
theorem dX5_passHour_23 : decode cX5_passHour 23 = .ok (.iload_n 2, 1) := by decide +kernel
theorem dX5_passHour_24 : decode cX5_passHour 24 = .ok (.invokevirtual 196, 3) := by decide +kernel
theorem dX5_passHour_27 : decode cX5_passHour 27 = .ok (.aload_n 0, 1) := by decide +kernel
theorem dX5_passHour_28 : decode cX5_passHour 28 = .ok (.getfield 24, 3) := by decide +kernel
theorem dX5_passHour_31 : decode cX5_passHour 31 = .ok (.iload_n 3, 1) := by decide +kernel
theorem dX5_passHour_32 : decode cX5_passHour 32 = .ok (.aaload, 1) := by decide +kernel
theorem dX5_passHour_33 : decode cX5_passHour 33 = .ok (.iload_n 1, 1) := by decide +kernel
theorem dX5_passHour_34 : decode cX5_passHour 34 = .ok (.invokevirtual 199, 3) := by decide +kernel
theorem dX5_passHour_37 : decode cX5_passHour 37 = .ok (.aload_n 0, 1) := by decide +kernel
theorem dX5_passHour_38 : decode cX5_passHour 38 = .ok (.getfield 24, 3) := by decide +kernel
theorem dX5_passHour_41 : decode cX5_passHour 41 = .ok (.iload_n 3, 1) := by decide +kernel
theorem dX5_passHour_42 : decode cX5_passHour 42 = .ok (.aaload, 1) := by decide +kernel
theorem dX5_passHour_43 : decode cX5_passHour 43 = .ok (.aload_n 0, 1) := by decide +kernel
theorem dX5_passHour_44 : decode cX5_passHour 44 = .ok (.getfield 12, 3) := by decide +kernel
theorem dX5_passHour_47 : decode cX5_passHour 47 = .ok (.getfield 63, 3) := by decide +kernel
theorem dX5_passHour_50 : decode cX5_passHour 50 = .ok (.invokevirtual 202, 3) := by decide +kernel
theorem dX5_passHour_53 : decode cX5_passHour 53 = .ok (.iinc 3 1, 3) := by decide +kernel
theorem dX5_passHour_56 : decode cX5_passHour 56 = .ok (.goto (-44), 3) := by decide +kernel
theorem dX5_passHour_59 : decode cX5_passHour 59 = .ok (.aload_n 0, 1) := by decide +kernel
theorem dX5_passHour_60 : decode cX5_passHour 60 = .ok (.dup, 1) := by decide +kernel
theorem dX5_passHour_61 : decode cX5_passHour 61 = .ok (.getfield 41, 3) := by decide +kernel
theorem dX5_passHour_64 : decode cX5_passHour 64 = .ok (.iconst 1, 1) := by decide +kernel
theorem dX5_passHour_65 : decode cX5_passHour 65 = .ok (.iadd, 1) := by decide +kernel
theorem dX5_passHour_66 : decode cX5_passHour 66 = .ok (.putfield 41, 3) := by decide +kernel
theorem dX5_passHour_69 : decode cX5_passHour 69 = .ok (.iconst 0, 1) := by decide +kernel
theorem dX5_passHour_70 : decode cX5_passHour 70 = .ok (.istore_n 3, 1) := by decide +kernel
theorem dX5_passHour_71 : decode cX5_passHour 71 = .ok (.iload_n 3, 1) := by decide +kernel
theorem dX5_passHour_72 : decode cX5_passHour 72 = .ok (.iconst 4, 1) := by decide +kernel
theorem dX5_passHour_73 : decode cX5_passHour 73 = .ok (.if_icmp .ge 22, 3) := by decide +kernel
theorem dX5_passHour_76 : decode cX5_passHour 76 = .ok (.aload_n 0, 1) := by decide +kernel
theorem dX5_passHour_77 : decode cX5_passHour 77 = .ok (.getfield 30, 3) := by decide +kernel
theorem dX5_passHour_80 : decode cX5_passHour 80 = .ok (.iload_n 3, 1) := by decide +kernel
theorem dX5_passHour_81 : decode cX5_passHour 81 = .ok (.aaload, 1) := by decide +kernel
theorem dX5_passHour_82 : decode cX5_passHour 82 = .ok (.aload_n 0, 1) := by decide +kernel
theorem dX5_passHour_83 : decode cX5_passHour 83 = .ok (.getfield 24, 3) := by decide +kernel
theorem dX5_passHour_86 : decode cX5_passHour 86 = .ok (.invokevirtual 206, 3) := by decide +kernel
theorem dX5_passHour_89 : decode cX5_passHour 89 = .ok (.iinc 3 1, 3) := by decide +kernel
theorem dX5_passHour_92 : decode cX5_passHour 92 = .ok (.goto (-21), 3) := by decide +kernel
theorem dX5_passHour_95 : decode cX5_passHour 95 = .ok (.return_, 1) := by decide +kernel
end
section
theorem dX6_in_0 : decode cX6_in 0 = .ok (.lload_n 0, 1) := by decide +kernel
theorem dX6_in_1 : decode cX6_in 1 = .ok (.lload_n 2, 1) := by decide +kernel
theorem dX6_in_2 : decode cX6_in 2 = .ok (.lcmp, 1) := by decide +kernel
theorem dX6_in_3 : decode cX6_in 3 = .ok (.ifCond .lt 14, 3) := by decide +kernel
theorem dX6_in_6 : decode cX6_in 6 = .ok (.lload_n 0, 1) := by decide +kernel
theorem dX6_in_7 : decode cX6_in 7 = .ok (.lload 4, 2) := by decide +kernel
theorem dX6_in_9 : decode cX6_in 9 = .ok (.lcmp, 1) := by decide +kernel
theorem dX6_in_10 : decode cX6_in 10 = .ok (.ifCond .gt 7, 3) := by decide +kernel
theorem dX6_in_13 : decode cX6_in 13 = .ok (.iconst 1, 1) := by decide +kernel
theorem dX6_in_14 : decode cX6_in 14 = .ok (.goto 4, 3) := by decide +kernel
theorem dX6_in_17 : decode cX6_in 17 = .ok (.iconst 0, 1) := by decide +kernel
theorem dX6_in_18 : decode cX6_in 18 = .ok (.ireturn, 1) := by decide +kernel
theorem dX6_init_0 : decode cX6_init 0 = .ok (.aload_n 0, 1) := by decide +kernel
theorem dX6_init_1 : decode cX6_init 1 = .ok (.invokespecial 1, 3) := by decide +kernel
theorem dX6_init_4 : decode cX6_init 4 = .ok (.aload_n 0, 1) := by decide +kernel
theorem dX6_init_5 : decode cX6_init 5 = .ok (.bipush 24, 2) := by decide +kernel
theorem dX6_init_7 : decode cX6_init 7 = .ok (.newarray .int, 2) := by decide +kernel
theorem dX6_init_9 : decode cX6_init 9 = .ok (.putfield 7, 3) := by decide +kernel
theorem dX6_init_12 : decode cX6_init 12 = .ok (.aload_n 0, 1) := by decide +kernel
theorem dX6_init_13 : decode cX6_init 13 = .ok (.bipush 90, 2) := by decide +kernel
theorem dX6_init_15 : decode cX6_init 15 = .ok (.newarray .long, 2) := by decide +kernel
theorem dX6_init_17 : decode cX6_init 17 = .ok (.putfield 13, 3) := by decide +kernel
theorem dX6_init_20 : decode cX6_init 20 = .ok (.aload_n 0, 1) := by decide +kernel
theorem dX6_init_21 : decode cX6_init 21 = .ok (.bipush 10, 2) := by decide +kernel
theorem dX6_init_23 : decode cX6_init 23 = .ok (.newarray .long, 2) := by decide +kernel
theorem dX6_init_25 : decode cX6_init 25 = .ok (.putfield 17, 3) := by decide +kernel
theorem dX6_init_28 : decode cX6_init 28 = .ok (.aload_n 0, 1) := by decide +kernel
theorem dX6_init_29 : decode cX6_init 29 = .ok (.iconst 4, 1) := by decide +kernel
theorem dX6_init_30 : decode cX6_init 30 = .ok (.newarray .int, 2) := by decide +kernel
theorem dX6_init_32 : decode cX6_init 32 = .ok (.putfield 20, 3) := by decide +kernel
theorem dX6_init_35 : decode cX6_init 35 = .ok (.aload_n 0, 1) := by decide +kernel
theorem dX6_init_36 : decode cX6_init 36 = .ok (.iconst 4, 1) := by decide +kernel
theorem dX6_init_37 : decode cX6_init 37 = .ok (.newarray .int, 2) := by decide +kernel
theorem dX6_init_39 : decode cX6_init 39 = .ok (.putfield 23, 3) := by decide +kernel
theorem dX6_init_42 : decode cX6_init 42 = .ok (.aload_n 0, 1) := by decide +kernel
theorem dX6_init_43 : decode cX6_init 43 = .ok (.bipush 96, 2) := by decide +kernel
theorem dX6_init_45 : decode cX6_init 45 = .ok (.newarray .int, 2) := by decide +kernel
theorem dX6_init_47 : decode cX6_init 47 = .ok (.putfield 26, 3) := by decide +kernel
theorem dX6_init_50 : decode cX6_init 50 = .ok (.aload_n 0, 1) := by decide +kernel
theorem dX6_init_51 : decode cX6_init 51 = .ok (.iconst 3, 1) := by decide +kernel
theorem dX6_init_52 : decode cX6_init 52 = .ok (.newarray .int, 2) := by decide +kernel
theorem dX6_init_54 : decode cX6_init 54 = .ok (.putfield 29, 3) := by decide +kernel
theorem dX6_init_57 : decode cX6_init 57 = .ok (.aload_n 0, 1) := by decide +kernel
theorem dX6_init_58 : decode cX6_init 58 = .ok (.bipush 72, 2) := by decide +kernel
theorem dX6_init_60 : decode cX6_init 60 = .ok (.newarray .int, 2) := by decide +kernel
theorem dX6_init_62 : decode cX6_init 62 = .ok (.putfield 32, 3) := by decide +kernel
theorem dX6_init_65 : decode cX6_init 65 = .ok (.aload_n 0, 1) := by decide +kernel
theorem dX6_init_66 : decode cX6_init 66 = .ok (.bipush 27, 2) := by decide +kernel
theorem dX6_init_68 : decode cX6_init 68 = .ok (.newarray .long, 2) := by decide +kernel
theorem dX6_init_70 : decode cX6_init 70 = .ok (.putfield 35, 3) := by decide +kernel
theorem dX6_init_73 : decode cX6_init 73 = .ok (.aload_n 0, 1) := by decide +kernel
theorem dX6_init_74 : decode cX6_init 74 = .ok (.bipush 12, 2) := by decide +kernel
theorem dX6_init_76 : decode cX6_init 76 = .ok (.newarray .long, 2) := by decide +kernel
theorem dX6_init_78 : decode cX6_init 78 = .ok (.putfield 38, 3) := by decide +kernel
theorem dX6_init_81 : decode cX6_init 81 = .ok (.aload_n 0, 1) := by decide +kernel
theorem dX6_init_82 : decode cX6_init 82 = .ok (.bipush 9, 2) := by decide +kernel
theorem dX6_init_84 : decode cX6_init 84 = .ok (.newarray .long, 2) := by decide +kernel
theorem dX6_init_86 : decode cX6_init 86 = .ok (.putfield 41, 3) := by decide +kernel
theorem dX6_init_89 : decode cX6_init 89 = .ok (.aload_n 0, 1) := by decide +kernel
theorem dX6_init_90 : decode cX6_init 90 = .ok (.iconst 4, 1) := by decide +kernel
theorem dX6_init_91 : decode cX6_init 91 = .ok (.newarray .int, 2) := by decide +kernel
theorem dX6_init_93 : decode cX6_init 93 = .ok (.putfield 44, 3) := by decide +kernel
theorem dX6_init_96 : decode cX6_init 96 = .ok (.aload_n 0, 1) := by decide +kernel
theorem dX6_init_97 : decode cX6_init 97 = .ok (.iconst 4, 1) := by decide +kernel
theorem dX6_init_98 : decode cX6_init 98 = .ok (.newarray .boolean, 2) := by decide +kernel
theorem dX6_init_100 : decode cX6_init 100 = .ok (.putfield 47, 3) := by decide +kernel
theorem dX6_init_103 : decode cX6_init 103 = .ok (.aload_n 0, 1) := by decide +kernel
theorem dX6_init_104 : decode cX6_init 104 = .ok (.iconst 4, 1) := by decide +kernel
theorem dX6_init_105 : decode cX6_init 105 = .ok (.newarray .boolean, 2) := by decide +kernel
theorem dX6_init_107 : decode cX6_init 107 = .ok (.putfield 51, 3) := by decide +kernel
theorem dX6_init_110 : decode cX6_init 110 = .ok (.aload_n 0, 1) := by decide +kernel
theorem dX6_init_111 : decode cX6_init 111 = .ok (.iconst 4, 1) := by decide +kernel
theorem dX6_init_112 : decode cX6_init 112 = .ok (.newarray .int, 2) := by decide +kernel
theorem dX6_init_114 : decode cX6_init 114 = .ok (.putfield 54, 3) := by decide +kernel
theorem dX6_init_117 : decode cX6_init 117 = .ok (.aload_n 0, 1) := by decide +kernel
theorem dX6_init_118 : decode cX6_init 118 = .ok (.sipush 1200, 3) := by decide +kernel
theorem dX6_init_121 : decode cX6_init 121 = .ok (.newarray .long, 2) := by decide +kernel
theorem dX6_init_123 : decode cX6_init 123 = .ok (.putfield 57, 3) := by decide +kernel
theorem dX6_init_126 : decode cX6_init 126 = .ok (.aload_n 0, 1) := by decide +kernel
theorem dX6_init_127 : decode cX6_init 127 = .ok (.iconst 3, 1) := by decide +kernel
theorem dX6_init_128 : decode cX6_init 128 = .ok (.newarray .int, 2) := by decide +kernel
theorem dX6_init_130 : decode cX6_init 130 = .ok (.putfield 60, 3) := by decide +kernel
theorem dX6_init_133 : decode cX6_init 133 = .ok (.aload_n 0, 1) := by decide +kernel
theorem dX6_init_134 : decode cX6_init 134 = .ok (.iconst 3, 1) := by decide +kernel
theorem dX6_init_135 : decode cX6_init 135 = .ok (.newarray .int, 2) := by decide +kernel
theorem dX6_init_137 : decode cX6_init 137 = .ok (.putfield 63, 3) := by decide +kernel
theorem dX6_init_140 : decode cX6_init 140 = .ok (.aload_n 0, 1) := by decide +kernel
theorem dX6_init_141 : decode cX6_init 141 = .ok (.iconst 4, 1) := by decide +kernel
theorem dX6_init_142 : decode cX6_init 142 = .ok (.newarray .int, 2) := by decide +kernel
theorem dX6_init_144 : decode cX6_init 144 = .ok (.putfield 66, 3) := by decide +kernel
theorem dX6_init_147 : decode cX6_init 147 = .ok (.iconst 0, 1) := by decide +kernel
theorem dX6_init_148 : decode cX6_init 148 = .ok (.istore_n 1, 1) := by decide +kernel
theorem dX6_init_149 : decode cX6_init 149 = .ok (.iload_n 1, 1) := by decide +kernel
theorem dX6_init_150 : decode cX6_init 150 = .ok (.iconst 4, 1) := by decide +kernel
theorem dX6_init_151 : decode cX6_init 151 = .ok (.if_icmp .ge 16, 3) := by decide +kernel
theorem dX6_init_154 : decode cX6_init 154 = .ok (.aload_n 0, 1) := by decide +kernel
theorem dX6_init_155 : decode cX6_init 155 = .ok (.getfield 20, 3) := by decide +kernel
theorem dX6_init_158 : decode cX6_init 158 = .ok (.iload_n 1, 1) := by decide +kernel
theorem dX6_init_159 : decode cX6_init 159 = .ok (.iconst (-1), 1) := by decide +kernel
theorem dX6_init_160 : decode cX6_init 160 = .ok (.iastore, 1) := by decide +kernel
theorem dX6_init_161 : decode cX6_init 161 = .ok (.iinc 1 1, 3) := by decide +kernel
theorem dX6_init_164 : decode cX6_init 164 = .ok (.goto (-15), 3) := by decide +kernel
theorem dX6_init_167 : decode cX6_init 167 = .ok (.iconst 0, 1) := by decide +kernel
theorem dX6_init_168 : decode cX6_init 168 = .ok (.istore_n 1, 1) := by decide +kernel
theorem dX6_init_169 : decode cX6_init 169 = .ok (.iload_n 1, 1) := by decide +kernel
theorem dX6_init_170 : decode cX6_init 170 = .ok (.iconst 3, 1) := by decide +kernel
theorem dX6_init_171 : decode cX6_init 171 = .ok (.if_icmp .ge 16, 3) := by decide +kernel
theorem dX6_init_174 : decode cX6_init 174 = .ok (.aload_n 0, 1) := by decide +kernel
theorem dX6_init_175 : decode cX6_init 175 = .ok (.getfield 60, 3) := by decide +kernel
theorem dX6_init_178 : decode cX6_init 178 = .ok (.iload_n 1, 1) := by decide +kernel
theorem dX6_init_179 : decode cX6_init 179 = .ok (.iconst 1, 1) := by decide +kernel
theorem dX6_init_180 : decode cX6_init 180 = .ok (.iastore, 1) := by decide +kernel
theorem dX6_init_181 : decode cX6_init 181 = .ok (.iinc 1 1, 3) := by decide +kernel
theorem dX6_init_184 : decode cX6_init 184 = .ok (.goto (-15), 3) := by decide +kernel
theorem dX6_init_187 : decode cX6_init 187 = .ok (.return_, 1) := by decide +kernel
theorem dX6_wind_0 : decode cX6_wind 0 = .ok (.iload_n 1, 1) := by decide +kernel
theorem dX6_wind_1 : decode cX6_wind 1 = .ok (.i2l, 1) := by decide +kernel
theorem dX6_wind_2 : decode cX6_wind 2 = .ok (.lconst 0, 1) := by decide +kernel
theorem dX6_wind_3 : decode cX6_wind 3 = .ok (.ldc2_w 69, 3) := by decide +kernel
theorem dX6_wind_6 : decode cX6_wind 6 = .ok (.invokestatic 71, 3) := by decide +kernel
theorem dX6_wind_9 : decode cX6_wind 9 = .ok (.ifCond .eq 17, 3) := by decide +kernel
theorem dX6_wind_12 : decode cX6_wind 12 = .ok (.iload_n 2, 1) := by decide +kernel
theorem dX6_wind_13 : decode cX6_wind 13 = .ok (.i2l, 1) := by decide +kernel
theorem dX6_wind_14 : decode cX6_wind 14 = .ok (.ldc2_w 75, 3) := by decide +kernel
theorem dX6_wind_17 : decode cX6_wind 17 = .ok (.ldc2_w 77, 3) := by decide +kernel
theorem dX6_wind_20 : decode cX6_wind 20 = .ok (.invokestatic 71, 3) := by decide +kernel
theorem dX6_wind_23 : decode cX6_wind 23 = .ok (.ifCond .ne 7, 3) := by decide +kernel
theorem dX6_wind_26 : decode cX6_wind 26 = .ok (.sipush (-1001), 3) := by decide +kernel
theorem dX6_wind_29 : decode cX6_wind 29 = .ok (.ireturn, 1) := by decide +kernel
theorem dX6_wind_30 : decode cX6_wind 30 = .ok (.aload_n 0, 1) := by decide +kernel
theorem dX6_wind_31 : decode cX6_wind 31 = .ok (.getfield 7, 3) := by decide +kernel
theorem dX6_wind_34 : decode cX6_wind 34 = .ok (.iload_n 1, 1) := by decide +kernel
theorem dX6_wind_35 : decode cX6_wind 35 = .ok (.iaload, 1) := by decide +kernel
theorem dX6_wind_36 : decode cX6_wind 36 = .ok (.istore_n 3, 1) := by decide +kernel
theorem dX6_wind_37 : decode cX6_wind 37 = .ok (.aload_n 0, 1) := by decide +kernel
theorem dX6_wind_38 : decode cX6_wind 38 = .ok (.getfield 7, 3) := by decide +kernel
theorem dX6_wind_41 : decode cX6_wind 41 = .ok (.iload_n 1, 1) := by decide +kernel
theorem dX6_wind_42 : decode cX6_wind 42 = .ok (.iload_n 2, 1) := by decide +kernel
theorem dX6_wind_43 : decode cX6_wind 43 = .ok (.iastore, 1) := by decide +kernel
theorem dX6_wind_44 : decode cX6_wind 44 = .ok (.iload_n 3, 1) := by decide +kernel
theorem dX6_wind_45 : decode cX6_wind 45 = .ok (.ireturn, 1) := by decide +kernel
theorem dX6_boxAt_0 : decode cX6_boxAt 0 = .ok (.iload_n 0, 1) := by decide +kernel
theorem dX6_boxAt_1 : decode cX6_boxAt 1 = .ok (.i2l, 1) := by decide +kernel
theorem dX6_boxAt_2 : decode cX6_boxAt 2 = .ok (.lconst 0, 1) := by decide +kernel
theorem dX6_boxAt_3 : decode cX6_boxAt 3 = .ok (.ldc2_w 79, 3) := by decide +kernel
theorem dX6_boxAt_6 : decode cX6_boxAt 6 = .ok (.invokestatic 71, 3) := by decide +kernel
theorem dX6_boxAt_9 : decode cX6_boxAt 9 = .ok (.ifCond .eq 23, 3) := by decide +kernel
theorem dX6_boxAt_12 : decode cX6_boxAt 12 = .ok (.iload_n 1, 1) := by decide +kernel
theorem dX6_boxAt_13 : decode cX6_boxAt 13 = .ok (.i2l, 1) := by decide +kernel
theorem dX6_boxAt_14 : decode cX6_boxAt 14 = .ok (.lconst 0, 1) := by decide +kernel
theorem dX6_boxAt_15 : decode cX6_boxAt 15 = .ok (.ldc2_w 79, 3) := by decide +kernel
theorem dX6_boxAt_18 : decode cX6_boxAt 18 = .ok (.invokestatic 71, 3) := by decide +kernel
theorem dX6_boxAt_21 : decode cX6_boxAt 21 = .ok (.ifCond .eq 11, 3) := by decide +kernel
theorem dX6_boxAt_24 : decode cX6_boxAt 24 = .ok (.iconst 3, 1) := by decide +kernel
theorem dX6_boxAt_25 : decode cX6_boxAt 25 = .ok (.iload_n 1, 1) := by decide +kernel
theorem dX6_boxAt_26 : decode cX6_boxAt 26 = .ok (.imul, 1) := by decide +kernel
theorem dX6_boxAt_27 : decode cX6_boxAt 27 = .ok (.iload_n 0, 1) := by decide +kernel
theorem dX6_boxAt_28 : decode cX6_boxAt 28 = .ok (.iadd, 1) := by decide +kernel
theorem dX6_boxAt_29 : decode cX6_boxAt 29 = .ok (.goto 5, 3) := by decide +kernel
theorem dX6_boxAt_32 : decode cX6_boxAt 32 = .ok (.bipush 9, 2) := by decide +kernel
theorem dX6_boxAt_34 : decode cX6_boxAt 34 = .ok (.ireturn, 1) := by decide +kernel
theorem dX6_fromOf_0 : decode cX6_fromOf 0 = .ok (.iload_n 0, 1) := by decide +kernel
theorem dX6_fromOf_1 : decode cX6_fromOf 1 = .ok (.bipush 12, 2) := by decide +kernel
theorem dX6_fromOf_3 : decode cX6_fromOf 3 = .ok (.if_icmp .ge 17, 3) := by decide +kernel
theorem dX6_fromOf_6 : decode cX6_fromOf 6 = .ok (.iload_n 0, 1) := by decide +kernel
theorem dX6_fromOf_7 : decode cX6_fromOf 7 = .ok (.iconst 4, 1) := by decide +kernel
theorem dX6_fromOf_8 : decode cX6_fromOf 8 = .ok (.irem, 1) := by decide +kernel
theorem dX6_fromOf_9 : decode cX6_fromOf 9 = .ok (.iconst 1, 1) := by decide +kernel
theorem dX6_fromOf_10 : decode cX6_fromOf 10 = .ok (.isub, 1) := by decide +kernel
theorem dX6_fromOf_11 : decode cX6_fromOf 11 = .ok (.iload_n 0, 1) := by decide +kernel
theorem dX6_fromOf_12 : decode cX6_fromOf 12 = .ok (.iconst 4, 1) := by decide +kernel
theorem dX6_fromOf_13 : decode cX6_fromOf 13 = .ok (.idiv, 1) := by decide +kernel
theorem dX6_fromOf_14 : decode cX6_fromOf 14 = .ok (.invokestatic 81, 3) := by decide +kernel
theorem dX6_fromOf_17 : decode cX6_fromOf 17 = .ok (.goto 20, 3) := by decide +kernel
theorem dX6_fromOf_20 : decode cX6_fromOf 20 = .ok (.iload_n 0, 1) := by decide +kernel
theorem dX6_fromOf_21 : decode cX6_fromOf 21 = .ok (.bipush 12, 2) := by decide +kernel
theorem dX6_fromOf_23 : decode cX6_fromOf 23 = .ok (.isub, 1) := by decide +kernel
theorem dX6_fromOf_24 : decode cX6_fromOf 24 = .ok (.iconst 3, 1) := by decide +kernel
theorem dX6_fromOf_25 : decode cX6_fromOf 25 = .ok (.irem, 1) := by decide +kernel
theorem dX6_fromOf_26 : decode cX6_fromOf 26 = .ok (.iload_n 0, 1) := by decide +kernel
theorem dX6_fromOf_27 : decode cX6_fromOf 27 = .ok (.bipush 12, 2) := by decide +kernel
theorem dX6_fromOf_29 : decode cX6_fromOf 29 = .ok (.isub, 1) := by decide +kernel
theorem dX6_fromOf_30 : decode cX6_fromOf 30 = .ok (.iconst 3, 1) := by decide +kernel
theorem dX6_fromOf_31 : decode cX6_fromOf 31 = .ok (.idiv, 1) := by decide +kernel
theorem dX6_fromOf_32 : decode cX6_fromOf 32 = .ok (.iconst 1, 1) := by decide +kernel
theorem dX6_fromOf_33 : decode cX6_fromOf 33 = .ok (.isub, 1) := by decide +kernel
theorem dX6_fromOf_34 : decode cX6_fromOf 34 = .ok (.invokestatic 81, 3) := by decide +kernel
theorem dX6_fromOf_37 : decode cX6_fromOf 37 = .ok (.ireturn, 1) := by decide +kernel
theorem dX6_toOf_0 : decode cX6_toOf 0 = .ok (.iload_n 0, 1) := by decide +kernel
theorem dX6_toOf_1 : decode cX6_toOf 1 = .ok (.bipush 12, 2) := by decide +kernel
theorem dX6_toOf_3 : decode cX6_toOf 3 = .ok (.if_icmp .ge 15, 3) := by decide +kernel
theorem dX6_toOf_6 : decode cX6_toOf 6 = .ok (.iload_n 0, 1) := by decide +kernel
theorem dX6_toOf_7 : decode cX6_toOf 7 = .ok (.iconst 4, 1) := by decide +kernel
theorem dX6_toOf_8 : decode cX6_toOf 8 = .ok (.irem, 1) := by decide +kernel
theorem dX6_toOf_9 : decode cX6_toOf 9 = .ok (.iload_n 0, 1) := by decide +kernel
theorem dX6_toOf_10 : decode cX6_toOf 10 = .ok (.iconst 4, 1) := by decide +kernel
theorem dX6_toOf_11 : decode cX6_toOf 11 = .ok (.idiv, 1) := by decide +kernel
theorem dX6_toOf_12 : decode cX6_toOf 12 = .ok (.invokestatic 81, 3) := by decide +kernel
theorem dX6_toOf_15 : decode cX6_toOf 15 = .ok (.goto 18, 3) := by decide +kernel
theorem dX6_toOf_18 : decode cX6_toOf 18 = .ok (.iload_n 0, 1) := by decide +kernel
theorem dX6_toOf_19 : decode cX6_toOf 19 = .ok (.bipush 12, 2) := by decide +kernel
theorem dX6_toOf_21 : decode cX6_toOf 21 = .ok (.isub, 1) := by decide +kernel
theorem dX6_toOf_22 : decode cX6_toOf 22 = .ok (.iconst 3, 1) := by decide +kernel
theorem dX6_toOf_23 : decode cX6_toOf 23 = .ok (.irem, 1) := by decide +kernel
theorem dX6_toOf_24 : decode cX6_toOf 24 = .ok (.iload_n 0, 1) := by decide +kernel
theorem dX6_toOf_25 : decode cX6_toOf 25 = .ok (.bipush 12, 2) := by decide +kernel
theorem dX6_toOf_27 : decode cX6_toOf 27 = .ok (.isub, 1) := by decide +kernel
theorem dX6_toOf_28 : decode cX6_toOf 28 = .ok (.iconst 3, 1) := by decide +kernel
theorem dX6_toOf_29 : decode cX6_toOf 29 = .ok (.idiv, 1) := by decide +kernel
theorem dX6_toOf_30 : decode cX6_toOf 30 = .ok (.invokestatic 81, 3) := by decide +kernel
theorem dX6_toOf_33 : decode cX6_toOf 33 = .ok (.ireturn, 1) := by decide +kernel
theorem dX6_given_0 : decode cX6_given 0 = .ok (.iconst 0, 1) := by decide +kernel
theorem dX6_given_1 : decode cX6_given 1 = .ok (.istore_n 2, 1) := by decide +kernel
theorem dX6_given_2 : decode cX6_given 2 = .ok (.iconst 0, 1) := by decide +kernel
theorem dX6_given_3 : decode cX6_given 3 = .ok (.istore_n 3, 1) := by decide +kernel
theorem dX6_given_4 : decode cX6_given 4 = .ok (.iload_n 3, 1) := by decide +kernel
theorem dX6_given_5 : decode cX6_given 5 = .ok (.bipush 24, 2) := by decide +kernel
theorem dX6_given_7 : decode cX6_given 7 = .ok (.if_icmp .ge 48, 3) := by decide +kernel
theorem dX6_given_10 : decode cX6_given 10 = .ok (.iload_n 2, 1) := by decide +kernel
theorem dX6_given_11 : decode cX6_given 11 = .ok (.iload_n 3, 1) := by decide +kernel
theorem dX6_given_12 : decode cX6_given 12 = .ok (.invokestatic 85, 3) := by decide +kernel
theorem dX6_given_15 : decode cX6_given 15 = .ok (.iload_n 1, 1) := by decide +kernel
theorem dX6_given_16 : decode cX6_given 16 = .ok (.if_icmp .ne 12, 3) := by decide +kernel
theorem dX6_given_19 : decode cX6_given 19 = .ok (.aload_n 0, 1) := by decide +kernel
theorem dX6_given_20 : decode cX6_given 20 = .ok (.getfield 7, 3) := by decide +kernel
theorem dX6_given_23 : decode cX6_given 23 = .ok (.iload_n 3, 1) := by decide +kernel
theorem dX6_given_24 : decode cX6_given 24 = .ok (.iaload, 1) := by decide +kernel
theorem dX6_given_25 : decode cX6_given 25 = .ok (.goto 22, 3) := by decide +kernel
theorem dX6_given_28 : decode cX6_given 28 = .ok (.iload_n 3, 1) := by decide +kernel
theorem dX6_given_29 : decode cX6_given 29 = .ok (.invokestatic 89, 3) := by decide +kernel
theorem dX6_given_32 : decode cX6_given 32 = .ok (.iload_n 1, 1) := by decide +kernel
theorem dX6_given_33 : decode cX6_given 33 = .ok (.if_icmp .ne 13, 3) := by decide +kernel
theorem dX6_given_36 : decode cX6_given 36 = .ok (.aload_n 0, 1) := by decide +kernel
theorem dX6_given_37 : decode cX6_given 37 = .ok (.getfield 7, 3) := by decide +kernel
theorem dX6_given_40 : decode cX6_given 40 = .ok (.iload_n 3, 1) := by decide +kernel
theorem dX6_given_41 : decode cX6_given 41 = .ok (.iaload, 1) := by decide +kernel
theorem dX6_given_42 : decode cX6_given 42 = .ok (.ineg, 1) := by decide +kernel
theorem dX6_given_43 : decode cX6_given 43 = .ok (.goto 4, 3) := by decide +kernel
theorem dX6_given_46 : decode cX6_given 46 = .ok (.iconst 0, 1) := by decide +kernel
theorem dX6_given_47 : decode cX6_given 47 = .ok (.iadd, 1) := by decide +kernel
theorem dX6_given_48 : decode cX6_given 48 = .ok (.istore_n 2, 1) := by decide +kernel
theorem dX6_given_49 : decode cX6_given 49 = .ok (.iinc 3 1, 3) := by decide +kernel
theorem dX6_given_52 : decode cX6_given 52 = .ok (.goto (-48), 3) := by decide +kernel
theorem dX6_given_55 : decode cX6_given 55 = .ok (.iload_n 2, 1) := by decide +kernel
theorem dX6_given_56 : decode cX6_given 56 = .ok (.ireturn, 1) := by decide +kernel
theorem dX6_gives_0 : decode cX6_gives 0 = .ok (.iload_n 1, 1) := by decide +kernel
theorem dX6_gives_1 : decode cX6_gives 1 = .ok (.i2l, 1) := by decide +kernel
theorem dX6_gives_2 : decode cX6_gives 2 = .ok (.lconst 0, 1) := by decide +kernel
theorem dX6_gives_3 : decode cX6_gives 3 = .ok (.ldc2_w 92, 3) := by decide +kernel
theorem dX6_gives_6 : decode cX6_gives 6 = .ok (.invokestatic 71, 3) := by decide +kernel
theorem dX6_gives_9 : decode cX6_gives 9 = .ok (.ifCond .eq 11, 3) := by decide +kernel
theorem dX6_gives_12 : decode cX6_gives 12 = .ok (.aload_n 0, 1) := by decide +kernel
theorem dX6_gives_13 : decode cX6_gives 13 = .ok (.iload_n 1, 1) := by decide +kernel
theorem dX6_gives_14 : decode cX6_gives 14 = .ok (.invokevirtual 94, 3) := by decide +kernel
theorem dX6_gives_17 : decode cX6_gives 17 = .ok (.goto 6, 3) := by decide +kernel
theorem dX6_gives_20 : decode cX6_gives 20 = .ok (.sipush (-1001), 3) := by decide +kernel
theorem dX6_gives_23 : decode cX6_gives 23 = .ok (.ireturn, 1) := by decide +kernel
theorem dX6_findHeights_0 : decode cX6_findHeights 0 = .ok (.iconst 0, 1) := by decide +kernel
theorem dX6_findHeights_1 : decode cX6_findHeights 1 = .ok (.istore_n 1, 1) := by decide +kernel
theorem dX6_findHeights_2 : decode cX6_findHeights 2 = .ok (.iload_n 1, 1) := by decide +kernel
theorem dX6_findHeights_3 : decode cX6_findHeights 3 = .ok (.bipush 90, 2) := by decide +kernel
theorem dX6_findHeights_5 : decode cX6_findHeights 5 = .ok (.if_icmp .ge 16, 3) := by decide +kernel
theorem dX6_findHeights_8 : decode cX6_findHeights 8 = .ok (.aload_n 0, 1) := by decide +kernel
theorem dX6_findHeights_9 : decode cX6_findHeights 9 = .ok (.getfield 13, 3) := by decide +kernel
theorem dX6_findHeights_12 : decode cX6_findHeights 12 = .ok (.iload_n 1, 1) := by decide +kernel
theorem dX6_findHeights_13 : decode cX6_findHeights 13 = .ok (.lconst 0, 1) := by decide +kernel
theorem dX6_findHeights_14 : decode cX6_findHeights 14 = .ok (.lastore, 1) := by decide +kernel
theorem dX6_findHeights_15 : decode cX6_findHeights 15 = .ok (.iinc 1 1, 3) := by decide +kernel
theorem dX6_findHeights_18 : decode cX6_findHeights 18 = .ok (.goto (-16), 3) := by decide +kernel
theorem dX6_findHeights_21 : decode cX6_findHeights 21 = .ok (.iconst 0, 1) := by decide +kernel
theorem dX6_findHeights_22 : decode cX6_findHeights 22 = .ok (.istore_n 1, 1) := by decide +kernel
theorem dX6_findHeights_23 : decode cX6_findHeights 23 = .ok (.iload_n 1, 1) := by decide +kernel
theorem dX6_findHeights_24 : decode cX6_findHeights 24 = .ok (.bipush 9, 2) := by decide +kernel
theorem dX6_findHeights_26 : decode cX6_findHeights 26 = .ok (.if_icmp .ge 40, 3) := by decide +kernel
theorem dX6_findHeights_29 : decode cX6_findHeights 29 = .ok (.aload_n 0, 1) := by decide +kernel
theorem dX6_findHeights_30 : decode cX6_findHeights 30 = .ok (.getfield 13, 3) := by decide +kernel
theorem dX6_findHeights_33 : decode cX6_findHeights 33 = .ok (.bipush 11, 2) := by decide +kernel
theorem dX6_findHeights_35 : decode cX6_findHeights 35 = .ok (.iload_n 1, 1) := by decide +kernel
theorem dX6_findHeights_36 : decode cX6_findHeights 36 = .ok (.imul, 1) := by decide +kernel
theorem dX6_findHeights_37 : decode cX6_findHeights 37 = .ok (.ldc2_w 97, 3) := by decide +kernel
theorem dX6_findHeights_40 : decode cX6_findHeights 40 = .ok (.lastore, 1) := by decide +kernel
theorem dX6_findHeights_41 : decode cX6_findHeights 41 = .ok (.aload_n 0, 1) := by decide +kernel
theorem dX6_findHeights_42 : decode cX6_findHeights 42 = .ok (.getfield 13, 3) := by decide +kernel
theorem dX6_findHeights_45 : decode cX6_findHeights 45 = .ok (.bipush 10, 2) := by decide +kernel
theorem dX6_findHeights_47 : decode cX6_findHeights 47 = .ok (.iload_n 1, 1) := by decide +kernel
theorem dX6_findHeights_48 : decode cX6_findHeights 48 = .ok (.imul, 1) := by decide +kernel
theorem dX6_findHeights_49 : decode cX6_findHeights 49 = .ok (.bipush 9, 2) := by decide +kernel
theorem dX6_findHeights_51 : decode cX6_findHeights 51 = .ok (.iadd, 1) := by decide +kernel
theorem dX6_findHeights_52 : decode cX6_findHeights 52 = .ok (.aload_n 0, 1) := by decide +kernel
theorem dX6_findHeights_53 : decode cX6_findHeights 53 = .ok (.iload_n 1, 1) := by decide +kernel
theorem dX6_findHeights_54 : decode cX6_findHeights 54 = .ok (.invokevirtual 94, 3) := by decide +kernel
theorem dX6_findHeights_57 : decode cX6_findHeights 57 = .ok (.ineg, 1) := by decide +kernel
theorem dX6_findHeights_58 : decode cX6_findHeights 58 = .ok (.i2l, 1) := by decide +kernel
theorem dX6_findHeights_59 : decode cX6_findHeights 59 = .ok (.lastore, 1) := by decide +kernel
theorem dX6_findHeights_60 : decode cX6_findHeights 60 = .ok (.iinc 1 1, 3) := by decide +kernel
theorem dX6_findHeights_63 : decode cX6_findHeights 63 = .ok (.goto (-40), 3) := by decide +kernel
theorem dX6_findHeights_66 : decode cX6_findHeights 66 = .ok (.iconst 0, 1) := by decide +kernel
theorem dX6_findHeights_67 : decode cX6_findHeights 67 = .ok (.istore_n 1, 1) := by decide +kernel
theorem dX6_findHeights_68 : decode cX6_findHeights 68 = .ok (.iload_n 1, 1) := by decide +kernel
theorem dX6_findHeights_69 : decode cX6_findHeights 69 = .ok (.bipush 24, 2) := by decide +kernel
theorem dX6_findHeights_71 : decode cX6_findHeights 71 = .ok (.if_icmp .ge 59, 3) := by decide +kernel
theorem dX6_findHeights_74 : decode cX6_findHeights 74 = .ok (.iload_n 1, 1) := by decide +kernel
theorem dX6_findHeights_75 : decode cX6_findHeights 75 = .ok (.invokestatic 85, 3) := by decide +kernel
theorem dX6_findHeights_78 : decode cX6_findHeights 78 = .ok (.istore_n 2, 1) := by decide +kernel
theorem dX6_findHeights_79 : decode cX6_findHeights 79 = .ok (.iload_n 1, 1) := by decide +kernel
theorem dX6_findHeights_80 : decode cX6_findHeights 80 = .ok (.invokestatic 89, 3) := by decide +kernel
theorem dX6_findHeights_83 : decode cX6_findHeights 83 = .ok (.istore_n 3, 1) := by decide +kernel
theorem dX6_findHeights_84 : decode cX6_findHeights 84 = .ok (.iload_n 2, 1) := by decide +kernel
theorem dX6_findHeights_85 : decode cX6_findHeights 85 = .ok (.bipush 9, 2) := by decide +kernel
theorem dX6_findHeights_87 : decode cX6_findHeights 87 = .ok (.if_icmp .ge 37, 3) := by decide +kernel
theorem dX6_findHeights_90 : decode cX6_findHeights 90 = .ok (.iload_n 3, 1) := by decide +kernel
theorem dX6_findHeights_91 : decode cX6_findHeights 91 = .ok (.bipush 9, 2) := by decide +kernel
theorem dX6_findHeights_93 : decode cX6_findHeights 93 = .ok (.if_icmp .ge 31, 3) := by decide +kernel
theorem dX6_findHeights_96 : decode cX6_findHeights 96 = .ok (.aload_n 0, 1) := by decide +kernel
theorem dX6_findHeights_97 : decode cX6_findHeights 97 = .ok (.getfield 13, 3) := by decide +kernel
theorem dX6_findHeights_100 : decode cX6_findHeights 100 = .ok (.bipush 10, 2) := by decide +kernel
theorem dX6_findHeights_102 : decode cX6_findHeights 102 = .ok (.iload_n 2, 1) := by decide +kernel
theorem dX6_findHeights_103 : decode cX6_findHeights 103 = .ok (.imul, 1) := by decide +kernel
theorem dX6_findHeights_104 : decode cX6_findHeights 104 = .ok (.iload_n 3, 1) := by decide +kernel
theorem dX6_findHeights_105 : decode cX6_findHeights 105 = .ok (.iadd, 1) := by decide +kernel
theorem dX6_findHeights_106 : decode cX6_findHeights 106 = .ok (.ldc2_w 99, 3) := by decide +kernel
theorem dX6_findHeights_109 : decode cX6_findHeights 109 = .ok (.lastore, 1) := by decide +kernel
theorem dX6_findHeights_110 : decode cX6_findHeights 110 = .ok (.aload_n 0, 1) := by decide +kernel
theorem dX6_findHeights_111 : decode cX6_findHeights 111 = .ok (.getfield 13, 3) := by decide +kernel
theorem dX6_findHeights_114 : decode cX6_findHeights 114 = .ok (.bipush 10, 2) := by decide +kernel
theorem dX6_findHeights_116 : decode cX6_findHeights 116 = .ok (.iload_n 3, 1) := by decide +kernel
theorem dX6_findHeights_117 : decode cX6_findHeights 117 = .ok (.imul, 1) := by decide +kernel
theorem dX6_findHeights_118 : decode cX6_findHeights 118 = .ok (.iload_n 2, 1) := by decide +kernel
theorem dX6_findHeights_119 : decode cX6_findHeights 119 = .ok (.iadd, 1) := by decide +kernel
theorem dX6_findHeights_120 : decode cX6_findHeights 120 = .ok (.ldc2_w 99, 3) := by decide +kernel
theorem dX6_findHeights_123 : decode cX6_findHeights 123 = .ok (.lastore, 1) := by decide +kernel
theorem dX6_findHeights_124 : decode cX6_findHeights 124 = .ok (.iinc 1 1, 3) := by decide +kernel
theorem dX6_findHeights_127 : decode cX6_findHeights 127 = .ok (.goto (-59), 3) := by decide +kernel
theorem dX6_findHeights_130 : decode cX6_findHeights 130 = .ok (.lconst 1, 1) := by decide +kernel
theorem dX6_findHeights_131 : decode cX6_findHeights 131 = .ok (.lstore_n 1, 1) := by decide +kernel
theorem dX6_findHeights_132 : decode cX6_findHeights 132 = .ok (.iconst 0, 1) := by decide +kernel
theorem dX6_findHeights_133 : decode cX6_findHeights 133 = .ok (.istore_n 3, 1) := by decide +kernel
theorem dX6_findHeights_134 : decode cX6_findHeights 134 = .ok (.iload_n 3, 1) := by decide +kernel
theorem dX6_findHeights_135 : decode cX6_findHeights 135 = .ok (.bipush 9, 2) := by decide +kernel
theorem dX6_findHeights_137 : decode cX6_findHeights 137 = .ok (.if_icmp .ge 122, 3) := by decide +kernel
theorem dX6_findHeights_140 : decode cX6_findHeights 140 = .ok (.aload_n 0, 1) := by decide +kernel
theorem dX6_findHeights_141 : decode cX6_findHeights 141 = .ok (.getfield 13, 3) := by decide +kernel
theorem dX6_findHeights_144 : decode cX6_findHeights 144 = .ok (.bipush 11, 2) := by decide +kernel
theorem dX6_findHeights_146 : decode cX6_findHeights 146 = .ok (.iload_n 3, 1) := by decide +kernel
theorem dX6_findHeights_147 : decode cX6_findHeights 147 = .ok (.imul, 1) := by decide +kernel
theorem dX6_findHeights_148 : decode cX6_findHeights 148 = .ok (.laload, 1) := by decide +kernel
theorem dX6_findHeights_149 : decode cX6_findHeights 149 = .ok (.lstore 4, 2) := by decide +kernel
theorem dX6_findHeights_151 : decode cX6_findHeights 151 = .ok (.iconst 0, 1) := by decide +kernel
theorem dX6_findHeights_152 : decode cX6_findHeights 152 = .ok (.istore 6, 2) := by decide +kernel
theorem dX6_findHeights_154 : decode cX6_findHeights 154 = .ok (.iload 6, 2) := by decide +kernel
theorem dX6_findHeights_156 : decode cX6_findHeights 156 = .ok (.bipush 9, 2) := by decide +kernel
theorem dX6_findHeights_158 : decode cX6_findHeights 158 = .ok (.if_icmp .ge 92, 3) := by decide +kernel
theorem dX6_findHeights_161 : decode cX6_findHeights 161 = .ok (.aload_n 0, 1) := by decide +kernel
theorem dX6_findHeights_162 : decode cX6_findHeights 162 = .ok (.getfield 13, 3) := by decide +kernel
theorem dX6_findHeights_165 : decode cX6_findHeights 165 = .ok (.bipush 10, 2) := by decide +kernel
theorem dX6_findHeights_167 : decode cX6_findHeights 167 = .ok (.iload 6, 2) := by decide +kernel
theorem dX6_findHeights_169 : decode cX6_findHeights 169 = .ok (.imul, 1) := by decide +kernel
theorem dX6_findHeights_170 : decode cX6_findHeights 170 = .ok (.iload_n 3, 1) := by decide +kernel
theorem dX6_findHeights_171 : decode cX6_findHeights 171 = .ok (.iadd, 1) := by decide +kernel
theorem dX6_findHeights_172 : decode cX6_findHeights 172 = .ok (.laload, 1) := by decide +kernel
theorem dX6_findHeights_173 : decode cX6_findHeights 173 = .ok (.lstore 7, 2) := by decide +kernel
theorem dX6_findHeights_175 : decode cX6_findHeights 175 = .ok (.iconst 0, 1) := by decide +kernel
theorem dX6_findHeights_176 : decode cX6_findHeights 176 = .ok (.istore 9, 2) := by decide +kernel
theorem dX6_findHeights_178 : decode cX6_findHeights 178 = .ok (.iload 9, 2) := by decide +kernel
theorem dX6_findHeights_180 : decode cX6_findHeights 180 = .ok (.bipush 10, 2) := by decide +kernel
theorem dX6_findHeights_182 : decode cX6_findHeights 182 = .ok (.if_icmp .ge 62, 3) := by decide +kernel
theorem dX6_findHeights_185 : decode cX6_findHeights 185 = .ok (.iload 6, 2) := by decide +kernel
theorem dX6_findHeights_187 : decode cX6_findHeights 187 = .ok (.iload_n 3, 1) := by decide +kernel
theorem dX6_findHeights_188 : decode cX6_findHeights 188 = .ok (.if_icmp .eq 56, 3) := by decide +kernel
theorem dX6_findHeights_191 : decode cX6_findHeights 191 = .ok (.aload_n 0, 1) := by decide +kernel
theorem dX6_findHeights_192 : decode cX6_findHeights 192 = .ok (.getfield 13, 3) := by decide +kernel
theorem dX6_findHeights_195 : decode cX6_findHeights 195 = .ok (.bipush 10, 2) := by decide +kernel
theorem dX6_findHeights_197 : decode cX6_findHeights 197 = .ok (.iload 6, 2) := by decide +kernel
theorem dX6_findHeights_199 : decode cX6_findHeights 199 = .ok (.imul, 1) := by decide +kernel
theorem dX6_findHeights_200 : decode cX6_findHeights 200 = .ok (.iload 9, 2) := by decide +kernel
theorem dX6_findHeights_202 : decode cX6_findHeights 202 = .ok (.iadd, 1) := by decide +kernel
theorem dX6_findHeights_203 : decode cX6_findHeights 203 = .ok (.lload 4, 2) := by decide +kernel
theorem dX6_findHeights_205 : decode cX6_findHeights 205 = .ok (.aload_n 0, 1) := by decide +kernel
theorem dX6_findHeights_206 : decode cX6_findHeights 206 = .ok (.getfield 13, 3) := by decide +kernel
theorem dX6_findHeights_209 : decode cX6_findHeights 209 = .ok (.bipush 10, 2) := by decide +kernel
theorem dX6_findHeights_211 : decode cX6_findHeights 211 = .ok (.iload 6, 2) := by decide +kernel
theorem dX6_findHeights_213 : decode cX6_findHeights 213 = .ok (.imul, 1) := by decide +kernel
theorem dX6_findHeights_214 : decode cX6_findHeights 214 = .ok (.iload 9, 2) := by decide +kernel
theorem dX6_findHeights_216 : decode cX6_findHeights 216 = .ok (.iadd, 1) := by decide +kernel
theorem dX6_findHeights_217 : decode cX6_findHeights 217 = .ok (.laload, 1) := by decide +kernel
theorem dX6_findHeights_218 : decode cX6_findHeights 218 = .ok (.lmul, 1) := by decide +kernel
theorem dX6_findHeights_219 : decode cX6_findHeights 219 = .ok (.lload 7, 2) := by decide +kernel
theorem dX6_findHeights_221 : decode cX6_findHeights 221 = .ok (.aload_n 0, 1) := by decide +kernel
theorem dX6_findHeights_222 : decode cX6_findHeights 222 = .ok (.getfield 13, 3) := by decide +kernel
theorem dX6_findHeights_225 : decode cX6_findHeights 225 = .ok (.bipush 10, 2) := by decide +kernel
theorem dX6_findHeights_227 : decode cX6_findHeights 227 = .ok (.iload_n 3, 1) := by decide +kernel
theorem dX6_findHeights_228 : decode cX6_findHeights 228 = .ok (.imul, 1) := by decide +kernel
theorem dX6_findHeights_229 : decode cX6_findHeights 229 = .ok (.iload 9, 2) := by decide +kernel
theorem dX6_findHeights_231 : decode cX6_findHeights 231 = .ok (.iadd, 1) := by decide +kernel
theorem dX6_findHeights_232 : decode cX6_findHeights 232 = .ok (.laload, 1) := by decide +kernel
theorem dX6_findHeights_233 : decode cX6_findHeights 233 = .ok (.lmul, 1) := by decide +kernel
theorem dX6_findHeights_234 : decode cX6_findHeights 234 = .ok (.lsub, 1) := by decide +kernel
theorem dX6_findHeights_235 : decode cX6_findHeights 235 = .ok (.lload_n 1, 1) := by decide +kernel
theorem dX6_findHeights_236 : decode cX6_findHeights 236 = .ok (.ldiv, 1) := by decide +kernel
theorem dX6_findHeights_237 : decode cX6_findHeights 237 = .ok (.lastore, 1) := by decide +kernel
theorem dX6_findHeights_238 : decode cX6_findHeights 238 = .ok (.iinc 9 1, 3) := by decide +kernel
theorem dX6_findHeights_241 : decode cX6_findHeights 241 = .ok (.goto (-63), 3) := by decide +kernel
theorem dX6_findHeights_244 : decode cX6_findHeights 244 = .ok (.iinc 6 1, 3) := by decide +kernel
theorem dX6_findHeights_247 : decode cX6_findHeights 247 = .ok (.goto (-93), 3) := by decide +kernel
theorem dX6_findHeights_250 : decode cX6_findHeights 250 = .ok (.lload 4, 2) := by decide +kernel
theorem dX6_findHeights_252 : decode cX6_findHeights 252 = .ok (.lstore_n 1, 1) := by decide +kernel
theorem dX6_findHeights_253 : decode cX6_findHeights 253 = .ok (.iinc 3 1, 3) := by decide +kernel
theorem dX6_findHeights_256 : decode cX6_findHeights 256 = .ok (.goto (-122), 3) := by decide +kernel
theorem dX6_findHeights_259 : decode cX6_findHeights 259 = .ok (.iconst 0, 1) := by decide +kernel
theorem dX6_findHeights_260 : decode cX6_findHeights 260 = .ok (.istore_n 3, 1) := by decide +kernel
theorem dX6_findHeights_261 : decode cX6_findHeights 261 = .ok (.iload_n 3, 1) := by decide +kernel
theorem dX6_findHeights_262 : decode cX6_findHeights 262 = .ok (.bipush 9, 2) := by decide +kernel
theorem dX6_findHeights_264 : decode cX6_findHeights 264 = .ok (.if_icmp .ge 27, 3) := by decide +kernel
theorem dX6_findHeights_267 : decode cX6_findHeights 267 = .ok (.aload_n 0, 1) := by decide +kernel
theorem dX6_findHeights_268 : decode cX6_findHeights 268 = .ok (.getfield 17, 3) := by decide +kernel
theorem dX6_findHeights_271 : decode cX6_findHeights 271 = .ok (.iload_n 3, 1) := by decide +kernel
theorem dX6_findHeights_272 : decode cX6_findHeights 272 = .ok (.aload_n 0, 1) := by decide +kernel
theorem dX6_findHeights_273 : decode cX6_findHeights 273 = .ok (.getfield 13, 3) := by decide +kernel
theorem dX6_findHeights_276 : decode cX6_findHeights 276 = .ok (.bipush 10, 2) := by decide +kernel
theorem dX6_findHeights_278 : decode cX6_findHeights 278 = .ok (.iload_n 3, 1) := by decide +kernel
theorem dX6_findHeights_279 : decode cX6_findHeights 279 = .ok (.imul, 1) := by decide +kernel
theorem dX6_findHeights_280 : decode cX6_findHeights 280 = .ok (.bipush 9, 2) := by decide +kernel
theorem dX6_findHeights_282 : decode cX6_findHeights 282 = .ok (.iadd, 1) := by decide +kernel
theorem dX6_findHeights_283 : decode cX6_findHeights 283 = .ok (.laload, 1) := by decide +kernel
theorem dX6_findHeights_284 : decode cX6_findHeights 284 = .ok (.lastore, 1) := by decide +kernel
theorem dX6_findHeights_285 : decode cX6_findHeights 285 = .ok (.iinc 3 1, 3) := by decide +kernel
theorem dX6_findHeights_288 : decode cX6_findHeights 288 = .ok (.goto (-27), 3) := by decide +kernel
theorem dX6_findHeights_291 : decode cX6_findHeights 291 = .ok (.return_, 1) := by decide +kernel
theorem dX6_stillAt_0 : decode cX6_stillAt 0 = .ok (.ldc2_w 101, 3) := by decide +kernel
theorem dX6_stillAt_3 : decode cX6_stillAt 3 = .ok (.aload_n 0, 1) := by decide +kernel
theorem dX6_stillAt_4 : decode cX6_stillAt 4 = .ok (.getfield 7, 3) := by decide +kernel
theorem dX6_stillAt_7 : decode cX6_stillAt 7 = .ok (.iload_n 1, 1) := by decide +kernel
theorem dX6_stillAt_8 : decode cX6_stillAt 8 = .ok (.iaload, 1) := by decide +kernel
theorem dX6_stillAt_9 : decode cX6_stillAt 9 = .ok (.i2l, 1) := by decide +kernel
theorem dX6_stillAt_10 : decode cX6_stillAt 10 = .ok (.lmul, 1) := by decide +kernel
theorem dX6_stillAt_11 : decode cX6_stillAt 11 = .ok (.aload_n 0, 1) := by decide +kernel
theorem dX6_stillAt_12 : decode cX6_stillAt 12 = .ok (.getfield 17, 3) := by decide +kernel
theorem dX6_stillAt_15 : decode cX6_stillAt 15 = .ok (.iload_n 1, 1) := by decide +kernel
theorem dX6_stillAt_16 : decode cX6_stillAt 16 = .ok (.invokestatic 85, 3) := by decide +kernel
theorem dX6_stillAt_19 : decode cX6_stillAt 19 = .ok (.laload, 1) := by decide +kernel
theorem dX6_stillAt_20 : decode cX6_stillAt 20 = .ok (.ladd, 1) := by decide +kernel
theorem dX6_stillAt_21 : decode cX6_stillAt 21 = .ok (.aload_n 0, 1) := by decide +kernel
theorem dX6_stillAt_22 : decode cX6_stillAt 22 = .ok (.getfield 17, 3) := by decide +kernel
theorem dX6_stillAt_25 : decode cX6_stillAt 25 = .ok (.iload_n 1, 1) := by decide +kernel
theorem dX6_stillAt_26 : decode cX6_stillAt 26 = .ok (.invokestatic 89, 3) := by decide +kernel
theorem dX6_stillAt_29 : decode cX6_stillAt 29 = .ok (.laload, 1) := by decide +kernel
theorem dX6_stillAt_30 : decode cX6_stillAt 30 = .ok (.lsub, 1) := by decide +kernel
theorem dX6_stillAt_31 : decode cX6_stillAt 31 = .ok (.lreturn, 1) := by decide +kernel
theorem dX6_still_0 : decode cX6_still 0 = .ok (.iload_n 1, 1) := by decide +kernel
theorem dX6_still_1 : decode cX6_still 1 = .ok (.i2l, 1) := by decide +kernel
theorem dX6_still_2 : decode cX6_still 2 = .ok (.lconst 0, 1) := by decide +kernel
theorem dX6_still_3 : decode cX6_still 3 = .ok (.ldc2_w 69, 3) := by decide +kernel
theorem dX6_still_6 : decode cX6_still 6 = .ok (.invokestatic 71, 3) := by decide +kernel
theorem dX6_still_9 : decode cX6_still 9 = .ok (.ifCond .ne 7, 3) := by decide +kernel
theorem dX6_still_12 : decode cX6_still 12 = .ok (.ldc2_w 103, 3) := by decide +kernel
theorem dX6_still_15 : decode cX6_still 15 = .ok (.lreturn, 1) := by decide +kernel
theorem dX6_still_16 : decode cX6_still 16 = .ok (.aload_n 0, 1) := by decide +kernel
theorem dX6_still_17 : decode cX6_still 17 = .ok (.invokevirtual 105, 3) := by decide +kernel
theorem dX6_still_20 : decode cX6_still 20 = .ok (.aload_n 0, 1) := by decide +kernel
theorem dX6_still_21 : decode cX6_still 21 = .ok (.iload_n 1, 1) := by decide +kernel
theorem dX6_still_22 : decode cX6_still 22 = .ok (.invokevirtual 108, 3) := by decide +kernel
theorem dX6_still_25 : decode cX6_still 25 = .ok (.lreturn, 1) := by decide +kernel
theorem dX6_change_0 : decode cX6_change 0 = .ok (.aload_n 0, 1) := by decide +kernel
theorem dX6_change_1 : decode cX6_change 1 = .ok (.invokevirtual 105, 3) := by decide +kernel
theorem dX6_change_4 : decode cX6_change 4 = .ok (.lconst 0, 1) := by decide +kernel
theorem dX6_change_5 : decode cX6_change 5 = .ok (.lstore_n 1, 1) := by decide +kernel
theorem dX6_change_6 : decode cX6_change 6 = .ok (.iconst 0, 1) := by decide +kernel
theorem dX6_change_7 : decode cX6_change 7 = .ok (.istore_n 3, 1) := by decide +kernel
theorem dX6_change_8 : decode cX6_change 8 = .ok (.iload_n 3, 1) := by decide +kernel
theorem dX6_change_9 : decode cX6_change 9 = .ok (.bipush 24, 2) := by decide +kernel
theorem dX6_change_11 : decode cX6_change 11 = .ok (.if_icmp .ge 38, 3) := by decide +kernel
theorem dX6_change_14 : decode cX6_change 14 = .ok (.aload_n 0, 1) := by decide +kernel
theorem dX6_change_15 : decode cX6_change 15 = .ok (.getfield 17, 3) := by decide +kernel
theorem dX6_change_18 : decode cX6_change 18 = .ok (.iload_n 3, 1) := by decide +kernel
theorem dX6_change_19 : decode cX6_change 19 = .ok (.invokestatic 85, 3) := by decide +kernel
theorem dX6_change_22 : decode cX6_change 22 = .ok (.laload, 1) := by decide +kernel
theorem dX6_change_23 : decode cX6_change 23 = .ok (.aload_n 0, 1) := by decide +kernel
theorem dX6_change_24 : decode cX6_change 24 = .ok (.getfield 17, 3) := by decide +kernel
theorem dX6_change_27 : decode cX6_change 27 = .ok (.iload_n 3, 1) := by decide +kernel
theorem dX6_change_28 : decode cX6_change 28 = .ok (.invokestatic 89, 3) := by decide +kernel
theorem dX6_change_31 : decode cX6_change 31 = .ok (.laload, 1) := by decide +kernel
theorem dX6_change_32 : decode cX6_change 32 = .ok (.lsub, 1) := by decide +kernel
theorem dX6_change_33 : decode cX6_change 33 = .ok (.lstore 4, 2) := by decide +kernel
theorem dX6_change_35 : decode cX6_change 35 = .ok (.lload_n 1, 1) := by decide +kernel
theorem dX6_change_36 : decode cX6_change 36 = .ok (.lload 4, 2) := by decide +kernel
theorem dX6_change_38 : decode cX6_change 38 = .ok (.lload 4, 2) := by decide +kernel
theorem dX6_change_40 : decode cX6_change 40 = .ok (.lmul, 1) := by decide +kernel
theorem dX6_change_41 : decode cX6_change 41 = .ok (.ladd, 1) := by decide +kernel
theorem dX6_change_42 : decode cX6_change 42 = .ok (.lstore_n 1, 1) := by decide +kernel
theorem dX6_change_43 : decode cX6_change 43 = .ok (.iinc 3 1, 3) := by decide +kernel
theorem dX6_change_46 : decode cX6_change 46 = .ok (.goto (-38), 3) := by decide +kernel
theorem dX6_change_49 : decode cX6_change 49 = .ok (.lload_n 1, 1) := by decide +kernel
theorem dX6_change_50 : decode cX6_change 50 = .ok (.lreturn, 1) := by decide +kernel
theorem dX6_isSheet_0 : decode cX6_isSheet 0 = .ok (.iload_n 0, 1) := by decide +kernel
theorem dX6_isSheet_1 : decode cX6_isSheet 1 = .ok (.i2l, 1) := by decide +kernel
theorem dX6_isSheet_2 : decode cX6_isSheet 2 = .ok (.lconst 0, 1) := by decide +kernel
theorem dX6_isSheet_3 : decode cX6_isSheet 3 = .ok (.ldc2_w 112, 3) := by decide +kernel
theorem dX6_isSheet_6 : decode cX6_isSheet 6 = .ok (.invokestatic 71, 3) := by decide +kernel
theorem dX6_isSheet_9 : decode cX6_isSheet 9 = .ok (.ifCond .eq 17, 3) := by decide +kernel
theorem dX6_isSheet_12 : decode cX6_isSheet 12 = .ok (.iload_n 1, 1) := by decide +kernel
theorem dX6_isSheet_13 : decode cX6_isSheet 13 = .ok (.i2l, 1) := by decide +kernel
theorem dX6_isSheet_14 : decode cX6_isSheet 14 = .ok (.lconst 0, 1) := by decide +kernel
theorem dX6_isSheet_15 : decode cX6_isSheet 15 = .ok (.lconst 1, 1) := by decide +kernel
theorem dX6_isSheet_16 : decode cX6_isSheet 16 = .ok (.invokestatic 71, 3) := by decide +kernel
theorem dX6_isSheet_19 : decode cX6_isSheet 19 = .ok (.ifCond .eq 7, 3) := by decide +kernel
theorem dX6_isSheet_22 : decode cX6_isSheet 22 = .ok (.iconst 1, 1) := by decide +kernel
theorem dX6_isSheet_23 : decode cX6_isSheet 23 = .ok (.goto 4, 3) := by decide +kernel
theorem dX6_isSheet_26 : decode cX6_isSheet 26 = .ok (.iconst 0, 1) := by decide +kernel
theorem dX6_isSheet_27 : decode cX6_isSheet 27 = .ok (.ireturn, 1) := by decide +kernel
theorem dX6_sheet_0 : decode cX6_sheet 0 = .ok (.iload_n 1, 1) := by decide +kernel
theorem dX6_sheet_1 : decode cX6_sheet 1 = .ok (.iload_n 2, 1) := by decide +kernel
theorem dX6_sheet_2 : decode cX6_sheet 2 = .ok (.invokestatic 114, 3) := by decide +kernel
theorem dX6_sheet_5 : decode cX6_sheet 5 = .ok (.ifCond .eq 9, 3) := by decide +kernel
theorem dX6_sheet_8 : decode cX6_sheet 8 = .ok (.iload_n 3, 1) := by decide +kernel
theorem dX6_sheet_9 : decode cX6_sheet 9 = .ok (.bipush 24, 2) := by decide +kernel
theorem dX6_sheet_11 : decode cX6_sheet 11 = .ok (.if_icmp .le 5, 3) := by decide +kernel
theorem dX6_sheet_14 : decode cX6_sheet 14 = .ok (.iconst (-1), 1) := by decide +kernel
theorem dX6_sheet_15 : decode cX6_sheet 15 = .ok (.ireturn, 1) := by decide +kernel
theorem dX6_sheet_16 : decode cX6_sheet 16 = .ok (.iload_n 3, 1) := by decide +kernel
theorem dX6_sheet_17 : decode cX6_sheet 17 = .ok (.ifCond .ge 6, 3) := by decide +kernel
theorem dX6_sheet_20 : decode cX6_sheet 20 = .ok (.bipush (-14), 2) := by decide +kernel
theorem dX6_sheet_22 : decode cX6_sheet 22 = .ok (.ireturn, 1) := by decide +kernel
theorem dX6_sheet_23 : decode cX6_sheet 23 = .ok (.aload_n 0, 1) := by decide +kernel
theorem dX6_sheet_24 : decode cX6_sheet 24 = .ok (.getfield 20, 3) := by decide +kernel
theorem dX6_sheet_27 : decode cX6_sheet 27 = .ok (.iload_n 1, 1) := by decide +kernel
theorem dX6_sheet_28 : decode cX6_sheet 28 = .ok (.iload_n 2, 1) := by decide +kernel
theorem dX6_sheet_29 : decode cX6_sheet 29 = .ok (.iastore, 1) := by decide +kernel
theorem dX6_sheet_30 : decode cX6_sheet 30 = .ok (.aload_n 0, 1) := by decide +kernel
theorem dX6_sheet_31 : decode cX6_sheet 31 = .ok (.getfield 23, 3) := by decide +kernel
theorem dX6_sheet_34 : decode cX6_sheet 34 = .ok (.iload_n 1, 1) := by decide +kernel
theorem dX6_sheet_35 : decode cX6_sheet 35 = .ok (.iload_n 3, 1) := by decide +kernel
theorem dX6_sheet_36 : decode cX6_sheet 36 = .ok (.iastore, 1) := by decide +kernel
theorem dX6_sheet_37 : decode cX6_sheet 37 = .ok (.iconst 0, 1) := by decide +kernel
theorem dX6_sheet_38 : decode cX6_sheet 38 = .ok (.istore 4, 2) := by decide +kernel
theorem dX6_sheet_40 : decode cX6_sheet 40 = .ok (.iload 4, 2) := by decide +kernel
theorem dX6_sheet_42 : decode cX6_sheet 42 = .ok (.bipush 24, 2) := by decide +kernel
theorem dX6_sheet_44 : decode cX6_sheet 44 = .ok (.if_icmp .ge 22, 3) := by decide +kernel
theorem dX6_sheet_47 : decode cX6_sheet 47 = .ok (.aload_n 0, 1) := by decide +kernel
theorem dX6_sheet_48 : decode cX6_sheet 48 = .ok (.getfield 26, 3) := by decide +kernel
theorem dX6_sheet_51 : decode cX6_sheet 51 = .ok (.bipush 24, 2) := by decide +kernel
theorem dX6_sheet_53 : decode cX6_sheet 53 = .ok (.iload_n 1, 1) := by decide +kernel
theorem dX6_sheet_54 : decode cX6_sheet 54 = .ok (.imul, 1) := by decide +kernel
theorem dX6_sheet_55 : decode cX6_sheet 55 = .ok (.iload 4, 2) := by decide +kernel
theorem dX6_sheet_57 : decode cX6_sheet 57 = .ok (.iadd, 1) := by decide +kernel
theorem dX6_sheet_58 : decode cX6_sheet 58 = .ok (.iconst 0, 1) := by decide +kernel
theorem dX6_sheet_59 : decode cX6_sheet 59 = .ok (.iastore, 1) := by decide +kernel
theorem dX6_sheet_60 : decode cX6_sheet 60 = .ok (.iinc 4 1, 3) := by decide +kernel
theorem dX6_sheet_63 : decode cX6_sheet 63 = .ok (.goto (-23), 3) := by decide +kernel
theorem dX6_sheet_66 : decode cX6_sheet 66 = .ok (.iload_n 3, 1) := by decide +kernel
theorem dX6_sheet_67 : decode cX6_sheet 67 = .ok (.ireturn, 1) := by decide +kernel
theorem dX6_drop_0 : decode cX6_drop 0 = .ok (.iload_n 1, 1) := by decide +kernel
theorem dX6_drop_1 : decode cX6_drop 1 = .ok (.i2l, 1) := by decide +kernel
theorem dX6_drop_2 : decode cX6_drop 2 = .ok (.lconst 0, 1) := by decide +kernel
theorem dX6_drop_3 : decode cX6_drop 3 = .ok (.ldc2_w 112, 3) := by decide +kernel
theorem dX6_drop_6 : decode cX6_drop 6 = .ok (.invokestatic 71, 3) := by decide +kernel
theorem dX6_drop_9 : decode cX6_drop 9 = .ok (.ifCond .ne 5, 3) := by decide +kernel
theorem dX6_drop_12 : decode cX6_drop 12 = .ok (.iconst (-1), 1) := by decide +kernel
theorem dX6_drop_13 : decode cX6_drop 13 = .ok (.ireturn, 1) := by decide +kernel
theorem dX6_drop_14 : decode cX6_drop 14 = .ok (.aload_n 0, 1) := by decide +kernel
theorem dX6_drop_15 : decode cX6_drop 15 = .ok (.getfield 20, 3) := by decide +kernel
theorem dX6_drop_18 : decode cX6_drop 18 = .ok (.iload_n 1, 1) := by decide +kernel
theorem dX6_drop_19 : decode cX6_drop 19 = .ok (.iaload, 1) := by decide +kernel
theorem dX6_drop_20 : decode cX6_drop 20 = .ok (.ifCond .ge 6, 3) := by decide +kernel
theorem dX6_drop_23 : decode cX6_drop 23 = .ok (.bipush (-11), 2) := by decide +kernel
theorem dX6_drop_25 : decode cX6_drop 25 = .ok (.ireturn, 1) := by decide +kernel
theorem dX6_drop_26 : decode cX6_drop 26 = .ok (.aload_n 0, 1) := by decide +kernel
theorem dX6_drop_27 : decode cX6_drop 27 = .ok (.getfield 20, 3) := by decide +kernel
theorem dX6_drop_30 : decode cX6_drop 30 = .ok (.iload_n 1, 1) := by decide +kernel
theorem dX6_drop_31 : decode cX6_drop 31 = .ok (.iconst (-1), 1) := by decide +kernel
theorem dX6_drop_32 : decode cX6_drop 32 = .ok (.iastore, 1) := by decide +kernel
theorem dX6_drop_33 : decode cX6_drop 33 = .ok (.aload_n 0, 1) := by decide +kernel
theorem dX6_drop_34 : decode cX6_drop 34 = .ok (.getfield 23, 3) := by decide +kernel
theorem dX6_drop_37 : decode cX6_drop 37 = .ok (.iload_n 1, 1) := by decide +kernel
theorem dX6_drop_38 : decode cX6_drop 38 = .ok (.iaload, 1) := by decide +kernel
theorem dX6_drop_39 : decode cX6_drop 39 = .ok (.ireturn, 1) := by decide +kernel
theorem dX6_against_0 : decode cX6_against 0 = .ok (.aload_n 0, 1) := by decide +kernel
theorem dX6_against_1 : decode cX6_against 1 = .ok (.getfield 20, 3) := by decide +kernel
theorem dX6_against_4 : decode cX6_against 4 = .ok (.iload_n 1, 1) := by decide +kernel
theorem dX6_against_5 : decode cX6_against 5 = .ok (.iaload, 1) := by decide +kernel
theorem dX6_against_6 : decode cX6_against 6 = .ok (.iload_n 2, 1) := by decide +kernel
theorem dX6_against_7 : decode cX6_against 7 = .ok (.if_icmp .ne 7, 3) := by decide +kernel
theorem dX6_against_10 : decode cX6_against 10 = .ok (.iconst 0, 1) := by decide +kernel
theorem dX6_against_11 : decode cX6_against 11 = .ok (.goto 19, 3) := by decide +kernel
theorem dX6_against_14 : decode cX6_against 14 = .ok (.aload_n 0, 1) := by decide +kernel
theorem dX6_against_15 : decode cX6_against 15 = .ok (.getfield 20, 3) := by decide +kernel
theorem dX6_against_18 : decode cX6_against 18 = .ok (.iload_n 1, 1) := by decide +kernel
theorem dX6_against_19 : decode cX6_against 19 = .ok (.iaload, 1) := by decide +kernel
theorem dX6_against_20 : decode cX6_against 20 = .ok (.ifCond .ge 8, 3) := by decide +kernel
theorem dX6_against_23 : decode cX6_against 23 = .ok (.bipush (-11), 2) := by decide +kernel
theorem dX6_against_25 : decode cX6_against 25 = .ok (.goto 5, 3) := by decide +kernel
theorem dX6_against_28 : decode cX6_against 28 = .ok (.bipush (-12), 2) := by decide +kernel
theorem dX6_against_30 : decode cX6_against 30 = .ok (.ireturn, 1) := by decide +kernel
theorem dX6_item_0 : decode cX6_item 0 = .ok (.iload_n 1, 1) := by decide +kernel
theorem dX6_item_1 : decode cX6_item 1 = .ok (.iload_n 2, 1) := by decide +kernel
theorem dX6_item_2 : decode cX6_item 2 = .ok (.invokestatic 114, 3) := by decide +kernel
theorem dX6_item_5 : decode cX6_item 5 = .ok (.ifCond .ne 5, 3) := by decide +kernel
theorem dX6_item_8 : decode cX6_item 8 = .ok (.iconst (-1), 1) := by decide +kernel
theorem dX6_item_9 : decode cX6_item 9 = .ok (.ireturn, 1) := by decide +kernel
theorem dX6_item_10 : decode cX6_item 10 = .ok (.aload_n 0, 1) := by decide +kernel
theorem dX6_item_11 : decode cX6_item 11 = .ok (.iload_n 1, 1) := by decide +kernel
theorem dX6_item_12 : decode cX6_item 12 = .ok (.iload_n 2, 1) := by decide +kernel
theorem dX6_item_13 : decode cX6_item 13 = .ok (.invokevirtual 118, 3) := by decide +kernel
theorem dX6_item_16 : decode cX6_item 16 = .ok (.istore 5, 2) := by decide +kernel
theorem dX6_item_18 : decode cX6_item 18 = .ok (.iload 5, 2) := by decide +kernel
theorem dX6_item_20 : decode cX6_item 20 = .ok (.ifCond .ge 6, 3) := by decide +kernel
theorem dX6_item_23 : decode cX6_item 23 = .ok (.iload 5, 2) := by decide +kernel
theorem dX6_item_25 : decode cX6_item 25 = .ok (.ireturn, 1) := by decide +kernel
theorem dX6_item_26 : decode cX6_item 26 = .ok (.iload_n 3, 1) := by decide +kernel
theorem dX6_item_27 : decode cX6_item 27 = .ok (.i2l, 1) := by decide +kernel
theorem dX6_item_28 : decode cX6_item 28 = .ok (.lconst 0, 1) := by decide +kernel
theorem dX6_item_29 : decode cX6_item 29 = .ok (.aload_n 0, 1) := by decide +kernel
theorem dX6_item_30 : decode cX6_item 30 = .ok (.getfield 23, 3) := by decide +kernel
theorem dX6_item_33 : decode cX6_item 33 = .ok (.iload_n 1, 1) := by decide +kernel
theorem dX6_item_34 : decode cX6_item 34 = .ok (.iaload, 1) := by decide +kernel
theorem dX6_item_35 : decode cX6_item 35 = .ok (.iconst 1, 1) := by decide +kernel
theorem dX6_item_36 : decode cX6_item 36 = .ok (.isub, 1) := by decide +kernel
theorem dX6_item_37 : decode cX6_item 37 = .ok (.i2l, 1) := by decide +kernel
theorem dX6_item_38 : decode cX6_item 38 = .ok (.invokestatic 71, 3) := by decide +kernel
theorem dX6_item_41 : decode cX6_item 41 = .ok (.ifCond .ne 6, 3) := by decide +kernel
theorem dX6_item_44 : decode cX6_item 44 = .ok (.bipush (-13), 2) := by decide +kernel
theorem dX6_item_46 : decode cX6_item 46 = .ok (.ireturn, 1) := by decide +kernel
theorem dX6_item_47 : decode cX6_item 47 = .ok (.aload_n 0, 1) := by decide +kernel
theorem dX6_item_48 : decode cX6_item 48 = .ok (.getfield 26, 3) := by decide +kernel
theorem dX6_item_51 : decode cX6_item 51 = .ok (.bipush 24, 2) := by decide +kernel
theorem dX6_item_53 : decode cX6_item 53 = .ok (.iload_n 1, 1) := by decide +kernel
theorem dX6_item_54 : decode cX6_item 54 = .ok (.imul, 1) := by decide +kernel
theorem dX6_item_55 : decode cX6_item 55 = .ok (.iload_n 3, 1) := by decide +kernel
theorem dX6_item_56 : decode cX6_item 56 = .ok (.iadd, 1) := by decide +kernel
theorem dX6_item_57 : decode cX6_item 57 = .ok (.iload_n 2, 1) := by decide +kernel
theorem dX6_item_58 : decode cX6_item 58 = .ok (.ifCond .ne 14, 3) := by decide +kernel
theorem dX6_item_61 : decode cX6_item 61 = .ok (.iload 4, 2) := by decide +kernel
theorem dX6_item_63 : decode cX6_item 63 = .ok (.bipush 16, 2) := by decide +kernel
theorem dX6_item_65 : decode cX6_item 65 = .ok (.ishl, 1) := by decide +kernel
theorem dX6_item_66 : decode cX6_item 66 = .ok (.bipush 16, 2) := by decide +kernel
theorem dX6_item_68 : decode cX6_item 68 = .ok (.ishr, 1) := by decide +kernel
theorem dX6_item_69 : decode cX6_item 69 = .ok (.goto 5, 3) := by decide +kernel
theorem dX6_item_72 : decode cX6_item 72 = .ok (.iload 4, 2) := by decide +kernel
theorem dX6_item_74 : decode cX6_item 74 = .ok (.iastore, 1) := by decide +kernel
theorem dX6_item_75 : decode cX6_item 75 = .ok (.iconst 1, 1) := by decide +kernel
theorem dX6_item_76 : decode cX6_item 76 = .ok (.ireturn, 1) := by decide +kernel
theorem dX6_source_0 : decode cX6_source 0 = .ok (.iload_n 1, 1) := by decide +kernel
theorem dX6_source_1 : decode cX6_source 1 = .ok (.i2l, 1) := by decide +kernel
theorem dX6_source_2 : decode cX6_source 2 = .ok (.lconst 0, 1) := by decide +kernel
theorem dX6_source_3 : decode cX6_source 3 = .ok (.ldc2_w 79, 3) := by decide +kernel
theorem dX6_source_6 : decode cX6_source 6 = .ok (.invokestatic 71, 3) := by decide +kernel
theorem dX6_source_9 : decode cX6_source 9 = .ok (.ifCond .eq 24, 3) := by decide +kernel
theorem dX6_source_12 : decode cX6_source 12 = .ok (.iload_n 2, 1) := by decide +kernel
theorem dX6_source_13 : decode cX6_source 13 = .ok (.i2l, 1) := by decide +kernel
theorem dX6_source_14 : decode cX6_source 14 = .ok (.lconst 0, 1) := by decide +kernel
theorem dX6_source_15 : decode cX6_source 15 = .ok (.ldc2_w 92, 3) := by decide +kernel
theorem dX6_source_18 : decode cX6_source 18 = .ok (.invokestatic 71, 3) := by decide +kernel
theorem dX6_source_21 : decode cX6_source 21 = .ok (.ifCond .eq 12, 3) := by decide +kernel
theorem dX6_source_24 : decode cX6_source 24 = .ok (.iload_n 3, 1) := by decide +kernel
theorem dX6_source_25 : decode cX6_source 25 = .ok (.iload 4, 2) := by decide +kernel
theorem dX6_source_27 : decode cX6_source 27 = .ok (.invokestatic 114, 3) := by decide +kernel
theorem dX6_source_30 : decode cX6_source 30 = .ok (.ifCond .ne 5, 3) := by decide +kernel
theorem dX6_source_33 : decode cX6_source 33 = .ok (.iconst (-1), 1) := by decide +kernel
theorem dX6_source_34 : decode cX6_source 34 = .ok (.ireturn, 1) := by decide +kernel
theorem dX6_source_35 : decode cX6_source 35 = .ok (.aload_n 0, 1) := by decide +kernel
theorem dX6_source_36 : decode cX6_source 36 = .ok (.iload_n 3, 1) := by decide +kernel
theorem dX6_source_37 : decode cX6_source 37 = .ok (.iload 4, 2) := by decide +kernel
theorem dX6_source_39 : decode cX6_source 39 = .ok (.invokevirtual 118, 3) := by decide +kernel
theorem dX6_source_42 : decode cX6_source 42 = .ok (.istore 5, 2) := by decide +kernel
theorem dX6_source_44 : decode cX6_source 44 = .ok (.iload 5, 2) := by decide +kernel
theorem dX6_source_46 : decode cX6_source 46 = .ok (.ifCond .ge 6, 3) := by decide +kernel
theorem dX6_source_49 : decode cX6_source 49 = .ok (.iload 5, 2) := by decide +kernel
theorem dX6_source_51 : decode cX6_source 51 = .ok (.ireturn, 1) := by decide +kernel
theorem dX6_source_52 : decode cX6_source 52 = .ok (.aload_n 0, 1) := by decide +kernel
theorem dX6_source_53 : decode cX6_source 53 = .ok (.getfield 23, 3) := by decide +kernel
theorem dX6_source_56 : decode cX6_source 56 = .ok (.iload_n 3, 1) := by decide +kernel
theorem dX6_source_57 : decode cX6_source 57 = .ok (.iaload, 1) := by decide +kernel
theorem dX6_source_58 : decode cX6_source 58 = .ok (.bipush 24, 2) := by decide +kernel
theorem dX6_source_60 : decode cX6_source 60 = .ok (.if_icmp .ge 6, 3) := by decide +kernel
theorem dX6_source_63 : decode cX6_source 63 = .ok (.bipush (-13), 2) := by decide +kernel
theorem dX6_source_65 : decode cX6_source 65 = .ok (.ireturn, 1) := by decide +kernel
theorem dX6_source_66 : decode cX6_source 66 = .ok (.iconst 0, 1) := by decide +kernel
theorem dX6_source_67 : decode cX6_source 67 = .ok (.istore 6, 2) := by decide +kernel
theorem dX6_source_69 : decode cX6_source 69 = .ok (.iconst 0, 1) := by decide +kernel
theorem dX6_source_70 : decode cX6_source 70 = .ok (.istore 7, 2) := by decide +kernel
theorem dX6_source_72 : decode cX6_source 72 = .ok (.iload 7, 2) := by decide +kernel
theorem dX6_source_74 : decode cX6_source 74 = .ok (.bipush 24, 2) := by decide +kernel
theorem dX6_source_76 : decode cX6_source 76 = .ok (.if_icmp .ge 52, 3) := by decide +kernel
theorem dX6_source_79 : decode cX6_source 79 = .ok (.aload_n 0, 1) := by decide +kernel
theorem dX6_source_80 : decode cX6_source 80 = .ok (.getfield 26, 3) := by decide +kernel
theorem dX6_source_83 : decode cX6_source 83 = .ok (.bipush 24, 2) := by decide +kernel
theorem dX6_source_85 : decode cX6_source 85 = .ok (.iload_n 3, 1) := by decide +kernel
theorem dX6_source_86 : decode cX6_source 86 = .ok (.imul, 1) := by decide +kernel
theorem dX6_source_87 : decode cX6_source 87 = .ok (.iload 7, 2) := by decide +kernel
theorem dX6_source_89 : decode cX6_source 89 = .ok (.iadd, 1) := by decide +kernel
theorem dX6_source_90 : decode cX6_source 90 = .ok (.iaload, 1) := by decide +kernel
theorem dX6_source_91 : decode cX6_source 91 = .ok (.i2l, 1) := by decide +kernel
theorem dX6_source_92 : decode cX6_source 92 = .ok (.lconst 0, 1) := by decide +kernel
theorem dX6_source_93 : decode cX6_source 93 = .ok (.ldc2_w 121, 3) := by decide +kernel
theorem dX6_source_96 : decode cX6_source 96 = .ok (.invokestatic 71, 3) := by decide +kernel
theorem dX6_source_99 : decode cX6_source 99 = .ok (.ifCond .ne 6, 3) := by decide +kernel
theorem dX6_source_102 : decode cX6_source 102 = .ok (.bipush (-2), 2) := by decide +kernel
theorem dX6_source_104 : decode cX6_source 104 = .ok (.ireturn, 1) := by decide +kernel
theorem dX6_source_105 : decode cX6_source 105 = .ok (.iload 6, 2) := by decide +kernel
theorem dX6_source_107 : decode cX6_source 107 = .ok (.aload_n 0, 1) := by decide +kernel
theorem dX6_source_108 : decode cX6_source 108 = .ok (.getfield 26, 3) := by decide +kernel
theorem dX6_source_111 : decode cX6_source 111 = .ok (.bipush 24, 2) := by decide +kernel
theorem dX6_source_113 : decode cX6_source 113 = .ok (.iload_n 3, 1) := by decide +kernel
theorem dX6_source_114 : decode cX6_source 114 = .ok (.imul, 1) := by decide +kernel
theorem dX6_source_115 : decode cX6_source 115 = .ok (.iload 7, 2) := by decide +kernel
theorem dX6_source_117 : decode cX6_source 117 = .ok (.iadd, 1) := by decide +kernel
theorem dX6_source_118 : decode cX6_source 118 = .ok (.iaload, 1) := by decide +kernel
theorem dX6_source_119 : decode cX6_source 119 = .ok (.iadd, 1) := by decide +kernel
theorem dX6_source_120 : decode cX6_source 120 = .ok (.istore 6, 2) := by decide +kernel
theorem dX6_source_122 : decode cX6_source 122 = .ok (.iinc 7 1, 3) := by decide +kernel
theorem dX6_source_125 : decode cX6_source 125 = .ok (.goto (-53), 3) := by decide +kernel
theorem dX6_source_128 : decode cX6_source 128 = .ok (.aload_n 0, 1) := by decide +kernel
theorem dX6_source_129 : decode cX6_source 129 = .ok (.getfield 29, 3) := by decide +kernel
theorem dX6_source_132 : decode cX6_source 132 = .ok (.iload_n 1, 1) := by decide +kernel
theorem dX6_source_133 : decode cX6_source 133 = .ok (.iload_n 2, 1) := by decide +kernel
theorem dX6_source_134 : decode cX6_source 134 = .ok (.iastore, 1) := by decide +kernel
theorem dX6_source_135 : decode cX6_source 135 = .ok (.iconst 0, 1) := by decide +kernel
theorem dX6_source_136 : decode cX6_source 136 = .ok (.istore 7, 2) := by decide +kernel
theorem dX6_source_138 : decode cX6_source 138 = .ok (.iload 7, 2) := by decide +kernel
theorem dX6_source_140 : decode cX6_source 140 = .ok (.bipush 24, 2) := by decide +kernel
theorem dX6_source_142 : decode cX6_source 142 = .ok (.if_icmp .ge 33, 3) := by decide +kernel
theorem dX6_source_145 : decode cX6_source 145 = .ok (.aload_n 0, 1) := by decide +kernel
theorem dX6_source_146 : decode cX6_source 146 = .ok (.getfield 32, 3) := by decide +kernel
theorem dX6_source_149 : decode cX6_source 149 = .ok (.bipush 24, 2) := by decide +kernel
theorem dX6_source_151 : decode cX6_source 151 = .ok (.iload_n 1, 1) := by decide +kernel
theorem dX6_source_152 : decode cX6_source 152 = .ok (.imul, 1) := by decide +kernel
theorem dX6_source_153 : decode cX6_source 153 = .ok (.iload 7, 2) := by decide +kernel
theorem dX6_source_155 : decode cX6_source 155 = .ok (.iadd, 1) := by decide +kernel
theorem dX6_source_156 : decode cX6_source 156 = .ok (.aload_n 0, 1) := by decide +kernel
theorem dX6_source_157 : decode cX6_source 157 = .ok (.getfield 26, 3) := by decide +kernel
theorem dX6_source_160 : decode cX6_source 160 = .ok (.bipush 24, 2) := by decide +kernel
theorem dX6_source_162 : decode cX6_source 162 = .ok (.iload_n 3, 1) := by decide +kernel
theorem dX6_source_163 : decode cX6_source 163 = .ok (.imul, 1) := by decide +kernel
theorem dX6_source_164 : decode cX6_source 164 = .ok (.iload 7, 2) := by decide +kernel
theorem dX6_source_166 : decode cX6_source 166 = .ok (.iadd, 1) := by decide +kernel
theorem dX6_source_167 : decode cX6_source 167 = .ok (.iaload, 1) := by decide +kernel
theorem dX6_source_168 : decode cX6_source 168 = .ok (.iastore, 1) := by decide +kernel
theorem dX6_source_169 : decode cX6_source 169 = .ok (.iinc 7 1, 3) := by decide +kernel
theorem dX6_source_172 : decode cX6_source 172 = .ok (.goto (-34), 3) := by decide +kernel
theorem dX6_source_175 : decode cX6_source 175 = .ok (.iload 6, 2) := by decide +kernel
theorem dX6_source_177 : decode cX6_source 177 = .ok (.ireturn, 1) := by decide +kernel
theorem dX6_carry_0 : decode cX6_carry 0 = .ok (.aload_n 0, 1) := by decide +kernel
theorem dX6_carry_1 : decode cX6_carry 1 = .ok (.getfield 32, 3) := by decide +kernel
theorem dX6_carry_4 : decode cX6_carry 4 = .ok (.bipush 24, 2) := by decide +kernel
theorem dX6_carry_6 : decode cX6_carry 6 = .ok (.iload_n 1, 1) := by decide +kernel
theorem dX6_carry_7 : decode cX6_carry 7 = .ok (.imul, 1) := by decide +kernel
theorem dX6_carry_8 : decode cX6_carry 8 = .ok (.aload_n 0, 1) := by decide +kernel
theorem dX6_carry_9 : decode cX6_carry 9 = .ok (.getfield 123, 3) := by decide +kernel
theorem dX6_carry_12 : decode cX6_carry 12 = .ok (.bipush 24, 2) := by decide +kernel
theorem dX6_carry_14 : decode cX6_carry 14 = .ok (.irem, 1) := by decide +kernel
theorem dX6_carry_15 : decode cX6_carry 15 = .ok (.iadd, 1) := by decide +kernel
theorem dX6_carry_16 : decode cX6_carry 16 = .ok (.iaload, 1) := by decide +kernel
theorem dX6_carry_17 : decode cX6_carry 17 = .ok (.istore_n 3, 1) := by decide +kernel
theorem dX6_carry_18 : decode cX6_carry 18 = .ok (.aload_n 0, 1) := by decide +kernel
theorem dX6_carry_19 : decode cX6_carry 19 = .ok (.getfield 35, 3) := by decide +kernel
theorem dX6_carry_22 : decode cX6_carry 22 = .ok (.bipush 9, 2) := by decide +kernel
theorem dX6_carry_24 : decode cX6_carry 24 = .ok (.iload_n 1, 1) := by decide +kernel
theorem dX6_carry_25 : decode cX6_carry 25 = .ok (.imul, 1) := by decide +kernel
theorem dX6_carry_26 : decode cX6_carry 26 = .ok (.aload_n 0, 1) := by decide +kernel
theorem dX6_carry_27 : decode cX6_carry 27 = .ok (.getfield 29, 3) := by decide +kernel
theorem dX6_carry_30 : decode cX6_carry 30 = .ok (.iload_n 1, 1) := by decide +kernel
theorem dX6_carry_31 : decode cX6_carry 31 = .ok (.iaload, 1) := by decide +kernel
theorem dX6_carry_32 : decode cX6_carry 32 = .ok (.iadd, 1) := by decide +kernel
theorem dX6_carry_33 : decode cX6_carry 33 = .ok (.dup2, 1) := by decide +kernel
theorem dX6_carry_34 : decode cX6_carry 34 = .ok (.laload, 1) := by decide +kernel
theorem dX6_carry_35 : decode cX6_carry 35 = .ok (.iload_n 3, 1) := by decide +kernel
theorem dX6_carry_36 : decode cX6_carry 36 = .ok (.i2l, 1) := by decide +kernel
theorem dX6_carry_37 : decode cX6_carry 37 = .ok (.ladd, 1) := by decide +kernel
theorem dX6_carry_38 : decode cX6_carry 38 = .ok (.lastore, 1) := by decide +kernel
theorem dX6_carry_39 : decode cX6_carry 39 = .ok (.aload_n 0, 1) := by decide +kernel
theorem dX6_carry_40 : decode cX6_carry 40 = .ok (.getfield 38, 3) := by decide +kernel
theorem dX6_carry_43 : decode cX6_carry 43 = .ok (.iconst 4, 1) := by decide +kernel
theorem dX6_carry_44 : decode cX6_carry 44 = .ok (.iload_n 1, 1) := by decide +kernel
theorem dX6_carry_45 : decode cX6_carry 45 = .ok (.imul, 1) := by decide +kernel
theorem dX6_carry_46 : decode cX6_carry 46 = .ok (.dup2, 1) := by decide +kernel
theorem dX6_carry_47 : decode cX6_carry 47 = .ok (.laload, 1) := by decide +kernel
theorem dX6_carry_48 : decode cX6_carry 48 = .ok (.iload_n 3, 1) := by decide +kernel
theorem dX6_carry_49 : decode cX6_carry 49 = .ok (.i2l, 1) := by decide +kernel
theorem dX6_carry_50 : decode cX6_carry 50 = .ok (.ladd, 1) := by decide +kernel
theorem dX6_carry_51 : decode cX6_carry 51 = .ok (.lastore, 1) := by decide +kernel
theorem dX6_carry_52 : decode cX6_carry 52 = .ok (.iconst 0, 1) := by decide +kernel
theorem dX6_carry_53 : decode cX6_carry 53 = .ok (.istore 4, 2) := by decide +kernel
theorem dX6_carry_55 : decode cX6_carry 55 = .ok (.iload 4, 2) := by decide +kernel
theorem dX6_carry_57 : decode cX6_carry 57 = .ok (.bipush 9, 2) := by decide +kernel
theorem dX6_carry_59 : decode cX6_carry 59 = .ok (.if_icmp .ge 17, 3) := by decide +kernel
theorem dX6_carry_62 : decode cX6_carry 62 = .ok (.aload_n 0, 1) := by decide +kernel
theorem dX6_carry_63 : decode cX6_carry 63 = .ok (.getfield 41, 3) := by decide +kernel
theorem dX6_carry_66 : decode cX6_carry 66 = .ok (.iload 4, 2) := by decide +kernel
theorem dX6_carry_68 : decode cX6_carry 68 = .ok (.lconst 0, 1) := by decide +kernel
theorem dX6_carry_69 : decode cX6_carry 69 = .ok (.lastore, 1) := by decide +kernel
theorem dX6_carry_70 : decode cX6_carry 70 = .ok (.iinc 4 1, 3) := by decide +kernel
theorem dX6_carry_73 : decode cX6_carry 73 = .ok (.goto (-18), 3) := by decide +kernel
theorem dX6_carry_76 : decode cX6_carry 76 = .ok (.iconst 0, 1) := by decide +kernel
theorem dX6_carry_77 : decode cX6_carry 77 = .ok (.istore 4, 2) := by decide +kernel
theorem dX6_carry_79 : decode cX6_carry 79 = .ok (.iload 4, 2) := by decide +kernel
theorem dX6_carry_81 : decode cX6_carry 81 = .ok (.bipush 9, 2) := by decide +kernel
theorem dX6_carry_83 : decode cX6_carry 83 = .ok (.if_icmp .ge 258, 3) := by decide +kernel
theorem dX6_carry_86 : decode cX6_carry 86 = .ok (.aload_n 0, 1) := by decide +kernel
theorem dX6_carry_87 : decode cX6_carry 87 = .ok (.getfield 35, 3) := by decide +kernel
theorem dX6_carry_90 : decode cX6_carry 90 = .ok (.bipush 9, 2) := by decide +kernel
theorem dX6_carry_92 : decode cX6_carry 92 = .ok (.iload_n 1, 1) := by decide +kernel
theorem dX6_carry_93 : decode cX6_carry 93 = .ok (.imul, 1) := by decide +kernel
theorem dX6_carry_94 : decode cX6_carry 94 = .ok (.iload 4, 2) := by decide +kernel
theorem dX6_carry_96 : decode cX6_carry 96 = .ok (.iadd, 1) := by decide +kernel
theorem dX6_carry_97 : decode cX6_carry 97 = .ok (.laload, 1) := by decide +kernel
theorem dX6_carry_98 : decode cX6_carry 98 = .ok (.lstore 5, 2) := by decide +kernel
theorem dX6_carry_100 : decode cX6_carry 100 = .ok (.lload 5, 2) := by decide +kernel
theorem dX6_carry_102 : decode cX6_carry 102 = .ok (.iload_n 2, 1) := by decide +kernel
theorem dX6_carry_103 : decode cX6_carry 103 = .ok (.i2l, 1) := by decide +kernel
theorem dX6_carry_104 : decode cX6_carry 104 = .ok (.lmul, 1) := by decide +kernel
theorem dX6_carry_105 : decode cX6_carry 105 = .ok (.ldc2_w 127, 3) := by decide +kernel
theorem dX6_carry_108 : decode cX6_carry 108 = .ok (.ldiv, 1) := by decide +kernel
theorem dX6_carry_109 : decode cX6_carry 109 = .ok (.lstore 7, 2) := by decide +kernel
theorem dX6_carry_111 : decode cX6_carry 111 = .ok (.lload 5, 2) := by decide +kernel
theorem dX6_carry_113 : decode cX6_carry 113 = .ok (.lload 7, 2) := by decide +kernel
theorem dX6_carry_115 : decode cX6_carry 115 = .ok (.lsub, 1) := by decide +kernel
theorem dX6_carry_116 : decode cX6_carry 116 = .ok (.ldc2_w 127, 3) := by decide +kernel
theorem dX6_carry_119 : decode cX6_carry 119 = .ok (.ldiv, 1) := by decide +kernel
theorem dX6_carry_120 : decode cX6_carry 120 = .ok (.lstore 9, 2) := by decide +kernel
theorem dX6_carry_122 : decode cX6_carry 122 = .ok (.lload 5, 2) := by decide +kernel
theorem dX6_carry_124 : decode cX6_carry 124 = .ok (.lload 7, 2) := by decide +kernel
theorem dX6_carry_126 : decode cX6_carry 126 = .ok (.lsub, 1) := by decide +kernel
theorem dX6_carry_127 : decode cX6_carry 127 = .ok (.lload 9, 2) := by decide +kernel
theorem dX6_carry_129 : decode cX6_carry 129 = .ok (.lsub, 1) := by decide +kernel
theorem dX6_carry_130 : decode cX6_carry 130 = .ok (.lstore 11, 2) := by decide +kernel
theorem dX6_carry_132 : decode cX6_carry 132 = .ok (.aload_n 0, 1) := by decide +kernel
theorem dX6_carry_133 : decode cX6_carry 133 = .ok (.getfield 38, 3) := by decide +kernel
theorem dX6_carry_136 : decode cX6_carry 136 = .ok (.iconst 4, 1) := by decide +kernel
theorem dX6_carry_137 : decode cX6_carry 137 = .ok (.iload_n 1, 1) := by decide +kernel
theorem dX6_carry_138 : decode cX6_carry 138 = .ok (.imul, 1) := by decide +kernel
theorem dX6_carry_139 : decode cX6_carry 139 = .ok (.iconst 1, 1) := by decide +kernel
theorem dX6_carry_140 : decode cX6_carry 140 = .ok (.iadd, 1) := by decide +kernel
theorem dX6_carry_141 : decode cX6_carry 141 = .ok (.dup2, 1) := by decide +kernel
theorem dX6_carry_142 : decode cX6_carry 142 = .ok (.laload, 1) := by decide +kernel
theorem dX6_carry_143 : decode cX6_carry 143 = .ok (.lload 7, 2) := by decide +kernel
theorem dX6_carry_145 : decode cX6_carry 145 = .ok (.ladd, 1) := by decide +kernel
theorem dX6_carry_146 : decode cX6_carry 146 = .ok (.lastore, 1) := by decide +kernel
theorem dX6_carry_147 : decode cX6_carry 147 = .ok (.aload_n 0, 1) := by decide +kernel
theorem dX6_carry_148 : decode cX6_carry 148 = .ok (.getfield 38, 3) := by decide +kernel
theorem dX6_carry_151 : decode cX6_carry 151 = .ok (.iconst 4, 1) := by decide +kernel
theorem dX6_carry_152 : decode cX6_carry 152 = .ok (.iload_n 1, 1) := by decide +kernel
theorem dX6_carry_153 : decode cX6_carry 153 = .ok (.imul, 1) := by decide +kernel
theorem dX6_carry_154 : decode cX6_carry 154 = .ok (.iconst 2, 1) := by decide +kernel
theorem dX6_carry_155 : decode cX6_carry 155 = .ok (.iadd, 1) := by decide +kernel
theorem dX6_carry_156 : decode cX6_carry 156 = .ok (.dup2, 1) := by decide +kernel
theorem dX6_carry_157 : decode cX6_carry 157 = .ok (.laload, 1) := by decide +kernel
theorem dX6_carry_158 : decode cX6_carry 158 = .ok (.lload 9, 2) := by decide +kernel
theorem dX6_carry_160 : decode cX6_carry 160 = .ok (.ladd, 1) := by decide +kernel
theorem dX6_carry_161 : decode cX6_carry 161 = .ok (.lastore, 1) := by decide +kernel
theorem dX6_carry_162 : decode cX6_carry 162 = .ok (.aload_n 0, 1) := by decide +kernel
theorem dX6_carry_163 : decode cX6_carry 163 = .ok (.getfield 41, 3) := by decide +kernel
theorem dX6_carry_166 : decode cX6_carry 166 = .ok (.iload 4, 2) := by decide +kernel
theorem dX6_carry_168 : decode cX6_carry 168 = .ok (.dup2, 1) := by decide +kernel
theorem dX6_carry_169 : decode cX6_carry 169 = .ok (.laload, 1) := by decide +kernel
theorem dX6_carry_170 : decode cX6_carry 170 = .ok (.lload 11, 2) := by decide +kernel
theorem dX6_carry_172 : decode cX6_carry 172 = .ok (.ladd, 1) := by decide +kernel
theorem dX6_carry_173 : decode cX6_carry 173 = .ok (.lastore, 1) := by decide +kernel
theorem dX6_carry_174 : decode cX6_carry 174 = .ok (.iconst 0, 1) := by decide +kernel
theorem dX6_carry_175 : decode cX6_carry 175 = .ok (.istore 13, 2) := by decide +kernel
theorem dX6_carry_177 : decode cX6_carry 177 = .ok (.iload 13, 2) := by decide +kernel
theorem dX6_carry_179 : decode cX6_carry 179 = .ok (.bipush 24, 2) := by decide +kernel
theorem dX6_carry_181 : decode cX6_carry 181 = .ok (.if_icmp .ge 154, 3) := by decide +kernel
theorem dX6_carry_184 : decode cX6_carry 184 = .ok (.iload 13, 2) := by decide +kernel
theorem dX6_carry_186 : decode cX6_carry 186 = .ok (.invokestatic 85, 3) := by decide +kernel
theorem dX6_carry_189 : decode cX6_carry 189 = .ok (.iload 4, 2) := by decide +kernel
theorem dX6_carry_191 : decode cX6_carry 191 = .ok (.if_icmp .ne 7, 3) := by decide +kernel
theorem dX6_carry_194 : decode cX6_carry 194 = .ok (.iconst 1, 1) := by decide +kernel
theorem dX6_carry_195 : decode cX6_carry 195 = .ok (.goto 4, 3) := by decide +kernel
theorem dX6_carry_198 : decode cX6_carry 198 = .ok (.iconst 0, 1) := by decide +kernel
theorem dX6_carry_199 : decode cX6_carry 199 = .ok (.istore 14, 2) := by decide +kernel
theorem dX6_carry_201 : decode cX6_carry 201 = .ok (.iload 14, 2) := by decide +kernel
theorem dX6_carry_203 : decode cX6_carry 203 = .ok (.ifCond .ne 16, 3) := by decide +kernel
theorem dX6_carry_206 : decode cX6_carry 206 = .ok (.iload 13, 2) := by decide +kernel
theorem dX6_carry_208 : decode cX6_carry 208 = .ok (.invokestatic 89, 3) := by decide +kernel
theorem dX6_carry_211 : decode cX6_carry 211 = .ok (.iload 4, 2) := by decide +kernel
theorem dX6_carry_213 : decode cX6_carry 213 = .ok (.if_icmp .eq 6, 3) := by decide +kernel
theorem dX6_carry_216 : decode cX6_carry 216 = .ok (.goto 113, 3) := by decide +kernel
theorem dX6_carry_219 : decode cX6_carry 219 = .ok (.iload 14, 2) := by decide +kernel
theorem dX6_carry_221 : decode cX6_carry 221 = .ok (.ifCond .eq 12, 3) := by decide +kernel
theorem dX6_carry_224 : decode cX6_carry 224 = .ok (.aload_n 0, 1) := by decide +kernel
theorem dX6_carry_225 : decode cX6_carry 225 = .ok (.iload 13, 2) := by decide +kernel
theorem dX6_carry_227 : decode cX6_carry 227 = .ok (.invokevirtual 108, 3) := by decide +kernel
theorem dX6_carry_230 : decode cX6_carry 230 = .ok (.goto 10, 3) := by decide +kernel
theorem dX6_carry_233 : decode cX6_carry 233 = .ok (.aload_n 0, 1) := by decide +kernel
theorem dX6_carry_234 : decode cX6_carry 234 = .ok (.iload 13, 2) := by decide +kernel
theorem dX6_carry_236 : decode cX6_carry 236 = .ok (.invokevirtual 108, 3) := by decide +kernel
theorem dX6_carry_239 : decode cX6_carry 239 = .ok (.lneg, 1) := by decide +kernel
theorem dX6_carry_240 : decode cX6_carry 240 = .ok (.lstore 15, 2) := by decide +kernel
theorem dX6_carry_242 : decode cX6_carry 242 = .ok (.lload 15, 2) := by decide +kernel
theorem dX6_carry_244 : decode cX6_carry 244 = .ok (.lconst 0, 1) := by decide +kernel
theorem dX6_carry_245 : decode cX6_carry 245 = .ok (.lcmp, 1) := by decide +kernel
theorem dX6_carry_246 : decode cX6_carry 246 = .ok (.ifCond .le 83, 3) := by decide +kernel
theorem dX6_carry_249 : decode cX6_carry 249 = .ok (.lload 11, 2) := by decide +kernel
theorem dX6_carry_251 : decode cX6_carry 251 = .ok (.lload 15, 2) := by decide +kernel
theorem dX6_carry_253 : decode cX6_carry 253 = .ok (.lmul, 1) := by decide +kernel
theorem dX6_carry_254 : decode cX6_carry 254 = .ok (.ldc2_w 129, 3) := by decide +kernel
theorem dX6_carry_257 : decode cX6_carry 257 = .ok (.ldiv, 1) := by decide +kernel
theorem dX6_carry_258 : decode cX6_carry 258 = .ok (.lstore 17, 2) := by decide +kernel
theorem dX6_carry_260 : decode cX6_carry 260 = .ok (.iload 14, 2) := by decide +kernel
theorem dX6_carry_262 : decode cX6_carry 262 = .ok (.ifCond .eq 11, 3) := by decide +kernel
theorem dX6_carry_265 : decode cX6_carry 265 = .ok (.iload 13, 2) := by decide +kernel
theorem dX6_carry_267 : decode cX6_carry 267 = .ok (.invokestatic 89, 3) := by decide +kernel
theorem dX6_carry_270 : decode cX6_carry 270 = .ok (.goto 8, 3) := by decide +kernel
theorem dX6_carry_273 : decode cX6_carry 273 = .ok (.iload 13, 2) := by decide +kernel
theorem dX6_carry_275 : decode cX6_carry 275 = .ok (.invokestatic 85, 3) := by decide +kernel
theorem dX6_carry_278 : decode cX6_carry 278 = .ok (.istore 19, 2) := by decide +kernel
theorem dX6_carry_280 : decode cX6_carry 280 = .ok (.aload_n 0, 1) := by decide +kernel
theorem dX6_carry_281 : decode cX6_carry 281 = .ok (.getfield 41, 3) := by decide +kernel
theorem dX6_carry_284 : decode cX6_carry 284 = .ok (.iload 4, 2) := by decide +kernel
theorem dX6_carry_286 : decode cX6_carry 286 = .ok (.dup2, 1) := by decide +kernel
theorem dX6_carry_287 : decode cX6_carry 287 = .ok (.laload, 1) := by decide +kernel
theorem dX6_carry_288 : decode cX6_carry 288 = .ok (.lload 17, 2) := by decide +kernel
theorem dX6_carry_290 : decode cX6_carry 290 = .ok (.lsub, 1) := by decide +kernel
theorem dX6_carry_291 : decode cX6_carry 291 = .ok (.lastore, 1) := by decide +kernel
theorem dX6_carry_292 : decode cX6_carry 292 = .ok (.iload 19, 2) := by decide +kernel
theorem dX6_carry_294 : decode cX6_carry 294 = .ok (.bipush 9, 2) := by decide +kernel
theorem dX6_carry_296 : decode cX6_carry 296 = .ok (.if_icmp .ge 18, 3) := by decide +kernel
theorem dX6_carry_299 : decode cX6_carry 299 = .ok (.aload_n 0, 1) := by decide +kernel
theorem dX6_carry_300 : decode cX6_carry 300 = .ok (.getfield 41, 3) := by decide +kernel
theorem dX6_carry_303 : decode cX6_carry 303 = .ok (.iload 19, 2) := by decide +kernel
theorem dX6_carry_305 : decode cX6_carry 305 = .ok (.dup2, 1) := by decide +kernel
theorem dX6_carry_306 : decode cX6_carry 306 = .ok (.laload, 1) := by decide +kernel
theorem dX6_carry_307 : decode cX6_carry 307 = .ok (.lload 17, 2) := by decide +kernel
theorem dX6_carry_309 : decode cX6_carry 309 = .ok (.ladd, 1) := by decide +kernel
theorem dX6_carry_310 : decode cX6_carry 310 = .ok (.lastore, 1) := by decide +kernel
theorem dX6_carry_311 : decode cX6_carry 311 = .ok (.goto 18, 3) := by decide +kernel
theorem dX6_carry_314 : decode cX6_carry 314 = .ok (.aload_n 0, 1) := by decide +kernel
theorem dX6_carry_315 : decode cX6_carry 315 = .ok (.getfield 38, 3) := by decide +kernel
theorem dX6_carry_318 : decode cX6_carry 318 = .ok (.iconst 4, 1) := by decide +kernel
theorem dX6_carry_319 : decode cX6_carry 319 = .ok (.iload_n 1, 1) := by decide +kernel
theorem dX6_carry_320 : decode cX6_carry 320 = .ok (.imul, 1) := by decide +kernel
theorem dX6_carry_321 : decode cX6_carry 321 = .ok (.iconst 3, 1) := by decide +kernel
theorem dX6_carry_322 : decode cX6_carry 322 = .ok (.iadd, 1) := by decide +kernel
theorem dX6_carry_323 : decode cX6_carry 323 = .ok (.dup2, 1) := by decide +kernel
theorem dX6_carry_324 : decode cX6_carry 324 = .ok (.laload, 1) := by decide +kernel
theorem dX6_carry_325 : decode cX6_carry 325 = .ok (.lload 17, 2) := by decide +kernel
theorem dX6_carry_327 : decode cX6_carry 327 = .ok (.ladd, 1) := by decide +kernel
theorem dX6_carry_328 : decode cX6_carry 328 = .ok (.lastore, 1) := by decide +kernel
theorem dX6_carry_329 : decode cX6_carry 329 = .ok (.iinc 13 1, 3) := by decide +kernel
theorem dX6_carry_332 : decode cX6_carry 332 = .ok (.goto (-155), 3) := by decide +kernel
theorem dX6_carry_335 : decode cX6_carry 335 = .ok (.iinc 4 1, 3) := by decide +kernel
theorem dX6_carry_338 : decode cX6_carry 338 = .ok (.goto (-259), 3) := by decide +kernel
theorem dX6_carry_341 : decode cX6_carry 341 = .ok (.iconst 0, 1) := by decide +kernel
theorem dX6_carry_342 : decode cX6_carry 342 = .ok (.istore 4, 2) := by decide +kernel
theorem dX6_carry_344 : decode cX6_carry 344 = .ok (.iload 4, 2) := by decide +kernel
theorem dX6_carry_346 : decode cX6_carry 346 = .ok (.bipush 9, 2) := by decide +kernel
theorem dX6_carry_348 : decode cX6_carry 348 = .ok (.if_icmp .ge 28, 3) := by decide +kernel
theorem dX6_carry_351 : decode cX6_carry 351 = .ok (.aload_n 0, 1) := by decide +kernel
theorem dX6_carry_352 : decode cX6_carry 352 = .ok (.getfield 35, 3) := by decide +kernel
theorem dX6_carry_355 : decode cX6_carry 355 = .ok (.bipush 9, 2) := by decide +kernel
theorem dX6_carry_357 : decode cX6_carry 357 = .ok (.iload_n 1, 1) := by decide +kernel
end
section
theorem dX6_carry_358 : decode cX6_carry 358 = .ok (.imul, 1) := by decide +kernel
theorem dX6_carry_359 : decode cX6_carry 359 = .ok (.iload 4, 2) := by decide +kernel
theorem dX6_carry_361 : decode cX6_carry 361 = .ok (.iadd, 1) := by decide +kernel
theorem dX6_carry_362 : decode cX6_carry 362 = .ok (.aload_n 0, 1) := by decide +kernel
theorem dX6_carry_363 : decode cX6_carry 363 = .ok (.getfield 41, 3) := by decide +kernel
theorem dX6_carry_366 : decode cX6_carry 366 = .ok (.iload 4, 2) := by decide +kernel
theorem dX6_carry_368 : decode cX6_carry 368 = .ok (.laload, 1) := by decide +kernel
theorem dX6_carry_369 : decode cX6_carry 369 = .ok (.lastore, 1) := by decide +kernel
theorem dX6_carry_370 : decode cX6_carry 370 = .ok (.iinc 4 1, 3) := by decide +kernel
theorem dX6_carry_373 : decode cX6_carry 373 = .ok (.goto (-29), 3) := by decide +kernel
theorem dX6_carry_376 : decode cX6_carry 376 = .ok (.return_, 1) := by decide +kernel
theorem dX6_grains_0 : decode cX6_grains 0 = .ok (.iload_n 1, 1) := by decide +kernel
theorem dX6_grains_1 : decode cX6_grains 1 = .ok (.i2l, 1) := by decide +kernel
theorem dX6_grains_2 : decode cX6_grains 2 = .ok (.lconst 0, 1) := by decide +kernel
theorem dX6_grains_3 : decode cX6_grains 3 = .ok (.ldc2_w 79, 3) := by decide +kernel
theorem dX6_grains_6 : decode cX6_grains 6 = .ok (.invokestatic 71, 3) := by decide +kernel
theorem dX6_grains_9 : decode cX6_grains 9 = .ok (.ifCond .eq 29, 3) := by decide +kernel
theorem dX6_grains_12 : decode cX6_grains 12 = .ok (.iload_n 2, 1) := by decide +kernel
theorem dX6_grains_13 : decode cX6_grains 13 = .ok (.i2l, 1) := by decide +kernel
theorem dX6_grains_14 : decode cX6_grains 14 = .ok (.lconst 0, 1) := by decide +kernel
theorem dX6_grains_15 : decode cX6_grains 15 = .ok (.ldc2_w 92, 3) := by decide +kernel
theorem dX6_grains_18 : decode cX6_grains 18 = .ok (.invokestatic 71, 3) := by decide +kernel
theorem dX6_grains_21 : decode cX6_grains 21 = .ok (.ifCond .eq 17, 3) := by decide +kernel
theorem dX6_grains_24 : decode cX6_grains 24 = .ok (.aload_n 0, 1) := by decide +kernel
theorem dX6_grains_25 : decode cX6_grains 25 = .ok (.getfield 35, 3) := by decide +kernel
theorem dX6_grains_28 : decode cX6_grains 28 = .ok (.bipush 9, 2) := by decide +kernel
theorem dX6_grains_30 : decode cX6_grains 30 = .ok (.iload_n 1, 1) := by decide +kernel
theorem dX6_grains_31 : decode cX6_grains 31 = .ok (.imul, 1) := by decide +kernel
theorem dX6_grains_32 : decode cX6_grains 32 = .ok (.iload_n 2, 1) := by decide +kernel
theorem dX6_grains_33 : decode cX6_grains 33 = .ok (.iadd, 1) := by decide +kernel
theorem dX6_grains_34 : decode cX6_grains 34 = .ok (.laload, 1) := by decide +kernel
theorem dX6_grains_35 : decode cX6_grains 35 = .ok (.goto 6, 3) := by decide +kernel
theorem dX6_grains_38 : decode cX6_grains 38 = .ok (.ldc2_w 99, 3) := by decide +kernel
theorem dX6_grains_41 : decode cX6_grains 41 = .ok (.lreturn, 1) := by decide +kernel
theorem dX6_total_0 : decode cX6_total 0 = .ok (.iload_n 1, 1) := by decide +kernel
theorem dX6_total_1 : decode cX6_total 1 = .ok (.i2l, 1) := by decide +kernel
theorem dX6_total_2 : decode cX6_total 2 = .ok (.lconst 0, 1) := by decide +kernel
theorem dX6_total_3 : decode cX6_total 3 = .ok (.ldc2_w 79, 3) := by decide +kernel
theorem dX6_total_6 : decode cX6_total 6 = .ok (.invokestatic 71, 3) := by decide +kernel
theorem dX6_total_9 : decode cX6_total 9 = .ok (.ifCond .eq 15, 3) := by decide +kernel
theorem dX6_total_12 : decode cX6_total 12 = .ok (.iload_n 2, 1) := by decide +kernel
theorem dX6_total_13 : decode cX6_total 13 = .ok (.i2l, 1) := by decide +kernel
theorem dX6_total_14 : decode cX6_total 14 = .ok (.lconst 0, 1) := by decide +kernel
theorem dX6_total_15 : decode cX6_total 15 = .ok (.ldc2_w 97, 3) := by decide +kernel
theorem dX6_total_18 : decode cX6_total 18 = .ok (.invokestatic 71, 3) := by decide +kernel
theorem dX6_total_21 : decode cX6_total 21 = .ok (.ifCond .ne 7, 3) := by decide +kernel
theorem dX6_total_24 : decode cX6_total 24 = .ok (.ldc2_w 99, 3) := by decide +kernel
theorem dX6_total_27 : decode cX6_total 27 = .ok (.lreturn, 1) := by decide +kernel
theorem dX6_total_28 : decode cX6_total 28 = .ok (.iload_n 2, 1) := by decide +kernel
theorem dX6_total_29 : decode cX6_total 29 = .ok (.iconst 4, 1) := by decide +kernel
theorem dX6_total_30 : decode cX6_total 30 = .ok (.if_icmp .ge 14, 3) := by decide +kernel
theorem dX6_total_33 : decode cX6_total 33 = .ok (.aload_n 0, 1) := by decide +kernel
theorem dX6_total_34 : decode cX6_total 34 = .ok (.getfield 38, 3) := by decide +kernel
theorem dX6_total_37 : decode cX6_total 37 = .ok (.iconst 4, 1) := by decide +kernel
theorem dX6_total_38 : decode cX6_total 38 = .ok (.iload_n 1, 1) := by decide +kernel
theorem dX6_total_39 : decode cX6_total 39 = .ok (.imul, 1) := by decide +kernel
theorem dX6_total_40 : decode cX6_total 40 = .ok (.iload_n 2, 1) := by decide +kernel
theorem dX6_total_41 : decode cX6_total 41 = .ok (.iadd, 1) := by decide +kernel
theorem dX6_total_42 : decode cX6_total 42 = .ok (.laload, 1) := by decide +kernel
theorem dX6_total_43 : decode cX6_total 43 = .ok (.lreturn, 1) := by decide +kernel
theorem dX6_total_44 : decode cX6_total 44 = .ok (.lconst 0, 1) := by decide +kernel
theorem dX6_total_45 : decode cX6_total 45 = .ok (.lstore_n 3, 1) := by decide +kernel
theorem dX6_total_46 : decode cX6_total 46 = .ok (.iconst 0, 1) := by decide +kernel
theorem dX6_total_47 : decode cX6_total 47 = .ok (.istore 5, 2) := by decide +kernel
theorem dX6_total_49 : decode cX6_total 49 = .ok (.iload 5, 2) := by decide +kernel
theorem dX6_total_51 : decode cX6_total 51 = .ok (.bipush 9, 2) := by decide +kernel
theorem dX6_total_53 : decode cX6_total 53 = .ok (.if_icmp .ge 24, 3) := by decide +kernel
theorem dX6_total_56 : decode cX6_total 56 = .ok (.lload_n 3, 1) := by decide +kernel
theorem dX6_total_57 : decode cX6_total 57 = .ok (.aload_n 0, 1) := by decide +kernel
theorem dX6_total_58 : decode cX6_total 58 = .ok (.getfield 35, 3) := by decide +kernel
theorem dX6_total_61 : decode cX6_total 61 = .ok (.bipush 9, 2) := by decide +kernel
theorem dX6_total_63 : decode cX6_total 63 = .ok (.iload_n 1, 1) := by decide +kernel
theorem dX6_total_64 : decode cX6_total 64 = .ok (.imul, 1) := by decide +kernel
theorem dX6_total_65 : decode cX6_total 65 = .ok (.iload 5, 2) := by decide +kernel
theorem dX6_total_67 : decode cX6_total 67 = .ok (.iadd, 1) := by decide +kernel
theorem dX6_total_68 : decode cX6_total 68 = .ok (.laload, 1) := by decide +kernel
theorem dX6_total_69 : decode cX6_total 69 = .ok (.ladd, 1) := by decide +kernel
theorem dX6_total_70 : decode cX6_total 70 = .ok (.lstore_n 3, 1) := by decide +kernel
theorem dX6_total_71 : decode cX6_total 71 = .ok (.iinc 5 1, 3) := by decide +kernel
theorem dX6_total_74 : decode cX6_total 74 = .ok (.goto (-25), 3) := by decide +kernel
theorem dX6_total_77 : decode cX6_total 77 = .ok (.lload_n 3, 1) := by decide +kernel
theorem dX6_total_78 : decode cX6_total 78 = .ok (.lreturn, 1) := by decide +kernel
theorem dX6_isDoor_0 : decode cX6_isDoor 0 = .ok (.iload_n 0, 1) := by decide +kernel
theorem dX6_isDoor_1 : decode cX6_isDoor 1 = .ok (.i2l, 1) := by decide +kernel
theorem dX6_isDoor_2 : decode cX6_isDoor 2 = .ok (.lconst 0, 1) := by decide +kernel
theorem dX6_isDoor_3 : decode cX6_isDoor 3 = .ok (.ldc2_w 112, 3) := by decide +kernel
theorem dX6_isDoor_6 : decode cX6_isDoor 6 = .ok (.invokestatic 71, 3) := by decide +kernel
theorem dX6_isDoor_9 : decode cX6_isDoor 9 = .ok (.ireturn, 1) := by decide +kernel
theorem dX6_door_0 : decode cX6_door 0 = .ok (.iload_n 1, 1) := by decide +kernel
theorem dX6_door_1 : decode cX6_door 1 = .ok (.invokestatic 131, 3) := by decide +kernel
theorem dX6_door_4 : decode cX6_door 4 = .ok (.ifCond .eq 15, 3) := by decide +kernel
theorem dX6_door_7 : decode cX6_door 7 = .ok (.iload_n 2, 1) := by decide +kernel
theorem dX6_door_8 : decode cX6_door 8 = .ok (.i2l, 1) := by decide +kernel
theorem dX6_door_9 : decode cX6_door 9 = .ok (.lconst 0, 1) := by decide +kernel
theorem dX6_door_10 : decode cX6_door 10 = .ok (.ldc2_w 92, 3) := by decide +kernel
theorem dX6_door_13 : decode cX6_door 13 = .ok (.invokestatic 71, 3) := by decide +kernel
theorem dX6_door_16 : decode cX6_door 16 = .ok (.ifCond .ne 5, 3) := by decide +kernel
theorem dX6_door_19 : decode cX6_door 19 = .ok (.iconst (-1), 1) := by decide +kernel
theorem dX6_door_20 : decode cX6_door 20 = .ok (.ireturn, 1) := by decide +kernel
theorem dX6_door_21 : decode cX6_door 21 = .ok (.aload_n 0, 1) := by decide +kernel
theorem dX6_door_22 : decode cX6_door 22 = .ok (.getfield 54, 3) := by decide +kernel
theorem dX6_door_25 : decode cX6_door 25 = .ok (.iload_n 1, 1) := by decide +kernel
theorem dX6_door_26 : decode cX6_door 26 = .ok (.iaload, 1) := by decide +kernel
theorem dX6_door_27 : decode cX6_door 27 = .ok (.istore_n 3, 1) := by decide +kernel
theorem dX6_door_28 : decode cX6_door 28 = .ok (.aload_n 0, 1) := by decide +kernel
theorem dX6_door_29 : decode cX6_door 29 = .ok (.getfield 44, 3) := by decide +kernel
theorem dX6_door_32 : decode cX6_door 32 = .ok (.iload_n 1, 1) := by decide +kernel
theorem dX6_door_33 : decode cX6_door 33 = .ok (.iload_n 2, 1) := by decide +kernel
theorem dX6_door_34 : decode cX6_door 34 = .ok (.iastore, 1) := by decide +kernel
theorem dX6_door_35 : decode cX6_door 35 = .ok (.aload_n 0, 1) := by decide +kernel
theorem dX6_door_36 : decode cX6_door 36 = .ok (.getfield 54, 3) := by decide +kernel
theorem dX6_door_39 : decode cX6_door 39 = .ok (.iload_n 1, 1) := by decide +kernel
theorem dX6_door_40 : decode cX6_door 40 = .ok (.iconst 0, 1) := by decide +kernel
theorem dX6_door_41 : decode cX6_door 41 = .ok (.iastore, 1) := by decide +kernel
theorem dX6_door_42 : decode cX6_door 42 = .ok (.iload_n 3, 1) := by decide +kernel
theorem dX6_door_43 : decode cX6_door 43 = .ok (.ireturn, 1) := by decide +kernel
theorem dX6_lose_0 : decode cX6_lose 0 = .ok (.iload_n 1, 1) := by decide +kernel
theorem dX6_lose_1 : decode cX6_lose 1 = .ok (.invokestatic 131, 3) := by decide +kernel
theorem dX6_lose_4 : decode cX6_lose 4 = .ok (.ifCond .ne 5, 3) := by decide +kernel
theorem dX6_lose_7 : decode cX6_lose 7 = .ok (.iconst (-1), 1) := by decide +kernel
theorem dX6_lose_8 : decode cX6_lose 8 = .ok (.ireturn, 1) := by decide +kernel
theorem dX6_lose_9 : decode cX6_lose 9 = .ok (.aload_n 0, 1) := by decide +kernel
theorem dX6_lose_10 : decode cX6_lose 10 = .ok (.getfield 47, 3) := by decide +kernel
theorem dX6_lose_13 : decode cX6_lose 13 = .ok (.iload_n 1, 1) := by decide +kernel
theorem dX6_lose_14 : decode cX6_lose 14 = .ok (.baload, 1) := by decide +kernel
theorem dX6_lose_15 : decode cX6_lose 15 = .ok (.ifCond .eq 7, 3) := by decide +kernel
theorem dX6_lose_18 : decode cX6_lose 18 = .ok (.iconst 1, 1) := by decide +kernel
theorem dX6_lose_19 : decode cX6_lose 19 = .ok (.goto 4, 3) := by decide +kernel
theorem dX6_lose_22 : decode cX6_lose 22 = .ok (.iconst 0, 1) := by decide +kernel
theorem dX6_lose_23 : decode cX6_lose 23 = .ok (.istore_n 3, 1) := by decide +kernel
theorem dX6_lose_24 : decode cX6_lose 24 = .ok (.aload_n 0, 1) := by decide +kernel
theorem dX6_lose_25 : decode cX6_lose 25 = .ok (.getfield 47, 3) := by decide +kernel
theorem dX6_lose_28 : decode cX6_lose 28 = .ok (.iload_n 1, 1) := by decide +kernel
theorem dX6_lose_29 : decode cX6_lose 29 = .ok (.iload_n 2, 1) := by decide +kernel
theorem dX6_lose_30 : decode cX6_lose 30 = .ok (.bastore, 1) := by decide +kernel
theorem dX6_lose_31 : decode cX6_lose 31 = .ok (.iload_n 3, 1) := by decide +kernel
theorem dX6_lose_32 : decode cX6_lose 32 = .ok (.ireturn, 1) := by decide +kernel
theorem dX6_write_0 : decode cX6_write 0 = .ok (.sipush 300, 3) := by decide +kernel
theorem dX6_write_3 : decode cX6_write 3 = .ok (.iload_n 1, 1) := by decide +kernel
theorem dX6_write_4 : decode cX6_write 4 = .ok (.imul, 1) := by decide +kernel
theorem dX6_write_5 : decode cX6_write 5 = .ok (.istore_n 2, 1) := by decide +kernel
theorem dX6_write_6 : decode cX6_write 6 = .ok (.aload_n 0, 1) := by decide +kernel
theorem dX6_write_7 : decode cX6_write 7 = .ok (.getfield 54, 3) := by decide +kernel
theorem dX6_write_10 : decode cX6_write 10 = .ok (.iload_n 1, 1) := by decide +kernel
theorem dX6_write_11 : decode cX6_write 11 = .ok (.iaload, 1) := by decide +kernel
theorem dX6_write_12 : decode cX6_write 12 = .ok (.bipush 100, 2) := by decide +kernel
theorem dX6_write_14 : decode cX6_write 14 = .ok (.if_icmp .ne 46, 3) := by decide +kernel
theorem dX6_write_17 : decode cX6_write 17 = .ok (.iconst 3, 1) := by decide +kernel
theorem dX6_write_18 : decode cX6_write 18 = .ok (.istore_n 3, 1) := by decide +kernel
theorem dX6_write_19 : decode cX6_write 19 = .ok (.iload_n 3, 1) := by decide +kernel
theorem dX6_write_20 : decode cX6_write 20 = .ok (.sipush 300, 3) := by decide +kernel
theorem dX6_write_23 : decode cX6_write 23 = .ok (.if_icmp .ge 27, 3) := by decide +kernel
theorem dX6_write_26 : decode cX6_write 26 = .ok (.aload_n 0, 1) := by decide +kernel
theorem dX6_write_27 : decode cX6_write 27 = .ok (.getfield 57, 3) := by decide +kernel
theorem dX6_write_30 : decode cX6_write 30 = .ok (.iload_n 2, 1) := by decide +kernel
theorem dX6_write_31 : decode cX6_write 31 = .ok (.iload_n 3, 1) := by decide +kernel
theorem dX6_write_32 : decode cX6_write 32 = .ok (.iadd, 1) := by decide +kernel
theorem dX6_write_33 : decode cX6_write 33 = .ok (.iconst 3, 1) := by decide +kernel
theorem dX6_write_34 : decode cX6_write 34 = .ok (.isub, 1) := by decide +kernel
theorem dX6_write_35 : decode cX6_write 35 = .ok (.aload_n 0, 1) := by decide +kernel
theorem dX6_write_36 : decode cX6_write 36 = .ok (.getfield 57, 3) := by decide +kernel
theorem dX6_write_39 : decode cX6_write 39 = .ok (.iload_n 2, 1) := by decide +kernel
theorem dX6_write_40 : decode cX6_write 40 = .ok (.iload_n 3, 1) := by decide +kernel
theorem dX6_write_41 : decode cX6_write 41 = .ok (.iadd, 1) := by decide +kernel
theorem dX6_write_42 : decode cX6_write 42 = .ok (.laload, 1) := by decide +kernel
theorem dX6_write_43 : decode cX6_write 43 = .ok (.lastore, 1) := by decide +kernel
theorem dX6_write_44 : decode cX6_write 44 = .ok (.iinc 3 1, 3) := by decide +kernel
theorem dX6_write_47 : decode cX6_write 47 = .ok (.goto (-28), 3) := by decide +kernel
theorem dX6_write_50 : decode cX6_write 50 = .ok (.aload_n 0, 1) := by decide +kernel
theorem dX6_write_51 : decode cX6_write 51 = .ok (.getfield 54, 3) := by decide +kernel
theorem dX6_write_54 : decode cX6_write 54 = .ok (.iload_n 1, 1) := by decide +kernel
theorem dX6_write_55 : decode cX6_write 55 = .ok (.dup2, 1) := by decide +kernel
theorem dX6_write_56 : decode cX6_write 56 = .ok (.iaload, 1) := by decide +kernel
theorem dX6_write_57 : decode cX6_write 57 = .ok (.iconst 1, 1) := by decide +kernel
theorem dX6_write_58 : decode cX6_write 58 = .ok (.isub, 1) := by decide +kernel
theorem dX6_write_59 : decode cX6_write 59 = .ok (.iastore, 1) := by decide +kernel
theorem dX6_write_60 : decode cX6_write 60 = .ok (.iconst 0, 1) := by decide +kernel
theorem dX6_write_61 : decode cX6_write 61 = .ok (.istore_n 3, 1) := by decide +kernel
theorem dX6_write_62 : decode cX6_write 62 = .ok (.iload_n 3, 1) := by decide +kernel
theorem dX6_write_63 : decode cX6_write 63 = .ok (.iconst 3, 1) := by decide +kernel
theorem dX6_write_64 : decode cX6_write 64 = .ok (.if_icmp .ge 57, 3) := by decide +kernel
theorem dX6_write_67 : decode cX6_write 67 = .ok (.aload_n 0, 1) := by decide +kernel
theorem dX6_write_68 : decode cX6_write 68 = .ok (.getfield 57, 3) := by decide +kernel
theorem dX6_write_71 : decode cX6_write 71 = .ok (.iload_n 2, 1) := by decide +kernel
theorem dX6_write_72 : decode cX6_write 72 = .ok (.iconst 3, 1) := by decide +kernel
theorem dX6_write_73 : decode cX6_write 73 = .ok (.aload_n 0, 1) := by decide +kernel
theorem dX6_write_74 : decode cX6_write 74 = .ok (.getfield 54, 3) := by decide +kernel
theorem dX6_write_77 : decode cX6_write 77 = .ok (.iload_n 1, 1) := by decide +kernel
theorem dX6_write_78 : decode cX6_write 78 = .ok (.iaload, 1) := by decide +kernel
theorem dX6_write_79 : decode cX6_write 79 = .ok (.imul, 1) := by decide +kernel
theorem dX6_write_80 : decode cX6_write 80 = .ok (.iadd, 1) := by decide +kernel
theorem dX6_write_81 : decode cX6_write 81 = .ok (.iload_n 3, 1) := by decide +kernel
theorem dX6_write_82 : decode cX6_write 82 = .ok (.iadd, 1) := by decide +kernel
theorem dX6_write_83 : decode cX6_write 83 = .ok (.aload_n 0, 1) := by decide +kernel
theorem dX6_write_84 : decode cX6_write 84 = .ok (.getfield 47, 3) := by decide +kernel
theorem dX6_write_87 : decode cX6_write 87 = .ok (.iload_n 1, 1) := by decide +kernel
theorem dX6_write_88 : decode cX6_write 88 = .ok (.baload, 1) := by decide +kernel
theorem dX6_write_89 : decode cX6_write 89 = .ok (.ifCond .eq 9, 3) := by decide +kernel
theorem dX6_write_92 : decode cX6_write 92 = .ok (.ldc2_w 99, 3) := by decide +kernel
theorem dX6_write_95 : decode cX6_write 95 = .ok (.goto 19, 3) := by decide +kernel
theorem dX6_write_98 : decode cX6_write 98 = .ok (.aload_n 0, 1) := by decide +kernel
theorem dX6_write_99 : decode cX6_write 99 = .ok (.getfield 35, 3) := by decide +kernel
theorem dX6_write_102 : decode cX6_write 102 = .ok (.bipush 9, 2) := by decide +kernel
theorem dX6_write_104 : decode cX6_write 104 = .ok (.iload_n 3, 1) := by decide +kernel
theorem dX6_write_105 : decode cX6_write 105 = .ok (.imul, 1) := by decide +kernel
theorem dX6_write_106 : decode cX6_write 106 = .ok (.aload_n 0, 1) := by decide +kernel
theorem dX6_write_107 : decode cX6_write 107 = .ok (.getfield 44, 3) := by decide +kernel
theorem dX6_write_110 : decode cX6_write 110 = .ok (.iload_n 1, 1) := by decide +kernel
theorem dX6_write_111 : decode cX6_write 111 = .ok (.iaload, 1) := by decide +kernel
theorem dX6_write_112 : decode cX6_write 112 = .ok (.iadd, 1) := by decide +kernel
theorem dX6_write_113 : decode cX6_write 113 = .ok (.laload, 1) := by decide +kernel
theorem dX6_write_114 : decode cX6_write 114 = .ok (.lastore, 1) := by decide +kernel
theorem dX6_write_115 : decode cX6_write 115 = .ok (.iinc 3 1, 3) := by decide +kernel
theorem dX6_write_118 : decode cX6_write 118 = .ok (.goto (-56), 3) := by decide +kernel
theorem dX6_write_121 : decode cX6_write 121 = .ok (.aload_n 0, 1) := by decide +kernel
theorem dX6_write_122 : decode cX6_write 122 = .ok (.getfield 54, 3) := by decide +kernel
theorem dX6_write_125 : decode cX6_write 125 = .ok (.iload_n 1, 1) := by decide +kernel
theorem dX6_write_126 : decode cX6_write 126 = .ok (.dup2, 1) := by decide +kernel
theorem dX6_write_127 : decode cX6_write 127 = .ok (.iaload, 1) := by decide +kernel
theorem dX6_write_128 : decode cX6_write 128 = .ok (.iconst 1, 1) := by decide +kernel
theorem dX6_write_129 : decode cX6_write 129 = .ok (.iadd, 1) := by decide +kernel
theorem dX6_write_130 : decode cX6_write 130 = .ok (.iastore, 1) := by decide +kernel
theorem dX6_write_131 : decode cX6_write 131 = .ok (.return_, 1) := by decide +kernel
theorem dX6_hours_0 : decode cX6_hours 0 = .ok (.iload_n 1, 1) := by decide +kernel
theorem dX6_hours_1 : decode cX6_hours 1 = .ok (.i2l, 1) := by decide +kernel
theorem dX6_hours_2 : decode cX6_hours 2 = .ok (.lconst 1, 1) := by decide +kernel
theorem dX6_hours_3 : decode cX6_hours 3 = .ok (.ldc2_w 135, 3) := by decide +kernel
theorem dX6_hours_6 : decode cX6_hours 6 = .ok (.invokestatic 71, 3) := by decide +kernel
theorem dX6_hours_9 : decode cX6_hours 9 = .ok (.ifCond .eq 15, 3) := by decide +kernel
theorem dX6_hours_12 : decode cX6_hours 12 = .ok (.iload_n 2, 1) := by decide +kernel
theorem dX6_hours_13 : decode cX6_hours 13 = .ok (.i2l, 1) := by decide +kernel
theorem dX6_hours_14 : decode cX6_hours 14 = .ok (.lconst 0, 1) := by decide +kernel
theorem dX6_hours_15 : decode cX6_hours 15 = .ok (.ldc2_w 127, 3) := by decide +kernel
theorem dX6_hours_18 : decode cX6_hours 18 = .ok (.invokestatic 71, 3) := by decide +kernel
theorem dX6_hours_21 : decode cX6_hours 21 = .ok (.ifCond .ne 5, 3) := by decide +kernel
theorem dX6_hours_24 : decode cX6_hours 24 = .ok (.iconst (-1), 1) := by decide +kernel
theorem dX6_hours_25 : decode cX6_hours 25 = .ok (.ireturn, 1) := by decide +kernel
theorem dX6_hours_26 : decode cX6_hours 26 = .ok (.aload_n 0, 1) := by decide +kernel
theorem dX6_hours_27 : decode cX6_hours 27 = .ok (.invokevirtual 105, 3) := by decide +kernel
theorem dX6_hours_30 : decode cX6_hours 30 = .ok (.iconst 0, 1) := by decide +kernel
theorem dX6_hours_31 : decode cX6_hours 31 = .ok (.istore_n 3, 1) := by decide +kernel
theorem dX6_hours_32 : decode cX6_hours 32 = .ok (.iload_n 3, 1) := by decide +kernel
theorem dX6_hours_33 : decode cX6_hours 33 = .ok (.iload_n 1, 1) := by decide +kernel
theorem dX6_hours_34 : decode cX6_hours 34 = .ok (.if_icmp .ge 62, 3) := by decide +kernel
theorem dX6_hours_37 : decode cX6_hours 37 = .ok (.iconst 0, 1) := by decide +kernel
theorem dX6_hours_38 : decode cX6_hours 38 = .ok (.istore 4, 2) := by decide +kernel
theorem dX6_hours_40 : decode cX6_hours 40 = .ok (.iload 4, 2) := by decide +kernel
theorem dX6_hours_42 : decode cX6_hours 42 = .ok (.iconst 3, 1) := by decide +kernel
theorem dX6_hours_43 : decode cX6_hours 43 = .ok (.if_icmp .ge 16, 3) := by decide +kernel
theorem dX6_hours_46 : decode cX6_hours 46 = .ok (.aload_n 0, 1) := by decide +kernel
theorem dX6_hours_47 : decode cX6_hours 47 = .ok (.iload 4, 2) := by decide +kernel
theorem dX6_hours_49 : decode cX6_hours 49 = .ok (.iload_n 2, 1) := by decide +kernel
theorem dX6_hours_50 : decode cX6_hours 50 = .ok (.invokevirtual 137, 3) := by decide +kernel
theorem dX6_hours_53 : decode cX6_hours 53 = .ok (.iinc 4 1, 3) := by decide +kernel
theorem dX6_hours_56 : decode cX6_hours 56 = .ok (.goto (-16), 3) := by decide +kernel
theorem dX6_hours_59 : decode cX6_hours 59 = .ok (.aload_n 0, 1) := by decide +kernel
theorem dX6_hours_60 : decode cX6_hours 60 = .ok (.dup, 1) := by decide +kernel
theorem dX6_hours_61 : decode cX6_hours 61 = .ok (.getfield 123, 3) := by decide +kernel
theorem dX6_hours_64 : decode cX6_hours 64 = .ok (.iconst 1, 1) := by decide +kernel
theorem dX6_hours_65 : decode cX6_hours 65 = .ok (.iadd, 1) := by decide +kernel
theorem dX6_hours_66 : decode cX6_hours 66 = .ok (.putfield 123, 3) := by decide +kernel
theorem dX6_hours_69 : decode cX6_hours 69 = .ok (.iconst 0, 1) := by decide +kernel
theorem dX6_hours_70 : decode cX6_hours 70 = .ok (.istore 4, 2) := by decide +kernel
theorem dX6_hours_72 : decode cX6_hours 72 = .ok (.iload 4, 2) := by decide +kernel
theorem dX6_hours_74 : decode cX6_hours 74 = .ok (.iconst 4, 1) := by decide +kernel
theorem dX6_hours_75 : decode cX6_hours 75 = .ok (.if_icmp .ge 15, 3) := by decide +kernel
theorem dX6_hours_78 : decode cX6_hours 78 = .ok (.aload_n 0, 1) := by decide +kernel
theorem dX6_hours_79 : decode cX6_hours 79 = .ok (.iload 4, 2) := by decide +kernel
theorem dX6_hours_81 : decode cX6_hours 81 = .ok (.invokevirtual 141, 3) := by decide +kernel
theorem dX6_hours_84 : decode cX6_hours 84 = .ok (.iinc 4 1, 3) := by decide +kernel
theorem dX6_hours_87 : decode cX6_hours 87 = .ok (.goto (-15), 3) := by decide +kernel
theorem dX6_hours_90 : decode cX6_hours 90 = .ok (.iinc 3 1, 3) := by decide +kernel
theorem dX6_hours_93 : decode cX6_hours 93 = .ok (.goto (-61), 3) := by decide +kernel
theorem dX6_hours_96 : decode cX6_hours 96 = .ok (.aload_n 0, 1) := by decide +kernel
theorem dX6_hours_97 : decode cX6_hours 97 = .ok (.getfield 123, 3) := by decide +kernel
theorem dX6_hours_100 : decode cX6_hours 100 = .ok (.ireturn, 1) := by decide +kernel
theorem dX6_numberAt_0 : decode cX6_numberAt 0 = .ok (.sipush 300, 3) := by decide +kernel
theorem dX6_numberAt_3 : decode cX6_numberAt 3 = .ok (.iload_n 1, 1) := by decide +kernel
theorem dX6_numberAt_4 : decode cX6_numberAt 4 = .ok (.imul, 1) := by decide +kernel
theorem dX6_numberAt_5 : decode cX6_numberAt 5 = .ok (.iconst 3, 1) := by decide +kernel
theorem dX6_numberAt_6 : decode cX6_numberAt 6 = .ok (.iload_n 2, 1) := by decide +kernel
theorem dX6_numberAt_7 : decode cX6_numberAt 7 = .ok (.imul, 1) := by decide +kernel
theorem dX6_numberAt_8 : decode cX6_numberAt 8 = .ok (.iadd, 1) := by decide +kernel
theorem dX6_numberAt_9 : decode cX6_numberAt 9 = .ok (.istore_n 3, 1) := by decide +kernel
theorem dX6_numberAt_10 : decode cX6_numberAt 10 = .ok (.aload_n 0, 1) := by decide +kernel
theorem dX6_numberAt_11 : decode cX6_numberAt 11 = .ok (.getfield 57, 3) := by decide +kernel
theorem dX6_numberAt_14 : decode cX6_numberAt 14 = .ok (.iload_n 3, 1) := by decide +kernel
theorem dX6_numberAt_15 : decode cX6_numberAt 15 = .ok (.laload, 1) := by decide +kernel
theorem dX6_numberAt_16 : decode cX6_numberAt 16 = .ok (.lconst 0, 1) := by decide +kernel
theorem dX6_numberAt_17 : decode cX6_numberAt 17 = .ok (.lcmp, 1) := by decide +kernel
theorem dX6_numberAt_18 : decode cX6_numberAt 18 = .ok (.ifCond .ge 9, 3) := by decide +kernel
theorem dX6_numberAt_21 : decode cX6_numberAt 21 = .ok (.ldc2_w 99, 3) := by decide +kernel
theorem dX6_numberAt_24 : decode cX6_numberAt 24 = .ok (.goto 27, 3) := by decide +kernel
theorem dX6_numberAt_27 : decode cX6_numberAt 27 = .ok (.aload_n 0, 1) := by decide +kernel
theorem dX6_numberAt_28 : decode cX6_numberAt 28 = .ok (.getfield 57, 3) := by decide +kernel
theorem dX6_numberAt_31 : decode cX6_numberAt 31 = .ok (.iload_n 3, 1) := by decide +kernel
theorem dX6_numberAt_32 : decode cX6_numberAt 32 = .ok (.laload, 1) := by decide +kernel
theorem dX6_numberAt_33 : decode cX6_numberAt 33 = .ok (.aload_n 0, 1) := by decide +kernel
theorem dX6_numberAt_34 : decode cX6_numberAt 34 = .ok (.getfield 57, 3) := by decide +kernel
theorem dX6_numberAt_37 : decode cX6_numberAt 37 = .ok (.iload_n 3, 1) := by decide +kernel
theorem dX6_numberAt_38 : decode cX6_numberAt 38 = .ok (.iconst 1, 1) := by decide +kernel
theorem dX6_numberAt_39 : decode cX6_numberAt 39 = .ok (.iadd, 1) := by decide +kernel
theorem dX6_numberAt_40 : decode cX6_numberAt 40 = .ok (.laload, 1) := by decide +kernel
theorem dX6_numberAt_41 : decode cX6_numberAt 41 = .ok (.ladd, 1) := by decide +kernel
theorem dX6_numberAt_42 : decode cX6_numberAt 42 = .ok (.aload_n 0, 1) := by decide +kernel
theorem dX6_numberAt_43 : decode cX6_numberAt 43 = .ok (.getfield 57, 3) := by decide +kernel
theorem dX6_numberAt_46 : decode cX6_numberAt 46 = .ok (.iload_n 3, 1) := by decide +kernel
theorem dX6_numberAt_47 : decode cX6_numberAt 47 = .ok (.iconst 2, 1) := by decide +kernel
theorem dX6_numberAt_48 : decode cX6_numberAt 48 = .ok (.iadd, 1) := by decide +kernel
theorem dX6_numberAt_49 : decode cX6_numberAt 49 = .ok (.laload, 1) := by decide +kernel
theorem dX6_numberAt_50 : decode cX6_numberAt 50 = .ok (.ladd, 1) := by decide +kernel
theorem dX6_numberAt_51 : decode cX6_numberAt 51 = .ok (.lreturn, 1) := by decide +kernel
theorem dX6_hour_0 : decode cX6_hour 0 = .ok (.iload_n 1, 1) := by decide +kernel
theorem dX6_hour_1 : decode cX6_hour 1 = .ok (.invokestatic 131, 3) := by decide +kernel
theorem dX6_hour_4 : decode cX6_hour 4 = .ok (.ifCond .eq 33, 3) := by decide +kernel
theorem dX6_hour_7 : decode cX6_hour 7 = .ok (.iload_n 2, 1) := by decide +kernel
theorem dX6_hour_8 : decode cX6_hour 8 = .ok (.i2l, 1) := by decide +kernel
theorem dX6_hour_9 : decode cX6_hour 9 = .ok (.lconst 0, 1) := by decide +kernel
theorem dX6_hour_10 : decode cX6_hour 10 = .ok (.aload_n 0, 1) := by decide +kernel
theorem dX6_hour_11 : decode cX6_hour 11 = .ok (.getfield 54, 3) := by decide +kernel
theorem dX6_hour_14 : decode cX6_hour 14 = .ok (.iload_n 1, 1) := by decide +kernel
theorem dX6_hour_15 : decode cX6_hour 15 = .ok (.iaload, 1) := by decide +kernel
theorem dX6_hour_16 : decode cX6_hour 16 = .ok (.iconst 1, 1) := by decide +kernel
theorem dX6_hour_17 : decode cX6_hour 17 = .ok (.isub, 1) := by decide +kernel
theorem dX6_hour_18 : decode cX6_hour 18 = .ok (.i2l, 1) := by decide +kernel
theorem dX6_hour_19 : decode cX6_hour 19 = .ok (.invokestatic 71, 3) := by decide +kernel
theorem dX6_hour_22 : decode cX6_hour 22 = .ok (.ifCond .eq 15, 3) := by decide +kernel
theorem dX6_hour_25 : decode cX6_hour 25 = .ok (.iload_n 3, 1) := by decide +kernel
theorem dX6_hour_26 : decode cX6_hour 26 = .ok (.i2l, 1) := by decide +kernel
theorem dX6_hour_27 : decode cX6_hour 27 = .ok (.lconst 0, 1) := by decide +kernel
theorem dX6_hour_28 : decode cX6_hour 28 = .ok (.ldc2_w 112, 3) := by decide +kernel
theorem dX6_hour_31 : decode cX6_hour 31 = .ok (.invokestatic 71, 3) := by decide +kernel
theorem dX6_hour_34 : decode cX6_hour 34 = .ok (.ifCond .ne 7, 3) := by decide +kernel
theorem dX6_hour_37 : decode cX6_hour 37 = .ok (.ldc2_w 99, 3) := by decide +kernel
theorem dX6_hour_40 : decode cX6_hour 40 = .ok (.lreturn, 1) := by decide +kernel
theorem dX6_hour_41 : decode cX6_hour 41 = .ok (.aload_n 0, 1) := by decide +kernel
theorem dX6_hour_42 : decode cX6_hour 42 = .ok (.getfield 54, 3) := by decide +kernel
theorem dX6_hour_45 : decode cX6_hour 45 = .ok (.iload_n 1, 1) := by decide +kernel
theorem dX6_hour_46 : decode cX6_hour 46 = .ok (.iaload, 1) := by decide +kernel
theorem dX6_hour_47 : decode cX6_hour 47 = .ok (.iconst 1, 1) := by decide +kernel
theorem dX6_hour_48 : decode cX6_hour 48 = .ok (.isub, 1) := by decide +kernel
theorem dX6_hour_49 : decode cX6_hour 49 = .ok (.iload_n 2, 1) := by decide +kernel
theorem dX6_hour_50 : decode cX6_hour 50 = .ok (.isub, 1) := by decide +kernel
theorem dX6_hour_51 : decode cX6_hour 51 = .ok (.istore 4, 2) := by decide +kernel
theorem dX6_hour_53 : decode cX6_hour 53 = .ok (.aload_n 0, 1) := by decide +kernel
theorem dX6_hour_54 : decode cX6_hour 54 = .ok (.iload_n 1, 1) := by decide +kernel
theorem dX6_hour_55 : decode cX6_hour 55 = .ok (.iload 4, 2) := by decide +kernel
theorem dX6_hour_57 : decode cX6_hour 57 = .ok (.invokevirtual 145, 3) := by decide +kernel
theorem dX6_hour_60 : decode cX6_hour 60 = .ok (.lstore 5, 2) := by decide +kernel
theorem dX6_hour_62 : decode cX6_hour 62 = .ok (.lload 5, 2) := by decide +kernel
theorem dX6_hour_64 : decode cX6_hour 64 = .ok (.lconst 0, 1) := by decide +kernel
theorem dX6_hour_65 : decode cX6_hour 65 = .ok (.lcmp, 1) := by decide +kernel
theorem dX6_hour_66 : decode cX6_hour 66 = .ok (.ifCond .ge 9, 3) := by decide +kernel
theorem dX6_hour_69 : decode cX6_hour 69 = .ok (.ldc2_w 149, 3) := by decide +kernel
theorem dX6_hour_72 : decode cX6_hour 72 = .ok (.goto 30, 3) := by decide +kernel
theorem dX6_hour_75 : decode cX6_hour 75 = .ok (.iload_n 3, 1) := by decide +kernel
theorem dX6_hour_76 : decode cX6_hour 76 = .ok (.iconst 3, 1) := by decide +kernel
theorem dX6_hour_77 : decode cX6_hour 77 = .ok (.if_icmp .ne 8, 3) := by decide +kernel
theorem dX6_hour_80 : decode cX6_hour 80 = .ok (.lload 5, 2) := by decide +kernel
theorem dX6_hour_82 : decode cX6_hour 82 = .ok (.goto 20, 3) := by decide +kernel
theorem dX6_hour_85 : decode cX6_hour 85 = .ok (.aload_n 0, 1) := by decide +kernel
theorem dX6_hour_86 : decode cX6_hour 86 = .ok (.getfield 57, 3) := by decide +kernel
theorem dX6_hour_89 : decode cX6_hour 89 = .ok (.sipush 300, 3) := by decide +kernel
theorem dX6_hour_92 : decode cX6_hour 92 = .ok (.iload_n 1, 1) := by decide +kernel
theorem dX6_hour_93 : decode cX6_hour 93 = .ok (.imul, 1) := by decide +kernel
theorem dX6_hour_94 : decode cX6_hour 94 = .ok (.iconst 3, 1) := by decide +kernel
theorem dX6_hour_95 : decode cX6_hour 95 = .ok (.iload 4, 2) := by decide +kernel
theorem dX6_hour_97 : decode cX6_hour 97 = .ok (.imul, 1) := by decide +kernel
theorem dX6_hour_98 : decode cX6_hour 98 = .ok (.iadd, 1) := by decide +kernel
theorem dX6_hour_99 : decode cX6_hour 99 = .ok (.iload_n 3, 1) := by decide +kernel
theorem dX6_hour_100 : decode cX6_hour 100 = .ok (.iadd, 1) := by decide +kernel
theorem dX6_hour_101 : decode cX6_hour 101 = .ok (.laload, 1) := by decide +kernel
theorem dX6_hour_102 : decode cX6_hour 102 = .ok (.lreturn, 1) := by decide +kernel
theorem dX6_told_0 : decode cX6_told 0 = .ok (.iconst 0, 1) := by decide +kernel
theorem dX6_told_1 : decode cX6_told 1 = .ok (.istore_n 2, 1) := by decide +kernel
theorem dX6_told_2 : decode cX6_told 2 = .ok (.iconst 0, 1) := by decide +kernel
theorem dX6_told_3 : decode cX6_told 3 = .ok (.istore_n 3, 1) := by decide +kernel
theorem dX6_told_4 : decode cX6_told 4 = .ok (.iload_n 3, 1) := by decide +kernel
theorem dX6_told_5 : decode cX6_told 5 = .ok (.aload_n 0, 1) := by decide +kernel
theorem dX6_told_6 : decode cX6_told 6 = .ok (.getfield 54, 3) := by decide +kernel
theorem dX6_told_9 : decode cX6_told 9 = .ok (.iload_n 1, 1) := by decide +kernel
theorem dX6_told_10 : decode cX6_told 10 = .ok (.iaload, 1) := by decide +kernel
theorem dX6_told_11 : decode cX6_told 11 = .ok (.if_icmp .ge 28, 3) := by decide +kernel
theorem dX6_told_14 : decode cX6_told 14 = .ok (.iload_n 2, 1) := by decide +kernel
theorem dX6_told_15 : decode cX6_told 15 = .ok (.aload_n 0, 1) := by decide +kernel
theorem dX6_told_16 : decode cX6_told 16 = .ok (.iload_n 1, 1) := by decide +kernel
theorem dX6_told_17 : decode cX6_told 17 = .ok (.iload_n 3, 1) := by decide +kernel
theorem dX6_told_18 : decode cX6_told 18 = .ok (.invokevirtual 145, 3) := by decide +kernel
theorem dX6_told_21 : decode cX6_told 21 = .ok (.lconst 0, 1) := by decide +kernel
theorem dX6_told_22 : decode cX6_told 22 = .ok (.lcmp, 1) := by decide +kernel
theorem dX6_told_23 : decode cX6_told 23 = .ok (.ifCond .ge 7, 3) := by decide +kernel
theorem dX6_told_26 : decode cX6_told 26 = .ok (.iconst 0, 1) := by decide +kernel
theorem dX6_told_27 : decode cX6_told 27 = .ok (.goto 4, 3) := by decide +kernel
theorem dX6_told_30 : decode cX6_told 30 = .ok (.iconst 1, 1) := by decide +kernel
theorem dX6_told_31 : decode cX6_told 31 = .ok (.iadd, 1) := by decide +kernel
theorem dX6_told_32 : decode cX6_told 32 = .ok (.istore_n 2, 1) := by decide +kernel
theorem dX6_told_33 : decode cX6_told 33 = .ok (.iinc 3 1, 3) := by decide +kernel
theorem dX6_told_36 : decode cX6_told 36 = .ok (.goto (-32), 3) := by decide +kernel
theorem dX6_told_39 : decode cX6_told 39 = .ok (.iload_n 2, 1) := by decide +kernel
theorem dX6_told_40 : decode cX6_told 40 = .ok (.ireturn, 1) := by decide +kernel
theorem dX6_kept_0 : decode cX6_kept 0 = .ok (.iload_n 1, 1) := by decide +kernel
theorem dX6_kept_1 : decode cX6_kept 1 = .ok (.invokestatic 131, 3) := by decide +kernel
theorem dX6_kept_4 : decode cX6_kept 4 = .ok (.ifCond .eq 13, 3) := by decide +kernel
theorem dX6_kept_7 : decode cX6_kept 7 = .ok (.iload_n 2, 1) := by decide +kernel
theorem dX6_kept_8 : decode cX6_kept 8 = .ok (.i2l, 1) := by decide +kernel
theorem dX6_kept_9 : decode cX6_kept 9 = .ok (.lconst 0, 1) := by decide +kernel
theorem dX6_kept_10 : decode cX6_kept 10 = .ok (.lconst 1, 1) := by decide +kernel
theorem dX6_kept_11 : decode cX6_kept 11 = .ok (.invokestatic 71, 3) := by decide +kernel
theorem dX6_kept_14 : decode cX6_kept 14 = .ok (.ifCond .ne 7, 3) := by decide +kernel
theorem dX6_kept_17 : decode cX6_kept 17 = .ok (.iconst (-1), 1) := by decide +kernel
theorem dX6_kept_18 : decode cX6_kept 18 = .ok (.goto 21, 3) := by decide +kernel
theorem dX6_kept_21 : decode cX6_kept 21 = .ok (.iload_n 2, 1) := by decide +kernel
theorem dX6_kept_22 : decode cX6_kept 22 = .ok (.ifCond .ne 12, 3) := by decide +kernel
theorem dX6_kept_25 : decode cX6_kept 25 = .ok (.aload_n 0, 1) := by decide +kernel
theorem dX6_kept_26 : decode cX6_kept 26 = .ok (.getfield 54, 3) := by decide +kernel
theorem dX6_kept_29 : decode cX6_kept 29 = .ok (.iload_n 1, 1) := by decide +kernel
theorem dX6_kept_30 : decode cX6_kept 30 = .ok (.iaload, 1) := by decide +kernel
theorem dX6_kept_31 : decode cX6_kept 31 = .ok (.goto 8, 3) := by decide +kernel
theorem dX6_kept_34 : decode cX6_kept 34 = .ok (.aload_n 0, 1) := by decide +kernel
theorem dX6_kept_35 : decode cX6_kept 35 = .ok (.iload_n 1, 1) := by decide +kernel
theorem dX6_kept_36 : decode cX6_kept 36 = .ok (.invokevirtual 151, 3) := by decide +kernel
theorem dX6_kept_39 : decode cX6_kept 39 = .ok (.ireturn, 1) := by decide +kernel
theorem dX6_mean_0 : decode cX6_mean 0 = .ok (.iload_n 1, 1) := by decide +kernel
theorem dX6_mean_1 : decode cX6_mean 1 = .ok (.invokestatic 131, 3) := by decide +kernel
theorem dX6_mean_4 : decode cX6_mean 4 = .ok (.ifCond .ne 7, 3) := by decide +kernel
theorem dX6_mean_7 : decode cX6_mean 7 = .ok (.ldc2_w 99, 3) := by decide +kernel
theorem dX6_mean_10 : decode cX6_mean 10 = .ok (.lreturn, 1) := by decide +kernel
theorem dX6_mean_11 : decode cX6_mean 11 = .ok (.aload_n 0, 1) := by decide +kernel
theorem dX6_mean_12 : decode cX6_mean 12 = .ok (.iload_n 1, 1) := by decide +kernel
theorem dX6_mean_13 : decode cX6_mean 13 = .ok (.invokevirtual 151, 3) := by decide +kernel
theorem dX6_mean_16 : decode cX6_mean 16 = .ok (.istore_n 2, 1) := by decide +kernel
theorem dX6_mean_17 : decode cX6_mean 17 = .ok (.lconst 0, 1) := by decide +kernel
theorem dX6_mean_18 : decode cX6_mean 18 = .ok (.lstore_n 3, 1) := by decide +kernel
theorem dX6_mean_19 : decode cX6_mean 19 = .ok (.iconst 0, 1) := by decide +kernel
theorem dX6_mean_20 : decode cX6_mean 20 = .ok (.istore 5, 2) := by decide +kernel
theorem dX6_mean_22 : decode cX6_mean 22 = .ok (.iload 5, 2) := by decide +kernel
theorem dX6_mean_24 : decode cX6_mean 24 = .ok (.aload_n 0, 1) := by decide +kernel
theorem dX6_mean_25 : decode cX6_mean 25 = .ok (.getfield 54, 3) := by decide +kernel
theorem dX6_mean_28 : decode cX6_mean 28 = .ok (.iload_n 1, 1) := by decide +kernel
theorem dX6_mean_29 : decode cX6_mean 29 = .ok (.iaload, 1) := by decide +kernel
theorem dX6_mean_30 : decode cX6_mean 30 = .ok (.if_icmp .ge 34, 3) := by decide +kernel
theorem dX6_mean_33 : decode cX6_mean 33 = .ok (.aload_n 0, 1) := by decide +kernel
theorem dX6_mean_34 : decode cX6_mean 34 = .ok (.iload_n 1, 1) := by decide +kernel
theorem dX6_mean_35 : decode cX6_mean 35 = .ok (.iload 5, 2) := by decide +kernel
theorem dX6_mean_37 : decode cX6_mean 37 = .ok (.invokevirtual 145, 3) := by decide +kernel
theorem dX6_mean_40 : decode cX6_mean 40 = .ok (.lstore 6, 2) := by decide +kernel
theorem dX6_mean_42 : decode cX6_mean 42 = .ok (.lload_n 3, 1) := by decide +kernel
theorem dX6_mean_43 : decode cX6_mean 43 = .ok (.lload 6, 2) := by decide +kernel
theorem dX6_mean_45 : decode cX6_mean 45 = .ok (.lconst 0, 1) := by decide +kernel
theorem dX6_mean_46 : decode cX6_mean 46 = .ok (.lcmp, 1) := by decide +kernel
theorem dX6_mean_47 : decode cX6_mean 47 = .ok (.ifCond .ge 7, 3) := by decide +kernel
theorem dX6_mean_50 : decode cX6_mean 50 = .ok (.lconst 0, 1) := by decide +kernel
theorem dX6_mean_51 : decode cX6_mean 51 = .ok (.goto 5, 3) := by decide +kernel
theorem dX6_mean_54 : decode cX6_mean 54 = .ok (.lload 6, 2) := by decide +kernel
theorem dX6_mean_56 : decode cX6_mean 56 = .ok (.ladd, 1) := by decide +kernel
theorem dX6_mean_57 : decode cX6_mean 57 = .ok (.lstore_n 3, 1) := by decide +kernel
theorem dX6_mean_58 : decode cX6_mean 58 = .ok (.iinc 5 1, 3) := by decide +kernel
theorem dX6_mean_61 : decode cX6_mean 61 = .ok (.goto (-39), 3) := by decide +kernel
theorem dX6_mean_64 : decode cX6_mean 64 = .ok (.iload_n 2, 1) := by decide +kernel
theorem dX6_mean_65 : decode cX6_mean 65 = .ok (.ifCond .ne 9, 3) := by decide +kernel
theorem dX6_mean_68 : decode cX6_mean 68 = .ok (.ldc2_w 149, 3) := by decide +kernel
theorem dX6_mean_71 : decode cX6_mean 71 = .ok (.goto 7, 3) := by decide +kernel
theorem dX6_mean_74 : decode cX6_mean 74 = .ok (.lload_n 3, 1) := by decide +kernel
theorem dX6_mean_75 : decode cX6_mean 75 = .ok (.iload_n 2, 1) := by decide +kernel
theorem dX6_mean_76 : decode cX6_mean 76 = .ok (.i2l, 1) := by decide +kernel
theorem dX6_mean_77 : decode cX6_mean 77 = .ok (.ldiv, 1) := by decide +kernel
theorem dX6_mean_78 : decode cX6_mean 78 = .ok (.lreturn, 1) := by decide +kernel
theorem dX6_rank_0 : decode cX6_rank 0 = .ok (.iload_n 1, 1) := by decide +kernel
theorem dX6_rank_1 : decode cX6_rank 1 = .ok (.invokestatic 131, 3) := by decide +kernel
theorem dX6_rank_4 : decode cX6_rank 4 = .ok (.ifCond .eq 8, 3) := by decide +kernel
theorem dX6_rank_7 : decode cX6_rank 7 = .ok (.iload_n 2, 1) := by decide +kernel
theorem dX6_rank_8 : decode cX6_rank 8 = .ok (.iconst 1, 1) := by decide +kernel
theorem dX6_rank_9 : decode cX6_rank 9 = .ok (.if_icmp .ge 7, 3) := by decide +kernel
theorem dX6_rank_12 : decode cX6_rank 12 = .ok (.ldc2_w 99, 3) := by decide +kernel
theorem dX6_rank_15 : decode cX6_rank 15 = .ok (.lreturn, 1) := by decide +kernel
theorem dX6_rank_16 : decode cX6_rank 16 = .ok (.iconst 0, 1) := by decide +kernel
theorem dX6_rank_17 : decode cX6_rank 17 = .ok (.istore_n 3, 1) := by decide +kernel
theorem dX6_rank_18 : decode cX6_rank 18 = .ok (.iload_n 3, 1) := by decide +kernel
theorem dX6_rank_19 : decode cX6_rank 19 = .ok (.aload_n 0, 1) := by decide +kernel
theorem dX6_rank_20 : decode cX6_rank 20 = .ok (.getfield 54, 3) := by decide +kernel
theorem dX6_rank_23 : decode cX6_rank 23 = .ok (.iload_n 1, 1) := by decide +kernel
theorem dX6_rank_24 : decode cX6_rank 24 = .ok (.iaload, 1) := by decide +kernel
theorem dX6_rank_25 : decode cX6_rank 25 = .ok (.if_icmp .ge 99, 3) := by decide +kernel
theorem dX6_rank_28 : decode cX6_rank 28 = .ok (.aload_n 0, 1) := by decide +kernel
theorem dX6_rank_29 : decode cX6_rank 29 = .ok (.iload_n 1, 1) := by decide +kernel
theorem dX6_rank_30 : decode cX6_rank 30 = .ok (.iload_n 3, 1) := by decide +kernel
theorem dX6_rank_31 : decode cX6_rank 31 = .ok (.invokevirtual 145, 3) := by decide +kernel
theorem dX6_rank_34 : decode cX6_rank 34 = .ok (.lstore 4, 2) := by decide +kernel
theorem dX6_rank_36 : decode cX6_rank 36 = .ok (.iconst 0, 1) := by decide +kernel
theorem dX6_rank_37 : decode cX6_rank 37 = .ok (.istore 6, 2) := by decide +kernel
theorem dX6_rank_39 : decode cX6_rank 39 = .ok (.iconst 0, 1) := by decide +kernel
theorem dX6_rank_40 : decode cX6_rank 40 = .ok (.istore 7, 2) := by decide +kernel
theorem dX6_rank_42 : decode cX6_rank 42 = .ok (.iload 7, 2) := by decide +kernel
theorem dX6_rank_44 : decode cX6_rank 44 = .ok (.aload_n 0, 1) := by decide +kernel
theorem dX6_rank_45 : decode cX6_rank 45 = .ok (.getfield 54, 3) := by decide +kernel
theorem dX6_rank_48 : decode cX6_rank 48 = .ok (.iload_n 1, 1) := by decide +kernel
theorem dX6_rank_49 : decode cX6_rank 49 = .ok (.iaload, 1) := by decide +kernel
theorem dX6_rank_50 : decode cX6_rank 50 = .ok (.if_icmp .ge 50, 3) := by decide +kernel
theorem dX6_rank_53 : decode cX6_rank 53 = .ok (.aload_n 0, 1) := by decide +kernel
theorem dX6_rank_54 : decode cX6_rank 54 = .ok (.iload_n 1, 1) := by decide +kernel
theorem dX6_rank_55 : decode cX6_rank 55 = .ok (.iload 7, 2) := by decide +kernel
theorem dX6_rank_57 : decode cX6_rank 57 = .ok (.invokevirtual 145, 3) := by decide +kernel
theorem dX6_rank_60 : decode cX6_rank 60 = .ok (.lstore 8, 2) := by decide +kernel
theorem dX6_rank_62 : decode cX6_rank 62 = .ok (.iload 6, 2) := by decide +kernel
theorem dX6_rank_64 : decode cX6_rank 64 = .ok (.lload 8, 2) := by decide +kernel
theorem dX6_rank_66 : decode cX6_rank 66 = .ok (.lload 4, 2) := by decide +kernel
theorem dX6_rank_68 : decode cX6_rank 68 = .ok (.lcmp, 1) := by decide +kernel
theorem dX6_rank_69 : decode cX6_rank 69 = .ok (.ifCond .gt 17, 3) := by decide +kernel
theorem dX6_rank_72 : decode cX6_rank 72 = .ok (.lload 8, 2) := by decide +kernel
theorem dX6_rank_74 : decode cX6_rank 74 = .ok (.lload 4, 2) := by decide +kernel
theorem dX6_rank_76 : decode cX6_rank 76 = .ok (.lcmp, 1) := by decide +kernel
theorem dX6_rank_77 : decode cX6_rank 77 = .ok (.ifCond .ne 13, 3) := by decide +kernel
theorem dX6_rank_80 : decode cX6_rank 80 = .ok (.iload 7, 2) := by decide +kernel
theorem dX6_rank_82 : decode cX6_rank 82 = .ok (.iload_n 3, 1) := by decide +kernel
theorem dX6_rank_83 : decode cX6_rank 83 = .ok (.if_icmp .ge 7, 3) := by decide +kernel
theorem dX6_rank_86 : decode cX6_rank 86 = .ok (.iconst 1, 1) := by decide +kernel
theorem dX6_rank_87 : decode cX6_rank 87 = .ok (.goto 4, 3) := by decide +kernel
theorem dX6_rank_90 : decode cX6_rank 90 = .ok (.iconst 0, 1) := by decide +kernel
theorem dX6_rank_91 : decode cX6_rank 91 = .ok (.iadd, 1) := by decide +kernel
theorem dX6_rank_92 : decode cX6_rank 92 = .ok (.istore 6, 2) := by decide +kernel
theorem dX6_rank_94 : decode cX6_rank 94 = .ok (.iinc 7 1, 3) := by decide +kernel
theorem dX6_rank_97 : decode cX6_rank 97 = .ok (.goto (-55), 3) := by decide +kernel
theorem dX6_rank_100 : decode cX6_rank 100 = .ok (.lload 4, 2) := by decide +kernel
theorem dX6_rank_102 : decode cX6_rank 102 = .ok (.lconst 0, 1) := by decide +kernel
theorem dX6_rank_103 : decode cX6_rank 103 = .ok (.lcmp, 1) := by decide +kernel
theorem dX6_rank_104 : decode cX6_rank 104 = .ok (.ifCond .lt 14, 3) := by decide +kernel
theorem dX6_rank_107 : decode cX6_rank 107 = .ok (.iload 6, 2) := by decide +kernel
theorem dX6_rank_109 : decode cX6_rank 109 = .ok (.iload_n 2, 1) := by decide +kernel
theorem dX6_rank_110 : decode cX6_rank 110 = .ok (.iconst 1, 1) := by decide +kernel
theorem dX6_rank_111 : decode cX6_rank 111 = .ok (.isub, 1) := by decide +kernel
theorem dX6_rank_112 : decode cX6_rank 112 = .ok (.if_icmp .ne 6, 3) := by decide +kernel
theorem dX6_rank_115 : decode cX6_rank 115 = .ok (.lload 4, 2) := by decide +kernel
theorem dX6_rank_117 : decode cX6_rank 117 = .ok (.lreturn, 1) := by decide +kernel
theorem dX6_rank_118 : decode cX6_rank 118 = .ok (.iinc 3 1, 3) := by decide +kernel
theorem dX6_rank_121 : decode cX6_rank 121 = .ok (.goto (-103), 3) := by decide +kernel
theorem dX6_rank_124 : decode cX6_rank 124 = .ok (.ldc2_w 149, 3) := by decide +kernel
theorem dX6_rank_127 : decode cX6_rank 127 = .ok (.lreturn, 1) := by decide +kernel
theorem dX6_rolling_0 : decode cX6_rolling 0 = .ok (.iload_n 1, 1) := by decide +kernel
theorem dX6_rolling_1 : decode cX6_rolling 1 = .ok (.invokestatic 131, 3) := by decide +kernel
theorem dX6_rolling_4 : decode cX6_rolling 4 = .ok (.ifCond .eq 15, 3) := by decide +kernel
theorem dX6_rolling_7 : decode cX6_rolling 7 = .ok (.iload_n 2, 1) := by decide +kernel
theorem dX6_rolling_8 : decode cX6_rolling 8 = .ok (.i2l, 1) := by decide +kernel
theorem dX6_rolling_9 : decode cX6_rolling 9 = .ok (.lconst 1, 1) := by decide +kernel
theorem dX6_rolling_10 : decode cX6_rolling 10 = .ok (.ldc2_w 154, 3) := by decide +kernel
theorem dX6_rolling_13 : decode cX6_rolling 13 = .ok (.invokestatic 71, 3) := by decide +kernel
theorem dX6_rolling_16 : decode cX6_rolling 16 = .ok (.ifCond .ne 7, 3) := by decide +kernel
theorem dX6_rolling_19 : decode cX6_rolling 19 = .ok (.ldc2_w 99, 3) := by decide +kernel
theorem dX6_rolling_22 : decode cX6_rolling 22 = .ok (.lreturn, 1) := by decide +kernel
theorem dX6_rolling_23 : decode cX6_rolling 23 = .ok (.ldc2_w 149, 3) := by decide +kernel
theorem dX6_rolling_26 : decode cX6_rolling 26 = .ok (.lstore_n 3, 1) := by decide +kernel
theorem dX6_rolling_27 : decode cX6_rolling 27 = .ok (.iconst 0, 1) := by decide +kernel
theorem dX6_rolling_28 : decode cX6_rolling 28 = .ok (.istore 5, 2) := by decide +kernel
theorem dX6_rolling_30 : decode cX6_rolling 30 = .ok (.iload 5, 2) := by decide +kernel
theorem dX6_rolling_32 : decode cX6_rolling 32 = .ok (.iload_n 2, 1) := by decide +kernel
theorem dX6_rolling_33 : decode cX6_rolling 33 = .ok (.iadd, 1) := by decide +kernel
theorem dX6_rolling_34 : decode cX6_rolling 34 = .ok (.aload_n 0, 1) := by decide +kernel
theorem dX6_rolling_35 : decode cX6_rolling 35 = .ok (.getfield 54, 3) := by decide +kernel
theorem dX6_rolling_38 : decode cX6_rolling 38 = .ok (.iload_n 1, 1) := by decide +kernel
theorem dX6_rolling_39 : decode cX6_rolling 39 = .ok (.iaload, 1) := by decide +kernel
theorem dX6_rolling_40 : decode cX6_rolling 40 = .ok (.if_icmp .gt 104, 3) := by decide +kernel
theorem dX6_rolling_43 : decode cX6_rolling 43 = .ok (.iconst 0, 1) := by decide +kernel
theorem dX6_rolling_44 : decode cX6_rolling 44 = .ok (.istore 6, 2) := by decide +kernel
theorem dX6_rolling_46 : decode cX6_rolling 46 = .ok (.lconst 0, 1) := by decide +kernel
theorem dX6_rolling_47 : decode cX6_rolling 47 = .ok (.lstore 7, 2) := by decide +kernel
theorem dX6_rolling_49 : decode cX6_rolling 49 = .ok (.iload 5, 2) := by decide +kernel
theorem dX6_rolling_51 : decode cX6_rolling 51 = .ok (.istore 9, 2) := by decide +kernel
theorem dX6_rolling_53 : decode cX6_rolling 53 = .ok (.iload 9, 2) := by decide +kernel
theorem dX6_rolling_55 : decode cX6_rolling 55 = .ok (.iload 5, 2) := by decide +kernel
theorem dX6_rolling_57 : decode cX6_rolling 57 = .ok (.iload_n 2, 1) := by decide +kernel
theorem dX6_rolling_58 : decode cX6_rolling 58 = .ok (.iadd, 1) := by decide +kernel
theorem dX6_rolling_59 : decode cX6_rolling 59 = .ok (.if_icmp .ge 53, 3) := by decide +kernel
theorem dX6_rolling_62 : decode cX6_rolling 62 = .ok (.aload_n 0, 1) := by decide +kernel
theorem dX6_rolling_63 : decode cX6_rolling 63 = .ok (.iload_n 1, 1) := by decide +kernel
theorem dX6_rolling_64 : decode cX6_rolling 64 = .ok (.iload 9, 2) := by decide +kernel
theorem dX6_rolling_66 : decode cX6_rolling 66 = .ok (.invokevirtual 145, 3) := by decide +kernel
theorem dX6_rolling_69 : decode cX6_rolling 69 = .ok (.lstore 10, 2) := by decide +kernel
theorem dX6_rolling_71 : decode cX6_rolling 71 = .ok (.iload 6, 2) := by decide +kernel
theorem dX6_rolling_73 : decode cX6_rolling 73 = .ok (.lload 10, 2) := by decide +kernel
theorem dX6_rolling_75 : decode cX6_rolling 75 = .ok (.lconst 0, 1) := by decide +kernel
theorem dX6_rolling_76 : decode cX6_rolling 76 = .ok (.lcmp, 1) := by decide +kernel
theorem dX6_rolling_77 : decode cX6_rolling 77 = .ok (.ifCond .ge 7, 3) := by decide +kernel
theorem dX6_rolling_80 : decode cX6_rolling 80 = .ok (.iconst 0, 1) := by decide +kernel
theorem dX6_rolling_81 : decode cX6_rolling 81 = .ok (.goto 4, 3) := by decide +kernel
theorem dX6_rolling_84 : decode cX6_rolling 84 = .ok (.iconst 1, 1) := by decide +kernel
theorem dX6_rolling_85 : decode cX6_rolling 85 = .ok (.iadd, 1) := by decide +kernel
theorem dX6_rolling_86 : decode cX6_rolling 86 = .ok (.istore 6, 2) := by decide +kernel
theorem dX6_rolling_88 : decode cX6_rolling 88 = .ok (.lload 7, 2) := by decide +kernel
theorem dX6_rolling_90 : decode cX6_rolling 90 = .ok (.lload 10, 2) := by decide +kernel
theorem dX6_rolling_92 : decode cX6_rolling 92 = .ok (.lconst 0, 1) := by decide +kernel
theorem dX6_rolling_93 : decode cX6_rolling 93 = .ok (.lcmp, 1) := by decide +kernel
theorem dX6_rolling_94 : decode cX6_rolling 94 = .ok (.ifCond .ge 7, 3) := by decide +kernel
theorem dX6_rolling_97 : decode cX6_rolling 97 = .ok (.lconst 0, 1) := by decide +kernel
theorem dX6_rolling_98 : decode cX6_rolling 98 = .ok (.goto 5, 3) := by decide +kernel
theorem dX6_rolling_101 : decode cX6_rolling 101 = .ok (.lload 10, 2) := by decide +kernel
theorem dX6_rolling_103 : decode cX6_rolling 103 = .ok (.ladd, 1) := by decide +kernel
theorem dX6_rolling_104 : decode cX6_rolling 104 = .ok (.lstore 7, 2) := by decide +kernel
theorem dX6_rolling_106 : decode cX6_rolling 106 = .ok (.iinc 9 1, 3) := by decide +kernel
theorem dX6_rolling_109 : decode cX6_rolling 109 = .ok (.goto (-56), 3) := by decide +kernel
theorem dX6_rolling_112 : decode cX6_rolling 112 = .ok (.iconst 2, 1) := by decide +kernel
theorem dX6_rolling_113 : decode cX6_rolling 113 = .ok (.iload 6, 2) := by decide +kernel
theorem dX6_rolling_115 : decode cX6_rolling 115 = .ok (.imul, 1) := by decide +kernel
theorem dX6_rolling_116 : decode cX6_rolling 116 = .ok (.iload_n 2, 1) := by decide +kernel
theorem dX6_rolling_117 : decode cX6_rolling 117 = .ok (.if_icmp .lt 21, 3) := by decide +kernel
theorem dX6_rolling_120 : decode cX6_rolling 120 = .ok (.lload 7, 2) := by decide +kernel
theorem dX6_rolling_122 : decode cX6_rolling 122 = .ok (.iload 6, 2) := by decide +kernel
theorem dX6_rolling_124 : decode cX6_rolling 124 = .ok (.i2l, 1) := by decide +kernel
theorem dX6_rolling_125 : decode cX6_rolling 125 = .ok (.ldiv, 1) := by decide +kernel
theorem dX6_rolling_126 : decode cX6_rolling 126 = .ok (.lload_n 3, 1) := by decide +kernel
theorem dX6_rolling_127 : decode cX6_rolling 127 = .ok (.lcmp, 1) := by decide +kernel
theorem dX6_rolling_128 : decode cX6_rolling 128 = .ok (.ifCond .le 10, 3) := by decide +kernel
theorem dX6_rolling_131 : decode cX6_rolling 131 = .ok (.lload 7, 2) := by decide +kernel
theorem dX6_rolling_133 : decode cX6_rolling 133 = .ok (.iload 6, 2) := by decide +kernel
theorem dX6_rolling_135 : decode cX6_rolling 135 = .ok (.i2l, 1) := by decide +kernel
theorem dX6_rolling_136 : decode cX6_rolling 136 = .ok (.ldiv, 1) := by decide +kernel
theorem dX6_rolling_137 : decode cX6_rolling 137 = .ok (.lstore_n 3, 1) := by decide +kernel
theorem dX6_rolling_138 : decode cX6_rolling 138 = .ok (.iinc 5 1, 3) := by decide +kernel
theorem dX6_rolling_141 : decode cX6_rolling 141 = .ok (.goto (-111), 3) := by decide +kernel
theorem dX6_rolling_144 : decode cX6_rolling 144 = .ok (.lload_n 3, 1) := by decide +kernel
theorem dX6_rolling_145 : decode cX6_rolling 145 = .ok (.lreturn, 1) := by decide +kernel
theorem dX6_watch_0 : decode cX6_watch 0 = .ok (.iload_n 1, 1) := by decide +kernel
theorem dX6_watch_1 : decode cX6_watch 1 = .ok (.invokestatic 131, 3) := by decide +kernel
theorem dX6_watch_4 : decode cX6_watch 4 = .ok (.ifCond .ne 5, 3) := by decide +kernel
theorem dX6_watch_7 : decode cX6_watch 7 = .ok (.iconst (-1), 1) := by decide +kernel
theorem dX6_watch_8 : decode cX6_watch 8 = .ok (.ireturn, 1) := by decide +kernel
theorem dX6_watch_9 : decode cX6_watch 9 = .ok (.aload_n 0, 1) := by decide +kernel
theorem dX6_watch_10 : decode cX6_watch 10 = .ok (.getfield 51, 3) := by decide +kernel
theorem dX6_watch_13 : decode cX6_watch 13 = .ok (.iload_n 1, 1) := by decide +kernel
theorem dX6_watch_14 : decode cX6_watch 14 = .ok (.iload_n 2, 1) := by decide +kernel
theorem dX6_watch_15 : decode cX6_watch 15 = .ok (.bastore, 1) := by decide +kernel
theorem dX6_watch_16 : decode cX6_watch 16 = .ok (.iconst 0, 1) := by decide +kernel
theorem dX6_watch_17 : decode cX6_watch 17 = .ok (.istore_n 3, 1) := by decide +kernel
theorem dX6_watch_18 : decode cX6_watch 18 = .ok (.iconst 0, 1) := by decide +kernel
theorem dX6_watch_19 : decode cX6_watch 19 = .ok (.istore 4, 2) := by decide +kernel
theorem dX6_watch_21 : decode cX6_watch 21 = .ok (.iload 4, 2) := by decide +kernel
theorem dX6_watch_23 : decode cX6_watch 23 = .ok (.iconst 4, 1) := by decide +kernel
theorem dX6_watch_24 : decode cX6_watch 24 = .ok (.if_icmp .ge 27, 3) := by decide +kernel
theorem dX6_watch_27 : decode cX6_watch 27 = .ok (.iload_n 3, 1) := by decide +kernel
theorem dX6_watch_28 : decode cX6_watch 28 = .ok (.aload_n 0, 1) := by decide +kernel
theorem dX6_watch_29 : decode cX6_watch 29 = .ok (.getfield 51, 3) := by decide +kernel
theorem dX6_watch_32 : decode cX6_watch 32 = .ok (.iload 4, 2) := by decide +kernel
theorem dX6_watch_34 : decode cX6_watch 34 = .ok (.baload, 1) := by decide +kernel
theorem dX6_watch_35 : decode cX6_watch 35 = .ok (.ifCond .eq 7, 3) := by decide +kernel
theorem dX6_watch_38 : decode cX6_watch 38 = .ok (.iconst 1, 1) := by decide +kernel
theorem dX6_watch_39 : decode cX6_watch 39 = .ok (.goto 4, 3) := by decide +kernel
theorem dX6_watch_42 : decode cX6_watch 42 = .ok (.iconst 0, 1) := by decide +kernel
theorem dX6_watch_43 : decode cX6_watch 43 = .ok (.iadd, 1) := by decide +kernel
theorem dX6_watch_44 : decode cX6_watch 44 = .ok (.istore_n 3, 1) := by decide +kernel
theorem dX6_watch_45 : decode cX6_watch 45 = .ok (.iinc 4 1, 3) := by decide +kernel
theorem dX6_watch_48 : decode cX6_watch 48 = .ok (.goto (-27), 3) := by decide +kernel
theorem dX6_watch_51 : decode cX6_watch 51 = .ok (.iload_n 3, 1) := by decide +kernel
theorem dX6_watch_52 : decode cX6_watch 52 = .ok (.ireturn, 1) := by decide +kernel
theorem dX6_isKeptAt_0 : decode cX6_isKeptAt 0 = .ok (.iconst 0, 1) := by decide +kernel
theorem dX6_isKeptAt_1 : decode cX6_isKeptAt 1 = .ok (.istore_n 2, 1) := by decide +kernel
theorem dX6_isKeptAt_2 : decode cX6_isKeptAt 2 = .ok (.iconst 0, 1) := by decide +kernel
theorem dX6_isKeptAt_3 : decode cX6_isKeptAt 3 = .ok (.istore_n 3, 1) := by decide +kernel
theorem dX6_isKeptAt_4 : decode cX6_isKeptAt 4 = .ok (.iload_n 3, 1) := by decide +kernel
theorem dX6_isKeptAt_5 : decode cX6_isKeptAt 5 = .ok (.aload_n 0, 1) := by decide +kernel
theorem dX6_isKeptAt_6 : decode cX6_isKeptAt 6 = .ok (.getfield 54, 3) := by decide +kernel
theorem dX6_isKeptAt_9 : decode cX6_isKeptAt 9 = .ok (.iload_n 1, 1) := by decide +kernel
theorem dX6_isKeptAt_10 : decode cX6_isKeptAt 10 = .ok (.iaload, 1) := by decide +kernel
theorem dX6_isKeptAt_11 : decode cX6_isKeptAt 11 = .ok (.if_icmp .ge 100, 3) := by decide +kernel
theorem dX6_isKeptAt_14 : decode cX6_isKeptAt 14 = .ok (.sipush 300, 3) := by decide +kernel
theorem dX6_isKeptAt_17 : decode cX6_isKeptAt 17 = .ok (.iload_n 1, 1) := by decide +kernel
theorem dX6_isKeptAt_18 : decode cX6_isKeptAt 18 = .ok (.imul, 1) := by decide +kernel
theorem dX6_isKeptAt_19 : decode cX6_isKeptAt 19 = .ok (.iconst 3, 1) := by decide +kernel
theorem dX6_isKeptAt_20 : decode cX6_isKeptAt 20 = .ok (.iload_n 3, 1) := by decide +kernel
theorem dX6_isKeptAt_21 : decode cX6_isKeptAt 21 = .ok (.imul, 1) := by decide +kernel
theorem dX6_isKeptAt_22 : decode cX6_isKeptAt 22 = .ok (.iadd, 1) := by decide +kernel
theorem dX6_isKeptAt_23 : decode cX6_isKeptAt 23 = .ok (.istore 4, 2) := by decide +kernel
theorem dX6_isKeptAt_25 : decode cX6_isKeptAt 25 = .ok (.aload_n 0, 1) := by decide +kernel
theorem dX6_isKeptAt_26 : decode cX6_isKeptAt 26 = .ok (.getfield 57, 3) := by decide +kernel
theorem dX6_isKeptAt_29 : decode cX6_isKeptAt 29 = .ok (.iload 4, 2) := by decide +kernel
theorem dX6_isKeptAt_31 : decode cX6_isKeptAt 31 = .ok (.laload, 1) := by decide +kernel
theorem dX6_isKeptAt_32 : decode cX6_isKeptAt 32 = .ok (.lconst 0, 1) := by decide +kernel
theorem dX6_isKeptAt_33 : decode cX6_isKeptAt 33 = .ok (.lcmp, 1) := by decide +kernel
theorem dX6_isKeptAt_34 : decode cX6_isKeptAt 34 = .ok (.ifCond .lt 71, 3) := by decide +kernel
theorem dX6_isKeptAt_37 : decode cX6_isKeptAt 37 = .ok (.lconst 0, 1) := by decide +kernel
theorem dX6_isKeptAt_38 : decode cX6_isKeptAt 38 = .ok (.lstore 5, 2) := by decide +kernel
theorem dX6_isKeptAt_40 : decode cX6_isKeptAt 40 = .ok (.iconst 0, 1) := by decide +kernel
theorem dX6_isKeptAt_41 : decode cX6_isKeptAt 41 = .ok (.istore 7, 2) := by decide +kernel
theorem dX6_isKeptAt_43 : decode cX6_isKeptAt 43 = .ok (.iload 7, 2) := by decide +kernel
theorem dX6_isKeptAt_45 : decode cX6_isKeptAt 45 = .ok (.iconst 3, 1) := by decide +kernel
theorem dX6_isKeptAt_46 : decode cX6_isKeptAt 46 = .ok (.if_icmp .ge 36, 3) := by decide +kernel
theorem dX6_isKeptAt_49 : decode cX6_isKeptAt 49 = .ok (.lload 5, 2) := by decide +kernel
theorem dX6_isKeptAt_51 : decode cX6_isKeptAt 51 = .ok (.aload_n 0, 1) := by decide +kernel
theorem dX6_isKeptAt_52 : decode cX6_isKeptAt 52 = .ok (.getfield 57, 3) := by decide +kernel
theorem dX6_isKeptAt_55 : decode cX6_isKeptAt 55 = .ok (.iload 4, 2) := by decide +kernel
theorem dX6_isKeptAt_57 : decode cX6_isKeptAt 57 = .ok (.iload 7, 2) := by decide +kernel
theorem dX6_isKeptAt_59 : decode cX6_isKeptAt 59 = .ok (.iadd, 1) := by decide +kernel
theorem dX6_isKeptAt_60 : decode cX6_isKeptAt 60 = .ok (.laload, 1) := by decide +kernel
theorem dX6_isKeptAt_61 : decode cX6_isKeptAt 61 = .ok (.bipush 10, 2) := by decide +kernel
theorem dX6_isKeptAt_63 : decode cX6_isKeptAt 63 = .ok (.aload_n 0, 1) := by decide +kernel
theorem dX6_isKeptAt_64 : decode cX6_isKeptAt 64 = .ok (.getfield 63, 3) := by decide +kernel
theorem dX6_isKeptAt_67 : decode cX6_isKeptAt 67 = .ok (.iload 7, 2) := by decide +kernel
theorem dX6_isKeptAt_69 : decode cX6_isKeptAt 69 = .ok (.iaload, 1) := by decide +kernel
theorem dX6_isKeptAt_70 : decode cX6_isKeptAt 70 = .ok (.isub, 1) := by decide +kernel
theorem dX6_isKeptAt_71 : decode cX6_isKeptAt 71 = .ok (.i2l, 1) := by decide +kernel
theorem dX6_isKeptAt_72 : decode cX6_isKeptAt 72 = .ok (.lmul, 1) := by decide +kernel
theorem dX6_isKeptAt_73 : decode cX6_isKeptAt 73 = .ok (.ladd, 1) := by decide +kernel
theorem dX6_isKeptAt_74 : decode cX6_isKeptAt 74 = .ok (.lstore 5, 2) := by decide +kernel
theorem dX6_isKeptAt_76 : decode cX6_isKeptAt 76 = .ok (.iinc 7 1, 3) := by decide +kernel
theorem dX6_isKeptAt_79 : decode cX6_isKeptAt 79 = .ok (.goto (-36), 3) := by decide +kernel
theorem dX6_isKeptAt_82 : decode cX6_isKeptAt 82 = .ok (.iload_n 2, 1) := by decide +kernel
theorem dX6_isKeptAt_83 : decode cX6_isKeptAt 83 = .ok (.lload 5, 2) := by decide +kernel
theorem dX6_isKeptAt_85 : decode cX6_isKeptAt 85 = .ok (.ldc2_w 156, 3) := by decide +kernel
theorem dX6_isKeptAt_88 : decode cX6_isKeptAt 88 = .ok (.aload_n 0, 1) := by decide +kernel
theorem dX6_isKeptAt_89 : decode cX6_isKeptAt 89 = .ok (.getfield 158, 3) := by decide +kernel
theorem dX6_isKeptAt_92 : decode cX6_isKeptAt 92 = .ok (.i2l, 1) := by decide +kernel
theorem dX6_isKeptAt_93 : decode cX6_isKeptAt 93 = .ok (.lmul, 1) := by decide +kernel
theorem dX6_isKeptAt_94 : decode cX6_isKeptAt 94 = .ok (.lcmp, 1) := by decide +kernel
theorem dX6_isKeptAt_95 : decode cX6_isKeptAt 95 = .ok (.ifCond .le 7, 3) := by decide +kernel
theorem dX6_isKeptAt_98 : decode cX6_isKeptAt 98 = .ok (.iconst 1, 1) := by decide +kernel
theorem dX6_isKeptAt_99 : decode cX6_isKeptAt 99 = .ok (.goto 4, 3) := by decide +kernel
theorem dX6_isKeptAt_102 : decode cX6_isKeptAt 102 = .ok (.iconst 0, 1) := by decide +kernel
theorem dX6_isKeptAt_103 : decode cX6_isKeptAt 103 = .ok (.iadd, 1) := by decide +kernel
theorem dX6_isKeptAt_104 : decode cX6_isKeptAt 104 = .ok (.istore_n 2, 1) := by decide +kernel
theorem dX6_isKeptAt_105 : decode cX6_isKeptAt 105 = .ok (.iinc 3 1, 3) := by decide +kernel
theorem dX6_isKeptAt_108 : decode cX6_isKeptAt 108 = .ok (.goto (-104), 3) := by decide +kernel
theorem dX6_isKeptAt_111 : decode cX6_isKeptAt 111 = .ok (.iload_n 2, 1) := by decide +kernel
theorem dX6_isKeptAt_112 : decode cX6_isKeptAt 112 = .ok (.aload_n 0, 1) := by decide +kernel
theorem dX6_isKeptAt_113 : decode cX6_isKeptAt 113 = .ok (.getfield 161, 3) := by decide +kernel
theorem dX6_isKeptAt_116 : decode cX6_isKeptAt 116 = .ok (.if_icmp .gt 7, 3) := by decide +kernel
theorem dX6_isKeptAt_119 : decode cX6_isKeptAt 119 = .ok (.iconst 1, 1) := by decide +kernel
theorem dX6_isKeptAt_120 : decode cX6_isKeptAt 120 = .ok (.goto 4, 3) := by decide +kernel
theorem dX6_isKeptAt_123 : decode cX6_isKeptAt 123 = .ok (.iconst 0, 1) := by decide +kernel
theorem dX6_isKeptAt_124 : decode cX6_isKeptAt 124 = .ok (.ireturn, 1) := by decide +kernel
theorem dX6_setTenths_0 : decode cX6_setTenths 0 = .ok (.aload_n 0, 1) := by decide +kernel
theorem dX6_setTenths_1 : decode cX6_setTenths 1 = .ok (.getfield 63, 3) := by decide +kernel
theorem dX6_setTenths_4 : decode cX6_setTenths 4 = .ok (.iconst 0, 1) := by decide +kernel
theorem dX6_setTenths_5 : decode cX6_setTenths 5 = .ok (.iload_n 1, 1) := by decide +kernel
theorem dX6_setTenths_6 : decode cX6_setTenths 6 = .ok (.iastore, 1) := by decide +kernel
theorem dX6_setTenths_7 : decode cX6_setTenths 7 = .ok (.aload_n 0, 1) := by decide +kernel
theorem dX6_setTenths_8 : decode cX6_setTenths 8 = .ok (.getfield 63, 3) := by decide +kernel
theorem dX6_setTenths_11 : decode cX6_setTenths 11 = .ok (.iconst 1, 1) := by decide +kernel
theorem dX6_setTenths_12 : decode cX6_setTenths 12 = .ok (.iload_n 2, 1) := by decide +kernel
theorem dX6_setTenths_13 : decode cX6_setTenths 13 = .ok (.iastore, 1) := by decide +kernel
theorem dX6_setTenths_14 : decode cX6_setTenths 14 = .ok (.aload_n 0, 1) := by decide +kernel
theorem dX6_setTenths_15 : decode cX6_setTenths 15 = .ok (.getfield 63, 3) := by decide +kernel
theorem dX6_setTenths_18 : decode cX6_setTenths 18 = .ok (.iconst 2, 1) := by decide +kernel
theorem dX6_setTenths_19 : decode cX6_setTenths 19 = .ok (.iload_n 3, 1) := by decide +kernel
theorem dX6_setTenths_20 : decode cX6_setTenths 20 = .ok (.iastore, 1) := by decide +kernel
theorem dX6_setTenths_21 : decode cX6_setTenths 21 = .ok (.return_, 1) := by decide +kernel
theorem dX6_law_0 : decode cX6_law 0 = .ok (.iload_n 1, 1) := by decide +kernel
theorem dX6_law_1 : decode cX6_law 1 = .ok (.i2l, 1) := by decide +kernel
theorem dX6_law_2 : decode cX6_law 2 = .ok (.lconst 0, 1) := by decide +kernel
theorem dX6_law_3 : decode cX6_law 3 = .ok (.ldc2_w 164, 3) := by decide +kernel
theorem dX6_law_6 : decode cX6_law 6 = .ok (.invokestatic 71, 3) := by decide +kernel
theorem dX6_law_9 : decode cX6_law 9 = .ok (.ifCond .eq 15, 3) := by decide +kernel
theorem dX6_law_12 : decode cX6_law 12 = .ok (.iload_n 2, 1) := by decide +kernel
theorem dX6_law_13 : decode cX6_law 13 = .ok (.i2l, 1) := by decide +kernel
theorem dX6_law_14 : decode cX6_law 14 = .ok (.lconst 0, 1) := by decide +kernel
theorem dX6_law_15 : decode cX6_law 15 = .ok (.ldc2_w 77, 3) := by decide +kernel
theorem dX6_law_18 : decode cX6_law 18 = .ok (.invokestatic 71, 3) := by decide +kernel
theorem dX6_law_21 : decode cX6_law 21 = .ok (.ifCond .ne 5, 3) := by decide +kernel
theorem dX6_law_24 : decode cX6_law 24 = .ok (.iconst (-1), 1) := by decide +kernel
theorem dX6_law_25 : decode cX6_law 25 = .ok (.ireturn, 1) := by decide +kernel
theorem dX6_law_26 : decode cX6_law 26 = .ok (.aload_n 0, 1) := by decide +kernel
theorem dX6_law_27 : decode cX6_law 27 = .ok (.iload_n 1, 1) := by decide +kernel
theorem dX6_law_28 : decode cX6_law 28 = .ok (.putfield 158, 3) := by decide +kernel
theorem dX6_law_31 : decode cX6_law 31 = .ok (.aload_n 0, 1) := by decide +kernel
theorem dX6_law_32 : decode cX6_law 32 = .ok (.iload_n 2, 1) := by decide +kernel
theorem dX6_law_33 : decode cX6_law 33 = .ok (.putfield 161, 3) := by decide +kernel
theorem dX6_law_36 : decode cX6_law 36 = .ok (.aload_n 0, 1) := by decide +kernel
theorem dX6_law_37 : decode cX6_law 37 = .ok (.iconst 0, 1) := by decide +kernel
theorem dX6_law_38 : decode cX6_law 38 = .ok (.iconst 0, 1) := by decide +kernel
theorem dX6_law_39 : decode cX6_law 39 = .ok (.iconst 0, 1) := by decide +kernel
theorem dX6_law_40 : decode cX6_law 40 = .ok (.invokevirtual 166, 3) := by decide +kernel
theorem dX6_law_43 : decode cX6_law 43 = .ok (.iconst 0, 1) := by decide +kernel
theorem dX6_law_44 : decode cX6_law 44 = .ok (.istore_n 3, 1) := by decide +kernel
theorem dX6_law_45 : decode cX6_law 45 = .ok (.iconst 0, 1) := by decide +kernel
theorem dX6_law_46 : decode cX6_law 46 = .ok (.istore 4, 2) := by decide +kernel
theorem dX6_law_48 : decode cX6_law 48 = .ok (.iload 4, 2) := by decide +kernel
theorem dX6_law_50 : decode cX6_law 50 = .ok (.iconst 4, 1) := by decide +kernel
theorem dX6_law_51 : decode cX6_law 51 = .ok (.if_icmp .ge 36, 3) := by decide +kernel
theorem dX6_law_54 : decode cX6_law 54 = .ok (.iload_n 3, 1) := by decide +kernel
theorem dX6_law_55 : decode cX6_law 55 = .ok (.aload_n 0, 1) := by decide +kernel
theorem dX6_law_56 : decode cX6_law 56 = .ok (.getfield 51, 3) := by decide +kernel
theorem dX6_law_59 : decode cX6_law 59 = .ok (.iload 4, 2) := by decide +kernel
theorem dX6_law_61 : decode cX6_law 61 = .ok (.baload, 1) := by decide +kernel
theorem dX6_law_62 : decode cX6_law 62 = .ok (.ifCond .eq 16, 3) := by decide +kernel
theorem dX6_law_65 : decode cX6_law 65 = .ok (.aload_n 0, 1) := by decide +kernel
theorem dX6_law_66 : decode cX6_law 66 = .ok (.iload 4, 2) := by decide +kernel
theorem dX6_law_68 : decode cX6_law 68 = .ok (.invokevirtual 170, 3) := by decide +kernel
theorem dX6_law_71 : decode cX6_law 71 = .ok (.ifCond .eq 7, 3) := by decide +kernel
theorem dX6_law_74 : decode cX6_law 74 = .ok (.iconst 1, 1) := by decide +kernel
theorem dX6_law_75 : decode cX6_law 75 = .ok (.goto 4, 3) := by decide +kernel
theorem dX6_law_78 : decode cX6_law 78 = .ok (.iconst 0, 1) := by decide +kernel
theorem dX6_law_79 : decode cX6_law 79 = .ok (.iadd, 1) := by decide +kernel
theorem dX6_law_80 : decode cX6_law 80 = .ok (.istore_n 3, 1) := by decide +kernel
theorem dX6_law_81 : decode cX6_law 81 = .ok (.iinc 4 1, 3) := by decide +kernel
theorem dX6_law_84 : decode cX6_law 84 = .ok (.goto (-36), 3) := by decide +kernel
theorem dX6_law_87 : decode cX6_law 87 = .ok (.iload_n 3, 1) := by decide +kernel
theorem dX6_law_88 : decode cX6_law 88 = .ok (.ireturn, 1) := by decide +kernel
theorem dX6_price_0 : decode cX6_price 0 = .ok (.iload_n 1, 1) := by decide +kernel
theorem dX6_price_1 : decode cX6_price 1 = .ok (.i2l, 1) := by decide +kernel
theorem dX6_price_2 : decode cX6_price 2 = .ok (.lconst 0, 1) := by decide +kernel
theorem dX6_price_3 : decode cX6_price 3 = .ok (.ldc2_w 79, 3) := by decide +kernel
theorem dX6_price_6 : decode cX6_price 6 = .ok (.invokestatic 71, 3) := by decide +kernel
theorem dX6_price_9 : decode cX6_price 9 = .ok (.ifCond .eq 15, 3) := by decide +kernel
theorem dX6_price_12 : decode cX6_price 12 = .ok (.iload_n 2, 1) := by decide +kernel
theorem dX6_price_13 : decode cX6_price 13 = .ok (.i2l, 1) := by decide +kernel
theorem dX6_price_14 : decode cX6_price 14 = .ok (.lconst 0, 1) := by decide +kernel
theorem dX6_price_15 : decode cX6_price 15 = .ok (.ldc2_w 127, 3) := by decide +kernel
theorem dX6_price_18 : decode cX6_price 18 = .ok (.invokestatic 71, 3) := by decide +kernel
theorem dX6_price_21 : decode cX6_price 21 = .ok (.ifCond .ne 5, 3) := by decide +kernel
theorem dX6_price_24 : decode cX6_price 24 = .ok (.iconst (-1), 1) := by decide +kernel
theorem dX6_price_25 : decode cX6_price 25 = .ok (.ireturn, 1) := by decide +kernel
theorem dX6_price_26 : decode cX6_price 26 = .ok (.aload_n 0, 1) := by decide +kernel
theorem dX6_price_27 : decode cX6_price 27 = .ok (.getfield 60, 3) := by decide +kernel
theorem dX6_price_30 : decode cX6_price 30 = .ok (.iload_n 1, 1) := by decide +kernel
theorem dX6_price_31 : decode cX6_price 31 = .ok (.iaload, 1) := by decide +kernel
theorem dX6_price_32 : decode cX6_price 32 = .ok (.istore_n 3, 1) := by decide +kernel
theorem dX6_price_33 : decode cX6_price 33 = .ok (.aload_n 0, 1) := by decide +kernel
theorem dX6_price_34 : decode cX6_price 34 = .ok (.getfield 60, 3) := by decide +kernel
theorem dX6_price_37 : decode cX6_price 37 = .ok (.iload_n 1, 1) := by decide +kernel
theorem dX6_price_38 : decode cX6_price 38 = .ok (.iload_n 2, 1) := by decide +kernel
theorem dX6_price_39 : decode cX6_price 39 = .ok (.iastore, 1) := by decide +kernel
theorem dX6_price_40 : decode cX6_price 40 = .ok (.iload_n 3, 1) := by decide +kernel
theorem dX6_price_41 : decode cX6_price 41 = .ok (.ireturn, 1) := by decide +kernel
theorem dX6_cheapest_0 : decode cX6_cheapest 0 = .ok (.iload_n 1, 1) := by decide +kernel
theorem dX6_cheapest_1 : decode cX6_cheapest 1 = .ok (.i2l, 1) := by decide +kernel
theorem dX6_cheapest_2 : decode cX6_cheapest 2 = .ok (.lconst 0, 1) := by decide +kernel
theorem dX6_cheapest_3 : decode cX6_cheapest 3 = .ok (.ldc2_w 112, 3) := by decide +kernel
theorem dX6_cheapest_6 : decode cX6_cheapest 6 = .ok (.invokestatic 71, 3) := by decide +kernel
theorem dX6_cheapest_9 : decode cX6_cheapest 9 = .ok (.ifCond .ne 5, 3) := by decide +kernel
theorem dX6_cheapest_12 : decode cX6_cheapest 12 = .ok (.iconst (-1), 1) := by decide +kernel
theorem dX6_cheapest_13 : decode cX6_cheapest 13 = .ok (.ireturn, 1) := by decide +kernel
theorem dX6_cheapest_14 : decode cX6_cheapest 14 = .ok (.aload_n 0, 1) := by decide +kernel
theorem dX6_cheapest_15 : decode cX6_cheapest 15 = .ok (.getfield 66, 3) := by decide +kernel
theorem dX6_cheapest_18 : decode cX6_cheapest 18 = .ok (.iconst 3, 1) := by decide +kernel
theorem dX6_cheapest_19 : decode cX6_cheapest 19 = .ok (.iconst (-1), 1) := by decide +kernel
theorem dX6_cheapest_20 : decode cX6_cheapest 20 = .ok (.iastore, 1) := by decide +kernel
theorem dX6_cheapest_21 : decode cX6_cheapest 21 = .ok (.iconst 0, 1) := by decide +kernel
theorem dX6_cheapest_22 : decode cX6_cheapest 22 = .ok (.istore_n 2, 1) := by decide +kernel
theorem dX6_cheapest_23 : decode cX6_cheapest 23 = .ok (.iload_n 2, 1) := by decide +kernel
theorem dX6_cheapest_24 : decode cX6_cheapest 24 = .ok (.sipush 1331, 3) := by decide +kernel
theorem dX6_cheapest_27 : decode cX6_cheapest 27 = .ok (.if_icmp .ge 189, 3) := by decide +kernel
theorem dX6_cheapest_30 : decode cX6_cheapest 30 = .ok (.aload_n 0, 1) := by decide +kernel
theorem dX6_cheapest_31 : decode cX6_cheapest 31 = .ok (.iload_n 2, 1) := by decide +kernel
theorem dX6_cheapest_32 : decode cX6_cheapest 32 = .ok (.bipush 121, 2) := by decide +kernel
theorem dX6_cheapest_34 : decode cX6_cheapest 34 = .ok (.idiv, 1) := by decide +kernel
theorem dX6_cheapest_35 : decode cX6_cheapest 35 = .ok (.iload_n 2, 1) := by decide +kernel
theorem dX6_cheapest_36 : decode cX6_cheapest 36 = .ok (.bipush 11, 2) := by decide +kernel
theorem dX6_cheapest_38 : decode cX6_cheapest 38 = .ok (.idiv, 1) := by decide +kernel
theorem dX6_cheapest_39 : decode cX6_cheapest 39 = .ok (.bipush 11, 2) := by decide +kernel
theorem dX6_cheapest_41 : decode cX6_cheapest 41 = .ok (.irem, 1) := by decide +kernel
theorem dX6_cheapest_42 : decode cX6_cheapest 42 = .ok (.iload_n 2, 1) := by decide +kernel
theorem dX6_cheapest_43 : decode cX6_cheapest 43 = .ok (.bipush 11, 2) := by decide +kernel
theorem dX6_cheapest_45 : decode cX6_cheapest 45 = .ok (.irem, 1) := by decide +kernel
theorem dX6_cheapest_46 : decode cX6_cheapest 46 = .ok (.invokevirtual 166, 3) := by decide +kernel
theorem dX6_cheapest_49 : decode cX6_cheapest 49 = .ok (.aload_n 0, 1) := by decide +kernel
theorem dX6_cheapest_50 : decode cX6_cheapest 50 = .ok (.getfield 63, 3) := by decide +kernel
theorem dX6_cheapest_53 : decode cX6_cheapest 53 = .ok (.iconst 0, 1) := by decide +kernel
theorem dX6_cheapest_54 : decode cX6_cheapest 54 = .ok (.iaload, 1) := by decide +kernel
theorem dX6_cheapest_55 : decode cX6_cheapest 55 = .ok (.aload_n 0, 1) := by decide +kernel
theorem dX6_cheapest_56 : decode cX6_cheapest 56 = .ok (.getfield 60, 3) := by decide +kernel
theorem dX6_cheapest_59 : decode cX6_cheapest 59 = .ok (.iconst 0, 1) := by decide +kernel
theorem dX6_cheapest_60 : decode cX6_cheapest 60 = .ok (.iaload, 1) := by decide +kernel
theorem dX6_cheapest_61 : decode cX6_cheapest 61 = .ok (.imul, 1) := by decide +kernel
theorem dX6_cheapest_62 : decode cX6_cheapest 62 = .ok (.aload_n 0, 1) := by decide +kernel
theorem dX6_cheapest_63 : decode cX6_cheapest 63 = .ok (.getfield 63, 3) := by decide +kernel
theorem dX6_cheapest_66 : decode cX6_cheapest 66 = .ok (.iconst 1, 1) := by decide +kernel
theorem dX6_cheapest_67 : decode cX6_cheapest 67 = .ok (.iaload, 1) := by decide +kernel
theorem dX6_cheapest_68 : decode cX6_cheapest 68 = .ok (.aload_n 0, 1) := by decide +kernel
theorem dX6_cheapest_69 : decode cX6_cheapest 69 = .ok (.getfield 60, 3) := by decide +kernel
theorem dX6_cheapest_72 : decode cX6_cheapest 72 = .ok (.iconst 1, 1) := by decide +kernel
theorem dX6_cheapest_73 : decode cX6_cheapest 73 = .ok (.iaload, 1) := by decide +kernel
theorem dX6_cheapest_74 : decode cX6_cheapest 74 = .ok (.imul, 1) := by decide +kernel
theorem dX6_cheapest_75 : decode cX6_cheapest 75 = .ok (.iadd, 1) := by decide +kernel
theorem dX6_cheapest_76 : decode cX6_cheapest 76 = .ok (.aload_n 0, 1) := by decide +kernel
theorem dX6_cheapest_77 : decode cX6_cheapest 77 = .ok (.getfield 63, 3) := by decide +kernel
theorem dX6_cheapest_80 : decode cX6_cheapest 80 = .ok (.iconst 2, 1) := by decide +kernel
theorem dX6_cheapest_81 : decode cX6_cheapest 81 = .ok (.iaload, 1) := by decide +kernel
theorem dX6_cheapest_82 : decode cX6_cheapest 82 = .ok (.aload_n 0, 1) := by decide +kernel
theorem dX6_cheapest_83 : decode cX6_cheapest 83 = .ok (.getfield 60, 3) := by decide +kernel
theorem dX6_cheapest_86 : decode cX6_cheapest 86 = .ok (.iconst 2, 1) := by decide +kernel
theorem dX6_cheapest_87 : decode cX6_cheapest 87 = .ok (.iaload, 1) := by decide +kernel
theorem dX6_cheapest_88 : decode cX6_cheapest 88 = .ok (.imul, 1) := by decide +kernel
theorem dX6_cheapest_89 : decode cX6_cheapest 89 = .ok (.iadd, 1) := by decide +kernel
theorem dX6_cheapest_90 : decode cX6_cheapest 90 = .ok (.istore_n 3, 1) := by decide +kernel
theorem dX6_cheapest_91 : decode cX6_cheapest 91 = .ok (.aload_n 0, 1) := by decide +kernel
theorem dX6_cheapest_92 : decode cX6_cheapest 92 = .ok (.getfield 66, 3) := by decide +kernel
theorem dX6_cheapest_95 : decode cX6_cheapest 95 = .ok (.iconst 3, 1) := by decide +kernel
theorem dX6_cheapest_96 : decode cX6_cheapest 96 = .ok (.iaload, 1) := by decide +kernel
theorem dX6_cheapest_97 : decode cX6_cheapest 97 = .ok (.ifCond .lt 16, 3) := by decide +kernel
theorem dX6_cheapest_100 : decode cX6_cheapest 100 = .ok (.iload_n 3, 1) := by decide +kernel
theorem dX6_cheapest_101 : decode cX6_cheapest 101 = .ok (.aload_n 0, 1) := by decide +kernel
theorem dX6_cheapest_102 : decode cX6_cheapest 102 = .ok (.getfield 66, 3) := by decide +kernel
theorem dX6_cheapest_105 : decode cX6_cheapest 105 = .ok (.iconst 3, 1) := by decide +kernel
theorem dX6_cheapest_106 : decode cX6_cheapest 106 = .ok (.iaload, 1) := by decide +kernel
theorem dX6_cheapest_107 : decode cX6_cheapest 107 = .ok (.if_icmp .lt 6, 3) := by decide +kernel
theorem dX6_cheapest_110 : decode cX6_cheapest 110 = .ok (.goto 100, 3) := by decide +kernel
theorem dX6_cheapest_113 : decode cX6_cheapest 113 = .ok (.iconst 1, 1) := by decide +kernel
theorem dX6_cheapest_114 : decode cX6_cheapest 114 = .ok (.istore 4, 2) := by decide +kernel
theorem dX6_cheapest_116 : decode cX6_cheapest 116 = .ok (.iconst 0, 1) := by decide +kernel
theorem dX6_cheapest_117 : decode cX6_cheapest 117 = .ok (.istore 5, 2) := by decide +kernel
theorem dX6_cheapest_119 : decode cX6_cheapest 119 = .ok (.iload 5, 2) := by decide +kernel
theorem dX6_cheapest_121 : decode cX6_cheapest 121 = .ok (.iconst 4, 1) := by decide +kernel
theorem dX6_cheapest_122 : decode cX6_cheapest 122 = .ok (.if_icmp .ge 40, 3) := by decide +kernel
theorem dX6_cheapest_125 : decode cX6_cheapest 125 = .ok (.iload 4, 2) := by decide +kernel
theorem dX6_cheapest_127 : decode cX6_cheapest 127 = .ok (.ifCond .eq 26, 3) := by decide +kernel
theorem dX6_cheapest_130 : decode cX6_cheapest 130 = .ok (.aload_n 0, 1) := by decide +kernel
theorem dX6_cheapest_131 : decode cX6_cheapest 131 = .ok (.getfield 51, 3) := by decide +kernel
theorem dX6_cheapest_134 : decode cX6_cheapest 134 = .ok (.iload 5, 2) := by decide +kernel
theorem dX6_cheapest_136 : decode cX6_cheapest 136 = .ok (.baload, 1) := by decide +kernel
theorem dX6_cheapest_137 : decode cX6_cheapest 137 = .ok (.ifCond .eq 12, 3) := by decide +kernel
theorem dX6_cheapest_140 : decode cX6_cheapest 140 = .ok (.aload_n 0, 1) := by decide +kernel
theorem dX6_cheapest_141 : decode cX6_cheapest 141 = .ok (.iload 5, 2) := by decide +kernel
theorem dX6_cheapest_143 : decode cX6_cheapest 143 = .ok (.invokevirtual 170, 3) := by decide +kernel
theorem dX6_cheapest_146 : decode cX6_cheapest 146 = .ok (.ifCond .eq 7, 3) := by decide +kernel
theorem dX6_cheapest_149 : decode cX6_cheapest 149 = .ok (.iconst 1, 1) := by decide +kernel
theorem dX6_cheapest_150 : decode cX6_cheapest 150 = .ok (.goto 4, 3) := by decide +kernel
theorem dX6_cheapest_153 : decode cX6_cheapest 153 = .ok (.iconst 0, 1) := by decide +kernel
theorem dX6_cheapest_154 : decode cX6_cheapest 154 = .ok (.istore 4, 2) := by decide +kernel
theorem dX6_cheapest_156 : decode cX6_cheapest 156 = .ok (.iinc 5 1, 3) := by decide +kernel
theorem dX6_cheapest_159 : decode cX6_cheapest 159 = .ok (.goto (-40), 3) := by decide +kernel
theorem dX6_cheapest_162 : decode cX6_cheapest 162 = .ok (.iload 4, 2) := by decide +kernel
theorem dX6_cheapest_164 : decode cX6_cheapest 164 = .ok (.ifCond .eq 46, 3) := by decide +kernel
theorem dX6_cheapest_167 : decode cX6_cheapest 167 = .ok (.aload_n 0, 1) := by decide +kernel
theorem dX6_cheapest_168 : decode cX6_cheapest 168 = .ok (.getfield 66, 3) := by decide +kernel
theorem dX6_cheapest_171 : decode cX6_cheapest 171 = .ok (.iconst 0, 1) := by decide +kernel
theorem dX6_cheapest_172 : decode cX6_cheapest 172 = .ok (.aload_n 0, 1) := by decide +kernel
theorem dX6_cheapest_173 : decode cX6_cheapest 173 = .ok (.getfield 63, 3) := by decide +kernel
theorem dX6_cheapest_176 : decode cX6_cheapest 176 = .ok (.iconst 0, 1) := by decide +kernel
theorem dX6_cheapest_177 : decode cX6_cheapest 177 = .ok (.iaload, 1) := by decide +kernel
theorem dX6_cheapest_178 : decode cX6_cheapest 178 = .ok (.iastore, 1) := by decide +kernel
theorem dX6_cheapest_179 : decode cX6_cheapest 179 = .ok (.aload_n 0, 1) := by decide +kernel
theorem dX6_cheapest_180 : decode cX6_cheapest 180 = .ok (.getfield 66, 3) := by decide +kernel
theorem dX6_cheapest_183 : decode cX6_cheapest 183 = .ok (.iconst 1, 1) := by decide +kernel
theorem dX6_cheapest_184 : decode cX6_cheapest 184 = .ok (.aload_n 0, 1) := by decide +kernel
theorem dX6_cheapest_185 : decode cX6_cheapest 185 = .ok (.getfield 63, 3) := by decide +kernel
theorem dX6_cheapest_188 : decode cX6_cheapest 188 = .ok (.iconst 1, 1) := by decide +kernel
theorem dX6_cheapest_189 : decode cX6_cheapest 189 = .ok (.iaload, 1) := by decide +kernel
theorem dX6_cheapest_190 : decode cX6_cheapest 190 = .ok (.iastore, 1) := by decide +kernel
theorem dX6_cheapest_191 : decode cX6_cheapest 191 = .ok (.aload_n 0, 1) := by decide +kernel
theorem dX6_cheapest_192 : decode cX6_cheapest 192 = .ok (.getfield 66, 3) := by decide +kernel
theorem dX6_cheapest_195 : decode cX6_cheapest 195 = .ok (.iconst 2, 1) := by decide +kernel
theorem dX6_cheapest_196 : decode cX6_cheapest 196 = .ok (.aload_n 0, 1) := by decide +kernel
theorem dX6_cheapest_197 : decode cX6_cheapest 197 = .ok (.getfield 63, 3) := by decide +kernel
theorem dX6_cheapest_200 : decode cX6_cheapest 200 = .ok (.iconst 2, 1) := by decide +kernel
theorem dX6_cheapest_201 : decode cX6_cheapest 201 = .ok (.iaload, 1) := by decide +kernel
theorem dX6_cheapest_202 : decode cX6_cheapest 202 = .ok (.iastore, 1) := by decide +kernel
theorem dX6_cheapest_203 : decode cX6_cheapest 203 = .ok (.aload_n 0, 1) := by decide +kernel
theorem dX6_cheapest_204 : decode cX6_cheapest 204 = .ok (.getfield 66, 3) := by decide +kernel
theorem dX6_cheapest_207 : decode cX6_cheapest 207 = .ok (.iconst 3, 1) := by decide +kernel
theorem dX6_cheapest_208 : decode cX6_cheapest 208 = .ok (.iload_n 3, 1) := by decide +kernel
theorem dX6_cheapest_209 : decode cX6_cheapest 209 = .ok (.iastore, 1) := by decide +kernel
theorem dX6_cheapest_210 : decode cX6_cheapest 210 = .ok (.iinc 2 1, 3) := by decide +kernel
theorem dX6_cheapest_213 : decode cX6_cheapest 213 = .ok (.goto (-190), 3) := by decide +kernel
theorem dX6_cheapest_216 : decode cX6_cheapest 216 = .ok (.aload_n 0, 1) := by decide +kernel
theorem dX6_cheapest_217 : decode cX6_cheapest 217 = .ok (.getfield 66, 3) := by decide +kernel
theorem dX6_cheapest_220 : decode cX6_cheapest 220 = .ok (.iload_n 1, 1) := by decide +kernel
theorem dX6_cheapest_221 : decode cX6_cheapest 221 = .ok (.iaload, 1) := by decide +kernel
theorem dX6_cheapest_222 : decode cX6_cheapest 222 = .ok (.ireturn, 1) := by decide +kernel
end
section
theorem dL_law_0 : decode cL_law 0 = .ok (.new 7, 3) := by decide +kernel
theorem dL_law_3 : decode cL_law 3 = .ok (.dup, 1) := by decide +kernel
theorem dL_law_4 : decode cL_law 4 = .ok (.invokespecial 9, 3) := by decide +kernel
theorem dL_law_7 : decode cL_law 7 = .ok (.astore_n 1, 1) := by decide +kernel
theorem dL_law_8 : decode cL_law 8 = .ok (.new 10, 3) := by decide +kernel
theorem dL_law_11 : decode cL_law 11 = .ok (.dup, 1) := by decide +kernel
theorem dL_law_12 : decode cL_law 12 = .ok (.invokespecial 12, 3) := by decide +kernel
theorem dL_law_15 : decode cL_law 15 = .ok (.astore_n 2, 1) := by decide +kernel
theorem dL_law_16 : decode cL_law 16 = .ok (.iconst 0, 1) := by decide +kernel
theorem dL_law_17 : decode cL_law 17 = .ok (.istore_n 3, 1) := by decide +kernel
theorem dL_law_18 : decode cL_law 18 = .ok (.iload_n 3, 1) := by decide +kernel
theorem dL_law_19 : decode cL_law 19 = .ok (.aload_n 0, 1) := by decide +kernel
theorem dL_law_20 : decode cL_law 20 = .ok (.arraylength, 1) := by decide +kernel
theorem dL_law_21 : decode cL_law 21 = .ok (.iconst 5, 1) := by decide +kernel
theorem dL_law_22 : decode cL_law 22 = .ok (.isub, 1) := by decide +kernel
theorem dL_law_23 : decode cL_law 23 = .ok (.if_icmp .gt 875, 3) := by decide +kernel
theorem dL_law_26 : decode cL_law 26 = .ok (.aload_n 0, 1) := by decide +kernel
theorem dL_law_27 : decode cL_law 27 = .ok (.iload_n 3, 1) := by decide +kernel
theorem dL_law_28 : decode cL_law 28 = .ok (.iaload, 1) := by decide +kernel
theorem dL_law_29 : decode cL_law 29 = .ok (.bipush 31, 2) := by decide +kernel
theorem dL_law_31 : decode cL_law 31 = .ok (.iand, 1) := by decide +kernel
theorem dL_law_32 : decode cL_law 32 = .ok (.tableswitch 860 0 21 #[104, 137, 160, 184, 198, 241, 264, 317, 370, 403, 452, 485, 519, 553, 597, 630, 654, 688, 722, 771, 804, 837], 104) := by decide +kernel
theorem dL_law_136 : decode cL_law 136 = .ok (.aload_n 1, 1) := by decide +kernel
theorem dL_law_137 : decode cL_law 137 = .ok (.aload_n 0, 1) := by decide +kernel
theorem dL_law_138 : decode cL_law 138 = .ok (.iload_n 3, 1) := by decide +kernel
theorem dL_law_139 : decode cL_law 139 = .ok (.iconst 1, 1) := by decide +kernel
theorem dL_law_140 : decode cL_law 140 = .ok (.iadd, 1) := by decide +kernel
theorem dL_law_141 : decode cL_law 141 = .ok (.iaload, 1) := by decide +kernel
theorem dL_law_142 : decode cL_law 142 = .ok (.aload_n 0, 1) := by decide +kernel
theorem dL_law_143 : decode cL_law 143 = .ok (.iload_n 3, 1) := by decide +kernel
theorem dL_law_144 : decode cL_law 144 = .ok (.iconst 2, 1) := by decide +kernel
theorem dL_law_145 : decode cL_law 145 = .ok (.iadd, 1) := by decide +kernel
theorem dL_law_146 : decode cL_law 146 = .ok (.iaload, 1) := by decide +kernel
theorem dL_law_147 : decode cL_law 147 = .ok (.invokevirtual 13, 3) := by decide +kernel
theorem dL_law_150 : decode cL_law 150 = .ok (.aload_n 2, 1) := by decide +kernel
theorem dL_law_151 : decode cL_law 151 = .ok (.aload_n 0, 1) := by decide +kernel
theorem dL_law_152 : decode cL_law 152 = .ok (.iload_n 3, 1) := by decide +kernel
theorem dL_law_153 : decode cL_law 153 = .ok (.iconst 1, 1) := by decide +kernel
theorem dL_law_154 : decode cL_law 154 = .ok (.iadd, 1) := by decide +kernel
theorem dL_law_155 : decode cL_law 155 = .ok (.iaload, 1) := by decide +kernel
theorem dL_law_156 : decode cL_law 156 = .ok (.aload_n 0, 1) := by decide +kernel
theorem dL_law_157 : decode cL_law 157 = .ok (.iload_n 3, 1) := by decide +kernel
theorem dL_law_158 : decode cL_law 158 = .ok (.iconst 2, 1) := by decide +kernel
theorem dL_law_159 : decode cL_law 159 = .ok (.iadd, 1) := by decide +kernel
theorem dL_law_160 : decode cL_law 160 = .ok (.iaload, 1) := by decide +kernel
theorem dL_law_161 : decode cL_law 161 = .ok (.invokevirtual 17, 3) := by decide +kernel
theorem dL_law_164 : decode cL_law 164 = .ok (.if_icmp .eq 728, 3) := by decide +kernel
theorem dL_law_167 : decode cL_law 167 = .ok (.iconst 0, 1) := by decide +kernel
theorem dL_law_168 : decode cL_law 168 = .ok (.ireturn, 1) := by decide +kernel
theorem dL_law_169 : decode cL_law 169 = .ok (.aload_n 1, 1) := by decide +kernel
theorem dL_law_170 : decode cL_law 170 = .ok (.aload_n 0, 1) := by decide +kernel
theorem dL_law_171 : decode cL_law 171 = .ok (.iload_n 3, 1) := by decide +kernel
theorem dL_law_172 : decode cL_law 172 = .ok (.iconst 1, 1) := by decide +kernel
theorem dL_law_173 : decode cL_law 173 = .ok (.iadd, 1) := by decide +kernel
theorem dL_law_174 : decode cL_law 174 = .ok (.iaload, 1) := by decide +kernel
theorem dL_law_175 : decode cL_law 175 = .ok (.invokevirtual 18, 3) := by decide +kernel
theorem dL_law_178 : decode cL_law 178 = .ok (.aload_n 2, 1) := by decide +kernel
theorem dL_law_179 : decode cL_law 179 = .ok (.aload_n 0, 1) := by decide +kernel
theorem dL_law_180 : decode cL_law 180 = .ok (.iload_n 3, 1) := by decide +kernel
theorem dL_law_181 : decode cL_law 181 = .ok (.iconst 1, 1) := by decide +kernel
theorem dL_law_182 : decode cL_law 182 = .ok (.iadd, 1) := by decide +kernel
theorem dL_law_183 : decode cL_law 183 = .ok (.iaload, 1) := by decide +kernel
theorem dL_law_184 : decode cL_law 184 = .ok (.invokevirtual 22, 3) := by decide +kernel
theorem dL_law_187 : decode cL_law 187 = .ok (.if_icmp .eq 705, 3) := by decide +kernel
theorem dL_law_190 : decode cL_law 190 = .ok (.iconst 0, 1) := by decide +kernel
theorem dL_law_191 : decode cL_law 191 = .ok (.ireturn, 1) := by decide +kernel
theorem dL_law_192 : decode cL_law 192 = .ok (.aload_n 1, 1) := by decide +kernel
theorem dL_law_193 : decode cL_law 193 = .ok (.aload_n 0, 1) := by decide +kernel
theorem dL_law_194 : decode cL_law 194 = .ok (.iload_n 3, 1) := by decide +kernel
theorem dL_law_195 : decode cL_law 195 = .ok (.iconst 1, 1) := by decide +kernel
theorem dL_law_196 : decode cL_law 196 = .ok (.iadd, 1) := by decide +kernel
theorem dL_law_197 : decode cL_law 197 = .ok (.iaload, 1) := by decide +kernel
theorem dL_law_198 : decode cL_law 198 = .ok (.invokevirtual 23, 3) := by decide +kernel
theorem dL_law_201 : decode cL_law 201 = .ok (.aload_n 2, 1) := by decide +kernel
theorem dL_law_202 : decode cL_law 202 = .ok (.aload_n 0, 1) := by decide +kernel
theorem dL_law_203 : decode cL_law 203 = .ok (.iload_n 3, 1) := by decide +kernel
theorem dL_law_204 : decode cL_law 204 = .ok (.iconst 1, 1) := by decide +kernel
theorem dL_law_205 : decode cL_law 205 = .ok (.iadd, 1) := by decide +kernel
theorem dL_law_206 : decode cL_law 206 = .ok (.iaload, 1) := by decide +kernel
theorem dL_law_207 : decode cL_law 207 = .ok (.invokevirtual 27, 3) := by decide +kernel
theorem dL_law_210 : decode cL_law 210 = .ok (.lcmp, 1) := by decide +kernel
theorem dL_law_211 : decode cL_law 211 = .ok (.ifCond .eq 681, 3) := by decide +kernel
theorem dL_law_214 : decode cL_law 214 = .ok (.iconst 0, 1) := by decide +kernel
theorem dL_law_215 : decode cL_law 215 = .ok (.ireturn, 1) := by decide +kernel
theorem dL_law_216 : decode cL_law 216 = .ok (.aload_n 1, 1) := by decide +kernel
theorem dL_law_217 : decode cL_law 217 = .ok (.invokevirtual 28, 3) := by decide +kernel
theorem dL_law_220 : decode cL_law 220 = .ok (.aload_n 2, 1) := by decide +kernel
theorem dL_law_221 : decode cL_law 221 = .ok (.invokevirtual 32, 3) := by decide +kernel
theorem dL_law_224 : decode cL_law 224 = .ok (.lcmp, 1) := by decide +kernel
theorem dL_law_225 : decode cL_law 225 = .ok (.ifCond .eq 667, 3) := by decide +kernel
theorem dL_law_228 : decode cL_law 228 = .ok (.iconst 0, 1) := by decide +kernel
theorem dL_law_229 : decode cL_law 229 = .ok (.ireturn, 1) := by decide +kernel
theorem dL_law_230 : decode cL_law 230 = .ok (.aload_n 1, 1) := by decide +kernel
theorem dL_law_231 : decode cL_law 231 = .ok (.aload_n 0, 1) := by decide +kernel
theorem dL_law_232 : decode cL_law 232 = .ok (.iload_n 3, 1) := by decide +kernel
theorem dL_law_233 : decode cL_law 233 = .ok (.iconst 1, 1) := by decide +kernel
theorem dL_law_234 : decode cL_law 234 = .ok (.iadd, 1) := by decide +kernel
theorem dL_law_235 : decode cL_law 235 = .ok (.iaload, 1) := by decide +kernel
theorem dL_law_236 : decode cL_law 236 = .ok (.aload_n 0, 1) := by decide +kernel
theorem dL_law_237 : decode cL_law 237 = .ok (.iload_n 3, 1) := by decide +kernel
theorem dL_law_238 : decode cL_law 238 = .ok (.iconst 2, 1) := by decide +kernel
theorem dL_law_239 : decode cL_law 239 = .ok (.iadd, 1) := by decide +kernel
theorem dL_law_240 : decode cL_law 240 = .ok (.iaload, 1) := by decide +kernel
theorem dL_law_241 : decode cL_law 241 = .ok (.aload_n 0, 1) := by decide +kernel
theorem dL_law_242 : decode cL_law 242 = .ok (.iload_n 3, 1) := by decide +kernel
theorem dL_law_243 : decode cL_law 243 = .ok (.iconst 3, 1) := by decide +kernel
theorem dL_law_244 : decode cL_law 244 = .ok (.iadd, 1) := by decide +kernel
theorem dL_law_245 : decode cL_law 245 = .ok (.iaload, 1) := by decide +kernel
theorem dL_law_246 : decode cL_law 246 = .ok (.invokevirtual 33, 3) := by decide +kernel
theorem dL_law_249 : decode cL_law 249 = .ok (.aload_n 2, 1) := by decide +kernel
theorem dL_law_250 : decode cL_law 250 = .ok (.aload_n 0, 1) := by decide +kernel
theorem dL_law_251 : decode cL_law 251 = .ok (.iload_n 3, 1) := by decide +kernel
theorem dL_law_252 : decode cL_law 252 = .ok (.iconst 1, 1) := by decide +kernel
theorem dL_law_253 : decode cL_law 253 = .ok (.iadd, 1) := by decide +kernel
theorem dL_law_254 : decode cL_law 254 = .ok (.iaload, 1) := by decide +kernel
theorem dL_law_255 : decode cL_law 255 = .ok (.aload_n 0, 1) := by decide +kernel
theorem dL_law_256 : decode cL_law 256 = .ok (.iload_n 3, 1) := by decide +kernel
theorem dL_law_257 : decode cL_law 257 = .ok (.iconst 2, 1) := by decide +kernel
theorem dL_law_258 : decode cL_law 258 = .ok (.iadd, 1) := by decide +kernel
theorem dL_law_259 : decode cL_law 259 = .ok (.iaload, 1) := by decide +kernel
theorem dL_law_260 : decode cL_law 260 = .ok (.aload_n 0, 1) := by decide +kernel
theorem dL_law_261 : decode cL_law 261 = .ok (.iload_n 3, 1) := by decide +kernel
theorem dL_law_262 : decode cL_law 262 = .ok (.iconst 3, 1) := by decide +kernel
theorem dL_law_263 : decode cL_law 263 = .ok (.iadd, 1) := by decide +kernel
theorem dL_law_264 : decode cL_law 264 = .ok (.iaload, 1) := by decide +kernel
theorem dL_law_265 : decode cL_law 265 = .ok (.invokevirtual 37, 3) := by decide +kernel
theorem dL_law_268 : decode cL_law 268 = .ok (.if_icmp .eq 624, 3) := by decide +kernel
theorem dL_law_271 : decode cL_law 271 = .ok (.iconst 0, 1) := by decide +kernel
theorem dL_law_272 : decode cL_law 272 = .ok (.ireturn, 1) := by decide +kernel
theorem dL_law_273 : decode cL_law 273 = .ok (.aload_n 1, 1) := by decide +kernel
theorem dL_law_274 : decode cL_law 274 = .ok (.aload_n 0, 1) := by decide +kernel
theorem dL_law_275 : decode cL_law 275 = .ok (.iload_n 3, 1) := by decide +kernel
theorem dL_law_276 : decode cL_law 276 = .ok (.iconst 1, 1) := by decide +kernel
theorem dL_law_277 : decode cL_law 277 = .ok (.iadd, 1) := by decide +kernel
theorem dL_law_278 : decode cL_law 278 = .ok (.iaload, 1) := by decide +kernel
theorem dL_law_279 : decode cL_law 279 = .ok (.invokevirtual 38, 3) := by decide +kernel
theorem dL_law_282 : decode cL_law 282 = .ok (.aload_n 2, 1) := by decide +kernel
theorem dL_law_283 : decode cL_law 283 = .ok (.aload_n 0, 1) := by decide +kernel
theorem dL_law_284 : decode cL_law 284 = .ok (.iload_n 3, 1) := by decide +kernel
theorem dL_law_285 : decode cL_law 285 = .ok (.iconst 1, 1) := by decide +kernel
theorem dL_law_286 : decode cL_law 286 = .ok (.iadd, 1) := by decide +kernel
theorem dL_law_287 : decode cL_law 287 = .ok (.iaload, 1) := by decide +kernel
theorem dL_law_288 : decode cL_law 288 = .ok (.invokevirtual 41, 3) := by decide +kernel
theorem dL_law_291 : decode cL_law 291 = .ok (.if_icmp .eq 601, 3) := by decide +kernel
theorem dL_law_294 : decode cL_law 294 = .ok (.iconst 0, 1) := by decide +kernel
theorem dL_law_295 : decode cL_law 295 = .ok (.ireturn, 1) := by decide +kernel
theorem dL_law_296 : decode cL_law 296 = .ok (.aload_n 1, 1) := by decide +kernel
theorem dL_law_297 : decode cL_law 297 = .ok (.aload_n 0, 1) := by decide +kernel
theorem dL_law_298 : decode cL_law 298 = .ok (.iload_n 3, 1) := by decide +kernel
theorem dL_law_299 : decode cL_law 299 = .ok (.iconst 1, 1) := by decide +kernel
theorem dL_law_300 : decode cL_law 300 = .ok (.iadd, 1) := by decide +kernel
theorem dL_law_301 : decode cL_law 301 = .ok (.iaload, 1) := by decide +kernel
theorem dL_law_302 : decode cL_law 302 = .ok (.aload_n 0, 1) := by decide +kernel
theorem dL_law_303 : decode cL_law 303 = .ok (.iload_n 3, 1) := by decide +kernel
theorem dL_law_304 : decode cL_law 304 = .ok (.iconst 2, 1) := by decide +kernel
theorem dL_law_305 : decode cL_law 305 = .ok (.iadd, 1) := by decide +kernel
theorem dL_law_306 : decode cL_law 306 = .ok (.iaload, 1) := by decide +kernel
theorem dL_law_307 : decode cL_law 307 = .ok (.aload_n 0, 1) := by decide +kernel
theorem dL_law_308 : decode cL_law 308 = .ok (.iload_n 3, 1) := by decide +kernel
theorem dL_law_309 : decode cL_law 309 = .ok (.iconst 3, 1) := by decide +kernel
theorem dL_law_310 : decode cL_law 310 = .ok (.iadd, 1) := by decide +kernel
theorem dL_law_311 : decode cL_law 311 = .ok (.iaload, 1) := by decide +kernel
theorem dL_law_312 : decode cL_law 312 = .ok (.aload_n 0, 1) := by decide +kernel
theorem dL_law_313 : decode cL_law 313 = .ok (.iload_n 3, 1) := by decide +kernel
theorem dL_law_314 : decode cL_law 314 = .ok (.iconst 4, 1) := by decide +kernel
theorem dL_law_315 : decode cL_law 315 = .ok (.iadd, 1) := by decide +kernel
theorem dL_law_316 : decode cL_law 316 = .ok (.iaload, 1) := by decide +kernel
theorem dL_law_317 : decode cL_law 317 = .ok (.invokevirtual 42, 3) := by decide +kernel
theorem dL_law_320 : decode cL_law 320 = .ok (.aload_n 2, 1) := by decide +kernel
theorem dL_law_321 : decode cL_law 321 = .ok (.aload_n 0, 1) := by decide +kernel
theorem dL_law_322 : decode cL_law 322 = .ok (.iload_n 3, 1) := by decide +kernel
theorem dL_law_323 : decode cL_law 323 = .ok (.iconst 1, 1) := by decide +kernel
theorem dL_law_324 : decode cL_law 324 = .ok (.iadd, 1) := by decide +kernel
theorem dL_law_325 : decode cL_law 325 = .ok (.iaload, 1) := by decide +kernel
theorem dL_law_326 : decode cL_law 326 = .ok (.aload_n 0, 1) := by decide +kernel
theorem dL_law_327 : decode cL_law 327 = .ok (.iload_n 3, 1) := by decide +kernel
theorem dL_law_328 : decode cL_law 328 = .ok (.iconst 2, 1) := by decide +kernel
theorem dL_law_329 : decode cL_law 329 = .ok (.iadd, 1) := by decide +kernel
theorem dL_law_330 : decode cL_law 330 = .ok (.iaload, 1) := by decide +kernel
theorem dL_law_331 : decode cL_law 331 = .ok (.aload_n 0, 1) := by decide +kernel
theorem dL_law_332 : decode cL_law 332 = .ok (.iload_n 3, 1) := by decide +kernel
theorem dL_law_333 : decode cL_law 333 = .ok (.iconst 3, 1) := by decide +kernel
theorem dL_law_334 : decode cL_law 334 = .ok (.iadd, 1) := by decide +kernel
theorem dL_law_335 : decode cL_law 335 = .ok (.iaload, 1) := by decide +kernel
theorem dL_law_336 : decode cL_law 336 = .ok (.aload_n 0, 1) := by decide +kernel
theorem dL_law_337 : decode cL_law 337 = .ok (.iload_n 3, 1) := by decide +kernel
theorem dL_law_338 : decode cL_law 338 = .ok (.iconst 4, 1) := by decide +kernel
theorem dL_law_339 : decode cL_law 339 = .ok (.iadd, 1) := by decide +kernel
theorem dL_law_340 : decode cL_law 340 = .ok (.iaload, 1) := by decide +kernel
theorem dL_law_341 : decode cL_law 341 = .ok (.invokevirtual 46, 3) := by decide +kernel
theorem dL_law_344 : decode cL_law 344 = .ok (.if_icmp .eq 548, 3) := by decide +kernel
theorem dL_law_347 : decode cL_law 347 = .ok (.iconst 0, 1) := by decide +kernel
theorem dL_law_348 : decode cL_law 348 = .ok (.ireturn, 1) := by decide +kernel
theorem dL_law_349 : decode cL_law 349 = .ok (.aload_n 1, 1) := by decide +kernel
theorem dL_law_350 : decode cL_law 350 = .ok (.aload_n 0, 1) := by decide +kernel
theorem dL_law_351 : decode cL_law 351 = .ok (.iload_n 3, 1) := by decide +kernel
theorem dL_law_352 : decode cL_law 352 = .ok (.iconst 1, 1) := by decide +kernel
theorem dL_law_353 : decode cL_law 353 = .ok (.iadd, 1) := by decide +kernel
theorem dL_law_354 : decode cL_law 354 = .ok (.iaload, 1) := by decide +kernel
theorem dL_law_355 : decode cL_law 355 = .ok (.aload_n 0, 1) := by decide +kernel
theorem dL_law_356 : decode cL_law 356 = .ok (.iload_n 3, 1) := by decide +kernel
theorem dL_law_357 : decode cL_law 357 = .ok (.iconst 2, 1) := by decide +kernel
theorem dL_law_358 : decode cL_law 358 = .ok (.iadd, 1) := by decide +kernel
theorem dL_law_359 : decode cL_law 359 = .ok (.iaload, 1) := by decide +kernel
theorem dL_law_360 : decode cL_law 360 = .ok (.aload_n 0, 1) := by decide +kernel
theorem dL_law_361 : decode cL_law 361 = .ok (.iload_n 3, 1) := by decide +kernel
theorem dL_law_362 : decode cL_law 362 = .ok (.iconst 3, 1) := by decide +kernel
theorem dL_law_363 : decode cL_law 363 = .ok (.iadd, 1) := by decide +kernel
theorem dL_law_364 : decode cL_law 364 = .ok (.iaload, 1) := by decide +kernel
theorem dL_law_365 : decode cL_law 365 = .ok (.aload_n 0, 1) := by decide +kernel
theorem dL_law_366 : decode cL_law 366 = .ok (.iload_n 3, 1) := by decide +kernel
theorem dL_law_367 : decode cL_law 367 = .ok (.iconst 4, 1) := by decide +kernel
theorem dL_law_368 : decode cL_law 368 = .ok (.iadd, 1) := by decide +kernel
theorem dL_law_369 : decode cL_law 369 = .ok (.iaload, 1) := by decide +kernel
theorem dL_law_370 : decode cL_law 370 = .ok (.invokevirtual 47, 3) := by decide +kernel
theorem dL_law_373 : decode cL_law 373 = .ok (.aload_n 2, 1) := by decide +kernel
theorem dL_law_374 : decode cL_law 374 = .ok (.aload_n 0, 1) := by decide +kernel
theorem dL_law_375 : decode cL_law 375 = .ok (.iload_n 3, 1) := by decide +kernel
theorem dL_law_376 : decode cL_law 376 = .ok (.iconst 1, 1) := by decide +kernel
theorem dL_law_377 : decode cL_law 377 = .ok (.iadd, 1) := by decide +kernel
theorem dL_law_378 : decode cL_law 378 = .ok (.iaload, 1) := by decide +kernel
theorem dL_law_379 : decode cL_law 379 = .ok (.aload_n 0, 1) := by decide +kernel
theorem dL_law_380 : decode cL_law 380 = .ok (.iload_n 3, 1) := by decide +kernel
theorem dL_law_381 : decode cL_law 381 = .ok (.iconst 2, 1) := by decide +kernel
theorem dL_law_382 : decode cL_law 382 = .ok (.iadd, 1) := by decide +kernel
theorem dL_law_383 : decode cL_law 383 = .ok (.iaload, 1) := by decide +kernel
theorem dL_law_384 : decode cL_law 384 = .ok (.aload_n 0, 1) := by decide +kernel
theorem dL_law_385 : decode cL_law 385 = .ok (.iload_n 3, 1) := by decide +kernel
theorem dL_law_386 : decode cL_law 386 = .ok (.iconst 3, 1) := by decide +kernel
theorem dL_law_387 : decode cL_law 387 = .ok (.iadd, 1) := by decide +kernel
theorem dL_law_388 : decode cL_law 388 = .ok (.iaload, 1) := by decide +kernel
theorem dL_law_389 : decode cL_law 389 = .ok (.aload_n 0, 1) := by decide +kernel
theorem dL_law_390 : decode cL_law 390 = .ok (.iload_n 3, 1) := by decide +kernel
theorem dL_law_391 : decode cL_law 391 = .ok (.iconst 4, 1) := by decide +kernel
theorem dL_law_392 : decode cL_law 392 = .ok (.iadd, 1) := by decide +kernel
theorem dL_law_393 : decode cL_law 393 = .ok (.iaload, 1) := by decide +kernel
theorem dL_law_394 : decode cL_law 394 = .ok (.invokevirtual 50, 3) := by decide +kernel
theorem dL_law_397 : decode cL_law 397 = .ok (.if_icmp .eq 495, 3) := by decide +kernel
theorem dL_law_400 : decode cL_law 400 = .ok (.iconst 0, 1) := by decide +kernel
theorem dL_law_401 : decode cL_law 401 = .ok (.ireturn, 1) := by decide +kernel
theorem dL_law_402 : decode cL_law 402 = .ok (.aload_n 1, 1) := by decide +kernel
theorem dL_law_403 : decode cL_law 403 = .ok (.aload_n 0, 1) := by decide +kernel
theorem dL_law_404 : decode cL_law 404 = .ok (.iload_n 3, 1) := by decide +kernel
theorem dL_law_405 : decode cL_law 405 = .ok (.iconst 1, 1) := by decide +kernel
theorem dL_law_406 : decode cL_law 406 = .ok (.iadd, 1) := by decide +kernel
theorem dL_law_407 : decode cL_law 407 = .ok (.iaload, 1) := by decide +kernel
theorem dL_law_408 : decode cL_law 408 = .ok (.aload_n 0, 1) := by decide +kernel
theorem dL_law_409 : decode cL_law 409 = .ok (.iload_n 3, 1) := by decide +kernel
theorem dL_law_410 : decode cL_law 410 = .ok (.iconst 2, 1) := by decide +kernel
theorem dL_law_411 : decode cL_law 411 = .ok (.iadd, 1) := by decide +kernel
theorem dL_law_412 : decode cL_law 412 = .ok (.iaload, 1) := by decide +kernel
theorem dL_law_413 : decode cL_law 413 = .ok (.invokevirtual 51, 3) := by decide +kernel
theorem dL_law_416 : decode cL_law 416 = .ok (.aload_n 2, 1) := by decide +kernel
theorem dL_law_417 : decode cL_law 417 = .ok (.aload_n 0, 1) := by decide +kernel
theorem dL_law_418 : decode cL_law 418 = .ok (.iload_n 3, 1) := by decide +kernel
theorem dL_law_419 : decode cL_law 419 = .ok (.iconst 1, 1) := by decide +kernel
theorem dL_law_420 : decode cL_law 420 = .ok (.iadd, 1) := by decide +kernel
theorem dL_law_421 : decode cL_law 421 = .ok (.iaload, 1) := by decide +kernel
theorem dL_law_422 : decode cL_law 422 = .ok (.aload_n 0, 1) := by decide +kernel
theorem dL_law_423 : decode cL_law 423 = .ok (.iload_n 3, 1) := by decide +kernel
theorem dL_law_424 : decode cL_law 424 = .ok (.iconst 2, 1) := by decide +kernel
theorem dL_law_425 : decode cL_law 425 = .ok (.iadd, 1) := by decide +kernel
theorem dL_law_426 : decode cL_law 426 = .ok (.iaload, 1) := by decide +kernel
theorem dL_law_427 : decode cL_law 427 = .ok (.invokevirtual 54, 3) := by decide +kernel
theorem dL_law_430 : decode cL_law 430 = .ok (.if_icmp .eq 462, 3) := by decide +kernel
theorem dL_law_433 : decode cL_law 433 = .ok (.iconst 0, 1) := by decide +kernel
theorem dL_law_434 : decode cL_law 434 = .ok (.ireturn, 1) := by decide +kernel
theorem dL_law_435 : decode cL_law 435 = .ok (.aload_n 1, 1) := by decide +kernel
theorem dL_law_436 : decode cL_law 436 = .ok (.aload_n 0, 1) := by decide +kernel
theorem dL_law_437 : decode cL_law 437 = .ok (.iload_n 3, 1) := by decide +kernel
theorem dL_law_438 : decode cL_law 438 = .ok (.iconst 1, 1) := by decide +kernel
theorem dL_law_439 : decode cL_law 439 = .ok (.iadd, 1) := by decide +kernel
theorem dL_law_440 : decode cL_law 440 = .ok (.iaload, 1) := by decide +kernel
theorem dL_law_441 : decode cL_law 441 = .ok (.aload_n 0, 1) := by decide +kernel
theorem dL_law_442 : decode cL_law 442 = .ok (.iload_n 3, 1) := by decide +kernel
theorem dL_law_443 : decode cL_law 443 = .ok (.iconst 2, 1) := by decide +kernel
theorem dL_law_444 : decode cL_law 444 = .ok (.iadd, 1) := by decide +kernel
theorem dL_law_445 : decode cL_law 445 = .ok (.iaload, 1) := by decide +kernel
theorem dL_law_446 : decode cL_law 446 = .ok (.ifCond .eq 7, 3) := by decide +kernel
theorem dL_law_449 : decode cL_law 449 = .ok (.iconst 1, 1) := by decide +kernel
theorem dL_law_450 : decode cL_law 450 = .ok (.goto 4, 3) := by decide +kernel
theorem dL_law_453 : decode cL_law 453 = .ok (.iconst 0, 1) := by decide +kernel
theorem dL_law_454 : decode cL_law 454 = .ok (.invokevirtual 55, 3) := by decide +kernel
theorem dL_law_457 : decode cL_law 457 = .ok (.aload_n 2, 1) := by decide +kernel
theorem dL_law_458 : decode cL_law 458 = .ok (.aload_n 0, 1) := by decide +kernel
theorem dL_law_459 : decode cL_law 459 = .ok (.iload_n 3, 1) := by decide +kernel
theorem dL_law_460 : decode cL_law 460 = .ok (.iconst 1, 1) := by decide +kernel
theorem dL_law_461 : decode cL_law 461 = .ok (.iadd, 1) := by decide +kernel
theorem dL_law_462 : decode cL_law 462 = .ok (.iaload, 1) := by decide +kernel
theorem dL_law_463 : decode cL_law 463 = .ok (.aload_n 0, 1) := by decide +kernel
theorem dL_law_464 : decode cL_law 464 = .ok (.iload_n 3, 1) := by decide +kernel
theorem dL_law_465 : decode cL_law 465 = .ok (.iconst 2, 1) := by decide +kernel
theorem dL_law_466 : decode cL_law 466 = .ok (.iadd, 1) := by decide +kernel
theorem dL_law_467 : decode cL_law 467 = .ok (.iaload, 1) := by decide +kernel
theorem dL_law_468 : decode cL_law 468 = .ok (.ifCond .eq 7, 3) := by decide +kernel
theorem dL_law_471 : decode cL_law 471 = .ok (.iconst 1, 1) := by decide +kernel
theorem dL_law_472 : decode cL_law 472 = .ok (.goto 4, 3) := by decide +kernel
theorem dL_law_475 : decode cL_law 475 = .ok (.iconst 0, 1) := by decide +kernel
theorem dL_law_476 : decode cL_law 476 = .ok (.invokevirtual 59, 3) := by decide +kernel
theorem dL_law_479 : decode cL_law 479 = .ok (.if_icmp .eq 413, 3) := by decide +kernel
theorem dL_law_482 : decode cL_law 482 = .ok (.iconst 0, 1) := by decide +kernel
theorem dL_law_483 : decode cL_law 483 = .ok (.ireturn, 1) := by decide +kernel
theorem dL_law_484 : decode cL_law 484 = .ok (.aload_n 1, 1) := by decide +kernel
theorem dL_law_485 : decode cL_law 485 = .ok (.aload_n 0, 1) := by decide +kernel
theorem dL_law_486 : decode cL_law 486 = .ok (.iload_n 3, 1) := by decide +kernel
theorem dL_law_487 : decode cL_law 487 = .ok (.iconst 1, 1) := by decide +kernel
theorem dL_law_488 : decode cL_law 488 = .ok (.iadd, 1) := by decide +kernel
theorem dL_law_489 : decode cL_law 489 = .ok (.iaload, 1) := by decide +kernel
theorem dL_law_490 : decode cL_law 490 = .ok (.aload_n 0, 1) := by decide +kernel
theorem dL_law_491 : decode cL_law 491 = .ok (.iload_n 3, 1) := by decide +kernel
theorem dL_law_492 : decode cL_law 492 = .ok (.iconst 2, 1) := by decide +kernel
theorem dL_law_493 : decode cL_law 493 = .ok (.iadd, 1) := by decide +kernel
theorem dL_law_494 : decode cL_law 494 = .ok (.iaload, 1) := by decide +kernel
theorem dL_law_495 : decode cL_law 495 = .ok (.invokevirtual 60, 3) := by decide +kernel
theorem dL_law_498 : decode cL_law 498 = .ok (.aload_n 2, 1) := by decide +kernel
theorem dL_law_499 : decode cL_law 499 = .ok (.aload_n 0, 1) := by decide +kernel
theorem dL_law_500 : decode cL_law 500 = .ok (.iload_n 3, 1) := by decide +kernel
theorem dL_law_501 : decode cL_law 501 = .ok (.iconst 1, 1) := by decide +kernel
theorem dL_law_502 : decode cL_law 502 = .ok (.iadd, 1) := by decide +kernel
theorem dL_law_503 : decode cL_law 503 = .ok (.iaload, 1) := by decide +kernel
theorem dL_law_504 : decode cL_law 504 = .ok (.aload_n 0, 1) := by decide +kernel
theorem dL_law_505 : decode cL_law 505 = .ok (.iload_n 3, 1) := by decide +kernel
theorem dL_law_506 : decode cL_law 506 = .ok (.iconst 2, 1) := by decide +kernel
theorem dL_law_507 : decode cL_law 507 = .ok (.iadd, 1) := by decide +kernel
theorem dL_law_508 : decode cL_law 508 = .ok (.iaload, 1) := by decide +kernel
theorem dL_law_509 : decode cL_law 509 = .ok (.invokevirtual 63, 3) := by decide +kernel
theorem dL_law_512 : decode cL_law 512 = .ok (.if_icmp .eq 380, 3) := by decide +kernel
theorem dL_law_515 : decode cL_law 515 = .ok (.iconst 0, 1) := by decide +kernel
theorem dL_law_516 : decode cL_law 516 = .ok (.ireturn, 1) := by decide +kernel
theorem dL_law_517 : decode cL_law 517 = .ok (.aload_n 1, 1) := by decide +kernel
theorem dL_law_518 : decode cL_law 518 = .ok (.aload_n 0, 1) := by decide +kernel
theorem dL_law_519 : decode cL_law 519 = .ok (.iload_n 3, 1) := by decide +kernel
theorem dL_law_520 : decode cL_law 520 = .ok (.iconst 1, 1) := by decide +kernel
theorem dL_law_521 : decode cL_law 521 = .ok (.iadd, 1) := by decide +kernel
theorem dL_law_522 : decode cL_law 522 = .ok (.iaload, 1) := by decide +kernel
theorem dL_law_523 : decode cL_law 523 = .ok (.aload_n 0, 1) := by decide +kernel
theorem dL_law_524 : decode cL_law 524 = .ok (.iload_n 3, 1) := by decide +kernel
theorem dL_law_525 : decode cL_law 525 = .ok (.iconst 2, 1) := by decide +kernel
theorem dL_law_526 : decode cL_law 526 = .ok (.iadd, 1) := by decide +kernel
theorem dL_law_527 : decode cL_law 527 = .ok (.iaload, 1) := by decide +kernel
theorem dL_law_528 : decode cL_law 528 = .ok (.invokevirtual 64, 3) := by decide +kernel
theorem dL_law_531 : decode cL_law 531 = .ok (.aload_n 2, 1) := by decide +kernel
theorem dL_law_532 : decode cL_law 532 = .ok (.aload_n 0, 1) := by decide +kernel
theorem dL_law_533 : decode cL_law 533 = .ok (.iload_n 3, 1) := by decide +kernel
theorem dL_law_534 : decode cL_law 534 = .ok (.iconst 1, 1) := by decide +kernel
theorem dL_law_535 : decode cL_law 535 = .ok (.iadd, 1) := by decide +kernel
theorem dL_law_536 : decode cL_law 536 = .ok (.iaload, 1) := by decide +kernel
theorem dL_law_537 : decode cL_law 537 = .ok (.aload_n 0, 1) := by decide +kernel
theorem dL_law_538 : decode cL_law 538 = .ok (.iload_n 3, 1) := by decide +kernel
theorem dL_law_539 : decode cL_law 539 = .ok (.iconst 2, 1) := by decide +kernel
theorem dL_law_540 : decode cL_law 540 = .ok (.iadd, 1) := by decide +kernel
theorem dL_law_541 : decode cL_law 541 = .ok (.iaload, 1) := by decide +kernel
theorem dL_law_542 : decode cL_law 542 = .ok (.invokevirtual 68, 3) := by decide +kernel
theorem dL_law_545 : decode cL_law 545 = .ok (.lcmp, 1) := by decide +kernel
theorem dL_law_546 : decode cL_law 546 = .ok (.ifCond .eq 346, 3) := by decide +kernel
theorem dL_law_549 : decode cL_law 549 = .ok (.iconst 0, 1) := by decide +kernel
theorem dL_law_550 : decode cL_law 550 = .ok (.ireturn, 1) := by decide +kernel
theorem dL_law_551 : decode cL_law 551 = .ok (.aload_n 1, 1) := by decide +kernel
theorem dL_law_552 : decode cL_law 552 = .ok (.aload_n 0, 1) := by decide +kernel
theorem dL_law_553 : decode cL_law 553 = .ok (.iload_n 3, 1) := by decide +kernel
theorem dL_law_554 : decode cL_law 554 = .ok (.iconst 1, 1) := by decide +kernel
theorem dL_law_555 : decode cL_law 555 = .ok (.iadd, 1) := by decide +kernel
theorem dL_law_556 : decode cL_law 556 = .ok (.iaload, 1) := by decide +kernel
theorem dL_law_557 : decode cL_law 557 = .ok (.aload_n 0, 1) := by decide +kernel
theorem dL_law_558 : decode cL_law 558 = .ok (.iload_n 3, 1) := by decide +kernel
theorem dL_law_559 : decode cL_law 559 = .ok (.iconst 2, 1) := by decide +kernel
theorem dL_law_560 : decode cL_law 560 = .ok (.iadd, 1) := by decide +kernel
theorem dL_law_561 : decode cL_law 561 = .ok (.iaload, 1) := by decide +kernel
theorem dL_law_562 : decode cL_law 562 = .ok (.invokevirtual 69, 3) := by decide +kernel
theorem dL_law_565 : decode cL_law 565 = .ok (.aload_n 2, 1) := by decide +kernel
theorem dL_law_566 : decode cL_law 566 = .ok (.aload_n 0, 1) := by decide +kernel
theorem dL_law_567 : decode cL_law 567 = .ok (.iload_n 3, 1) := by decide +kernel
theorem dL_law_568 : decode cL_law 568 = .ok (.iconst 1, 1) := by decide +kernel
theorem dL_law_569 : decode cL_law 569 = .ok (.iadd, 1) := by decide +kernel
theorem dL_law_570 : decode cL_law 570 = .ok (.iaload, 1) := by decide +kernel
theorem dL_law_571 : decode cL_law 571 = .ok (.aload_n 0, 1) := by decide +kernel
theorem dL_law_572 : decode cL_law 572 = .ok (.iload_n 3, 1) := by decide +kernel
theorem dL_law_573 : decode cL_law 573 = .ok (.iconst 2, 1) := by decide +kernel
theorem dL_law_574 : decode cL_law 574 = .ok (.iadd, 1) := by decide +kernel
theorem dL_law_575 : decode cL_law 575 = .ok (.iaload, 1) := by decide +kernel
theorem dL_law_576 : decode cL_law 576 = .ok (.invokevirtual 72, 3) := by decide +kernel
theorem dL_law_579 : decode cL_law 579 = .ok (.lcmp, 1) := by decide +kernel
theorem dL_law_580 : decode cL_law 580 = .ok (.ifCond .eq 312, 3) := by decide +kernel
theorem dL_law_583 : decode cL_law 583 = .ok (.iconst 0, 1) := by decide +kernel
theorem dL_law_584 : decode cL_law 584 = .ok (.ireturn, 1) := by decide +kernel
theorem dL_law_585 : decode cL_law 585 = .ok (.aload_n 1, 1) := by decide +kernel
theorem dL_law_586 : decode cL_law 586 = .ok (.aload_n 0, 1) := by decide +kernel
theorem dL_law_587 : decode cL_law 587 = .ok (.iload_n 3, 1) := by decide +kernel
theorem dL_law_588 : decode cL_law 588 = .ok (.iconst 1, 1) := by decide +kernel
theorem dL_law_589 : decode cL_law 589 = .ok (.iadd, 1) := by decide +kernel
theorem dL_law_590 : decode cL_law 590 = .ok (.iaload, 1) := by decide +kernel
theorem dL_law_591 : decode cL_law 591 = .ok (.aload_n 0, 1) := by decide +kernel
theorem dL_law_592 : decode cL_law 592 = .ok (.iload_n 3, 1) := by decide +kernel
theorem dL_law_593 : decode cL_law 593 = .ok (.iconst 2, 1) := by decide +kernel
theorem dL_law_594 : decode cL_law 594 = .ok (.iadd, 1) := by decide +kernel
theorem dL_law_595 : decode cL_law 595 = .ok (.iaload, 1) := by decide +kernel
theorem dL_law_596 : decode cL_law 596 = .ok (.aload_n 0, 1) := by decide +kernel
theorem dL_law_597 : decode cL_law 597 = .ok (.iload_n 3, 1) := by decide +kernel
theorem dL_law_598 : decode cL_law 598 = .ok (.iconst 3, 1) := by decide +kernel
theorem dL_law_599 : decode cL_law 599 = .ok (.iadd, 1) := by decide +kernel
theorem dL_law_600 : decode cL_law 600 = .ok (.iaload, 1) := by decide +kernel
theorem dL_law_601 : decode cL_law 601 = .ok (.invokevirtual 73, 3) := by decide +kernel
theorem dL_law_604 : decode cL_law 604 = .ok (.aload_n 2, 1) := by decide +kernel
theorem dL_law_605 : decode cL_law 605 = .ok (.aload_n 0, 1) := by decide +kernel
theorem dL_law_606 : decode cL_law 606 = .ok (.iload_n 3, 1) := by decide +kernel
theorem dL_law_607 : decode cL_law 607 = .ok (.iconst 1, 1) := by decide +kernel
theorem dL_law_608 : decode cL_law 608 = .ok (.iadd, 1) := by decide +kernel
theorem dL_law_609 : decode cL_law 609 = .ok (.iaload, 1) := by decide +kernel
theorem dL_law_610 : decode cL_law 610 = .ok (.aload_n 0, 1) := by decide +kernel
theorem dL_law_611 : decode cL_law 611 = .ok (.iload_n 3, 1) := by decide +kernel
theorem dL_law_612 : decode cL_law 612 = .ok (.iconst 2, 1) := by decide +kernel
theorem dL_law_613 : decode cL_law 613 = .ok (.iadd, 1) := by decide +kernel
theorem dL_law_614 : decode cL_law 614 = .ok (.iaload, 1) := by decide +kernel
theorem dL_law_615 : decode cL_law 615 = .ok (.aload_n 0, 1) := by decide +kernel
theorem dL_law_616 : decode cL_law 616 = .ok (.iload_n 3, 1) := by decide +kernel
theorem dL_law_617 : decode cL_law 617 = .ok (.iconst 3, 1) := by decide +kernel
theorem dL_law_618 : decode cL_law 618 = .ok (.iadd, 1) := by decide +kernel
theorem dL_law_619 : decode cL_law 619 = .ok (.iaload, 1) := by decide +kernel
theorem dL_law_620 : decode cL_law 620 = .ok (.invokevirtual 77, 3) := by decide +kernel
theorem dL_law_623 : decode cL_law 623 = .ok (.lcmp, 1) := by decide +kernel
theorem dL_law_624 : decode cL_law 624 = .ok (.ifCond .eq 268, 3) := by decide +kernel
theorem dL_law_627 : decode cL_law 627 = .ok (.iconst 0, 1) := by decide +kernel
theorem dL_law_628 : decode cL_law 628 = .ok (.ireturn, 1) := by decide +kernel
theorem dL_law_629 : decode cL_law 629 = .ok (.aload_n 1, 1) := by decide +kernel
theorem dL_law_630 : decode cL_law 630 = .ok (.aload_n 0, 1) := by decide +kernel
theorem dL_law_631 : decode cL_law 631 = .ok (.iload_n 3, 1) := by decide +kernel
theorem dL_law_632 : decode cL_law 632 = .ok (.iconst 1, 1) := by decide +kernel
theorem dL_law_633 : decode cL_law 633 = .ok (.iadd, 1) := by decide +kernel
theorem dL_law_634 : decode cL_law 634 = .ok (.iaload, 1) := by decide +kernel
theorem dL_law_635 : decode cL_law 635 = .ok (.aload_n 0, 1) := by decide +kernel
theorem dL_law_636 : decode cL_law 636 = .ok (.iload_n 3, 1) := by decide +kernel
theorem dL_law_637 : decode cL_law 637 = .ok (.iconst 2, 1) := by decide +kernel
theorem dL_law_638 : decode cL_law 638 = .ok (.iadd, 1) := by decide +kernel
theorem dL_law_639 : decode cL_law 639 = .ok (.iaload, 1) := by decide +kernel
theorem dL_law_640 : decode cL_law 640 = .ok (.invokevirtual 78, 3) := by decide +kernel
theorem dL_law_643 : decode cL_law 643 = .ok (.aload_n 2, 1) := by decide +kernel
theorem dL_law_644 : decode cL_law 644 = .ok (.aload_n 0, 1) := by decide +kernel
theorem dL_law_645 : decode cL_law 645 = .ok (.iload_n 3, 1) := by decide +kernel
theorem dL_law_646 : decode cL_law 646 = .ok (.iconst 1, 1) := by decide +kernel
theorem dL_law_647 : decode cL_law 647 = .ok (.iadd, 1) := by decide +kernel
theorem dL_law_648 : decode cL_law 648 = .ok (.iaload, 1) := by decide +kernel
theorem dL_law_649 : decode cL_law 649 = .ok (.aload_n 0, 1) := by decide +kernel
theorem dL_law_650 : decode cL_law 650 = .ok (.iload_n 3, 1) := by decide +kernel
theorem dL_law_651 : decode cL_law 651 = .ok (.iconst 2, 1) := by decide +kernel
theorem dL_law_652 : decode cL_law 652 = .ok (.iadd, 1) := by decide +kernel
theorem dL_law_653 : decode cL_law 653 = .ok (.iaload, 1) := by decide +kernel
theorem dL_law_654 : decode cL_law 654 = .ok (.invokevirtual 81, 3) := by decide +kernel
theorem dL_law_657 : decode cL_law 657 = .ok (.if_icmp .eq 235, 3) := by decide +kernel
theorem dL_law_660 : decode cL_law 660 = .ok (.iconst 0, 1) := by decide +kernel
theorem dL_law_661 : decode cL_law 661 = .ok (.ireturn, 1) := by decide +kernel
theorem dL_law_662 : decode cL_law 662 = .ok (.aload_n 1, 1) := by decide +kernel
theorem dL_law_663 : decode cL_law 663 = .ok (.aload_n 0, 1) := by decide +kernel
theorem dL_law_664 : decode cL_law 664 = .ok (.iload_n 3, 1) := by decide +kernel
theorem dL_law_665 : decode cL_law 665 = .ok (.iconst 1, 1) := by decide +kernel
theorem dL_law_666 : decode cL_law 666 = .ok (.iadd, 1) := by decide +kernel
theorem dL_law_667 : decode cL_law 667 = .ok (.iaload, 1) := by decide +kernel
theorem dL_law_668 : decode cL_law 668 = .ok (.invokevirtual 82, 3) := by decide +kernel
theorem dL_law_671 : decode cL_law 671 = .ok (.aload_n 2, 1) := by decide +kernel
theorem dL_law_672 : decode cL_law 672 = .ok (.aload_n 0, 1) := by decide +kernel
theorem dL_law_673 : decode cL_law 673 = .ok (.iload_n 3, 1) := by decide +kernel
theorem dL_law_674 : decode cL_law 674 = .ok (.iconst 1, 1) := by decide +kernel
theorem dL_law_675 : decode cL_law 675 = .ok (.iadd, 1) := by decide +kernel
theorem dL_law_676 : decode cL_law 676 = .ok (.iaload, 1) := by decide +kernel
theorem dL_law_677 : decode cL_law 677 = .ok (.invokevirtual 85, 3) := by decide +kernel
theorem dL_law_680 : decode cL_law 680 = .ok (.lcmp, 1) := by decide +kernel
theorem dL_law_681 : decode cL_law 681 = .ok (.ifCond .eq 211, 3) := by decide +kernel
theorem dL_law_684 : decode cL_law 684 = .ok (.iconst 0, 1) := by decide +kernel
theorem dL_law_685 : decode cL_law 685 = .ok (.ireturn, 1) := by decide +kernel
theorem dL_law_686 : decode cL_law 686 = .ok (.aload_n 1, 1) := by decide +kernel
theorem dL_law_687 : decode cL_law 687 = .ok (.aload_n 0, 1) := by decide +kernel
theorem dL_law_688 : decode cL_law 688 = .ok (.iload_n 3, 1) := by decide +kernel
theorem dL_law_689 : decode cL_law 689 = .ok (.iconst 1, 1) := by decide +kernel
theorem dL_law_690 : decode cL_law 690 = .ok (.iadd, 1) := by decide +kernel
theorem dL_law_691 : decode cL_law 691 = .ok (.iaload, 1) := by decide +kernel
theorem dL_law_692 : decode cL_law 692 = .ok (.aload_n 0, 1) := by decide +kernel
theorem dL_law_693 : decode cL_law 693 = .ok (.iload_n 3, 1) := by decide +kernel
theorem dL_law_694 : decode cL_law 694 = .ok (.iconst 2, 1) := by decide +kernel
theorem dL_law_695 : decode cL_law 695 = .ok (.iadd, 1) := by decide +kernel
theorem dL_law_696 : decode cL_law 696 = .ok (.iaload, 1) := by decide +kernel
theorem dL_law_697 : decode cL_law 697 = .ok (.invokevirtual 86, 3) := by decide +kernel
theorem dL_law_700 : decode cL_law 700 = .ok (.aload_n 2, 1) := by decide +kernel
theorem dL_law_701 : decode cL_law 701 = .ok (.aload_n 0, 1) := by decide +kernel
theorem dL_law_702 : decode cL_law 702 = .ok (.iload_n 3, 1) := by decide +kernel
theorem dL_law_703 : decode cL_law 703 = .ok (.iconst 1, 1) := by decide +kernel
theorem dL_law_704 : decode cL_law 704 = .ok (.iadd, 1) := by decide +kernel
theorem dL_law_705 : decode cL_law 705 = .ok (.iaload, 1) := by decide +kernel
theorem dL_law_706 : decode cL_law 706 = .ok (.aload_n 0, 1) := by decide +kernel
theorem dL_law_707 : decode cL_law 707 = .ok (.iload_n 3, 1) := by decide +kernel
theorem dL_law_708 : decode cL_law 708 = .ok (.iconst 2, 1) := by decide +kernel
theorem dL_law_709 : decode cL_law 709 = .ok (.iadd, 1) := by decide +kernel
theorem dL_law_710 : decode cL_law 710 = .ok (.iaload, 1) := by decide +kernel
theorem dL_law_711 : decode cL_law 711 = .ok (.invokevirtual 89, 3) := by decide +kernel
theorem dL_law_714 : decode cL_law 714 = .ok (.lcmp, 1) := by decide +kernel
theorem dL_law_715 : decode cL_law 715 = .ok (.ifCond .eq 177, 3) := by decide +kernel
theorem dL_law_718 : decode cL_law 718 = .ok (.iconst 0, 1) := by decide +kernel
theorem dL_law_719 : decode cL_law 719 = .ok (.ireturn, 1) := by decide +kernel
theorem dL_law_720 : decode cL_law 720 = .ok (.aload_n 1, 1) := by decide +kernel
theorem dL_law_721 : decode cL_law 721 = .ok (.aload_n 0, 1) := by decide +kernel
theorem dL_law_722 : decode cL_law 722 = .ok (.iload_n 3, 1) := by decide +kernel
theorem dL_law_723 : decode cL_law 723 = .ok (.iconst 1, 1) := by decide +kernel
theorem dL_law_724 : decode cL_law 724 = .ok (.iadd, 1) := by decide +kernel
theorem dL_law_725 : decode cL_law 725 = .ok (.iaload, 1) := by decide +kernel
theorem dL_law_726 : decode cL_law 726 = .ok (.aload_n 0, 1) := by decide +kernel
theorem dL_law_727 : decode cL_law 727 = .ok (.iload_n 3, 1) := by decide +kernel
theorem dL_law_728 : decode cL_law 728 = .ok (.iconst 2, 1) := by decide +kernel
theorem dL_law_729 : decode cL_law 729 = .ok (.iadd, 1) := by decide +kernel
theorem dL_law_730 : decode cL_law 730 = .ok (.iaload, 1) := by decide +kernel
theorem dL_law_731 : decode cL_law 731 = .ok (.invokevirtual 90, 3) := by decide +kernel
theorem dL_law_734 : decode cL_law 734 = .ok (.aload_n 2, 1) := by decide +kernel
theorem dL_law_735 : decode cL_law 735 = .ok (.aload_n 0, 1) := by decide +kernel
theorem dL_law_736 : decode cL_law 736 = .ok (.iload_n 3, 1) := by decide +kernel
theorem dL_law_737 : decode cL_law 737 = .ok (.iconst 1, 1) := by decide +kernel
theorem dL_law_738 : decode cL_law 738 = .ok (.iadd, 1) := by decide +kernel
theorem dL_law_739 : decode cL_law 739 = .ok (.iaload, 1) := by decide +kernel
theorem dL_law_740 : decode cL_law 740 = .ok (.aload_n 0, 1) := by decide +kernel
theorem dL_law_741 : decode cL_law 741 = .ok (.iload_n 3, 1) := by decide +kernel
theorem dL_law_742 : decode cL_law 742 = .ok (.iconst 2, 1) := by decide +kernel
theorem dL_law_743 : decode cL_law 743 = .ok (.iadd, 1) := by decide +kernel
theorem dL_law_744 : decode cL_law 744 = .ok (.iaload, 1) := by decide +kernel
theorem dL_law_745 : decode cL_law 745 = .ok (.invokevirtual 93, 3) := by decide +kernel
theorem dL_law_748 : decode cL_law 748 = .ok (.lcmp, 1) := by decide +kernel
theorem dL_law_749 : decode cL_law 749 = .ok (.ifCond .eq 143, 3) := by decide +kernel
theorem dL_law_752 : decode cL_law 752 = .ok (.iconst 0, 1) := by decide +kernel
theorem dL_law_753 : decode cL_law 753 = .ok (.ireturn, 1) := by decide +kernel
theorem dL_law_754 : decode cL_law 754 = .ok (.aload_n 1, 1) := by decide +kernel
theorem dL_law_755 : decode cL_law 755 = .ok (.aload_n 0, 1) := by decide +kernel
theorem dL_law_756 : decode cL_law 756 = .ok (.iload_n 3, 1) := by decide +kernel
theorem dL_law_757 : decode cL_law 757 = .ok (.iconst 1, 1) := by decide +kernel
theorem dL_law_758 : decode cL_law 758 = .ok (.iadd, 1) := by decide +kernel
theorem dL_law_759 : decode cL_law 759 = .ok (.iaload, 1) := by decide +kernel
theorem dL_law_760 : decode cL_law 760 = .ok (.aload_n 0, 1) := by decide +kernel
theorem dL_law_761 : decode cL_law 761 = .ok (.iload_n 3, 1) := by decide +kernel
theorem dL_law_762 : decode cL_law 762 = .ok (.iconst 2, 1) := by decide +kernel
theorem dL_law_763 : decode cL_law 763 = .ok (.iadd, 1) := by decide +kernel
theorem dL_law_764 : decode cL_law 764 = .ok (.iaload, 1) := by decide +kernel
theorem dL_law_765 : decode cL_law 765 = .ok (.ifCond .eq 7, 3) := by decide +kernel
theorem dL_law_768 : decode cL_law 768 = .ok (.iconst 1, 1) := by decide +kernel
theorem dL_law_769 : decode cL_law 769 = .ok (.goto 4, 3) := by decide +kernel
theorem dL_law_772 : decode cL_law 772 = .ok (.iconst 0, 1) := by decide +kernel
theorem dL_law_773 : decode cL_law 773 = .ok (.invokevirtual 94, 3) := by decide +kernel
theorem dL_law_776 : decode cL_law 776 = .ok (.aload_n 2, 1) := by decide +kernel
theorem dL_law_777 : decode cL_law 777 = .ok (.aload_n 0, 1) := by decide +kernel
theorem dL_law_778 : decode cL_law 778 = .ok (.iload_n 3, 1) := by decide +kernel
theorem dL_law_779 : decode cL_law 779 = .ok (.iconst 1, 1) := by decide +kernel
theorem dL_law_780 : decode cL_law 780 = .ok (.iadd, 1) := by decide +kernel
theorem dL_law_781 : decode cL_law 781 = .ok (.iaload, 1) := by decide +kernel
theorem dL_law_782 : decode cL_law 782 = .ok (.aload_n 0, 1) := by decide +kernel
theorem dL_law_783 : decode cL_law 783 = .ok (.iload_n 3, 1) := by decide +kernel
theorem dL_law_784 : decode cL_law 784 = .ok (.iconst 2, 1) := by decide +kernel
theorem dL_law_785 : decode cL_law 785 = .ok (.iadd, 1) := by decide +kernel
theorem dL_law_786 : decode cL_law 786 = .ok (.iaload, 1) := by decide +kernel
theorem dL_law_787 : decode cL_law 787 = .ok (.ifCond .eq 7, 3) := by decide +kernel
theorem dL_law_790 : decode cL_law 790 = .ok (.iconst 1, 1) := by decide +kernel
theorem dL_law_791 : decode cL_law 791 = .ok (.goto 4, 3) := by decide +kernel
theorem dL_law_794 : decode cL_law 794 = .ok (.iconst 0, 1) := by decide +kernel
theorem dL_law_795 : decode cL_law 795 = .ok (.invokevirtual 97, 3) := by decide +kernel
theorem dL_law_798 : decode cL_law 798 = .ok (.if_icmp .eq 94, 3) := by decide +kernel
theorem dL_law_801 : decode cL_law 801 = .ok (.iconst 0, 1) := by decide +kernel
theorem dL_law_802 : decode cL_law 802 = .ok (.ireturn, 1) := by decide +kernel
theorem dL_law_803 : decode cL_law 803 = .ok (.aload_n 1, 1) := by decide +kernel
theorem dL_law_804 : decode cL_law 804 = .ok (.aload_n 0, 1) := by decide +kernel
theorem dL_law_805 : decode cL_law 805 = .ok (.iload_n 3, 1) := by decide +kernel
theorem dL_law_806 : decode cL_law 806 = .ok (.iconst 1, 1) := by decide +kernel
theorem dL_law_807 : decode cL_law 807 = .ok (.iadd, 1) := by decide +kernel
theorem dL_law_808 : decode cL_law 808 = .ok (.iaload, 1) := by decide +kernel
theorem dL_law_809 : decode cL_law 809 = .ok (.aload_n 0, 1) := by decide +kernel
theorem dL_law_810 : decode cL_law 810 = .ok (.iload_n 3, 1) := by decide +kernel
theorem dL_law_811 : decode cL_law 811 = .ok (.iconst 2, 1) := by decide +kernel
theorem dL_law_812 : decode cL_law 812 = .ok (.iadd, 1) := by decide +kernel
theorem dL_law_813 : decode cL_law 813 = .ok (.iaload, 1) := by decide +kernel
theorem dL_law_814 : decode cL_law 814 = .ok (.invokevirtual 98, 3) := by decide +kernel
theorem dL_law_817 : decode cL_law 817 = .ok (.aload_n 2, 1) := by decide +kernel
theorem dL_law_818 : decode cL_law 818 = .ok (.aload_n 0, 1) := by decide +kernel
theorem dL_law_819 : decode cL_law 819 = .ok (.iload_n 3, 1) := by decide +kernel
theorem dL_law_820 : decode cL_law 820 = .ok (.iconst 1, 1) := by decide +kernel
theorem dL_law_821 : decode cL_law 821 = .ok (.iadd, 1) := by decide +kernel
theorem dL_law_822 : decode cL_law 822 = .ok (.iaload, 1) := by decide +kernel
theorem dL_law_823 : decode cL_law 823 = .ok (.aload_n 0, 1) := by decide +kernel
theorem dL_law_824 : decode cL_law 824 = .ok (.iload_n 3, 1) := by decide +kernel
theorem dL_law_825 : decode cL_law 825 = .ok (.iconst 2, 1) := by decide +kernel
theorem dL_law_826 : decode cL_law 826 = .ok (.iadd, 1) := by decide +kernel
theorem dL_law_827 : decode cL_law 827 = .ok (.iaload, 1) := by decide +kernel
theorem dL_law_828 : decode cL_law 828 = .ok (.invokevirtual 101, 3) := by decide +kernel
theorem dL_law_831 : decode cL_law 831 = .ok (.if_icmp .eq 61, 3) := by decide +kernel
theorem dL_law_834 : decode cL_law 834 = .ok (.iconst 0, 1) := by decide +kernel
theorem dL_law_835 : decode cL_law 835 = .ok (.ireturn, 1) := by decide +kernel
theorem dL_law_836 : decode cL_law 836 = .ok (.aload_n 1, 1) := by decide +kernel
theorem dL_law_837 : decode cL_law 837 = .ok (.aload_n 0, 1) := by decide +kernel
theorem dL_law_838 : decode cL_law 838 = .ok (.iload_n 3, 1) := by decide +kernel
theorem dL_law_839 : decode cL_law 839 = .ok (.iconst 1, 1) := by decide +kernel
theorem dL_law_840 : decode cL_law 840 = .ok (.iadd, 1) := by decide +kernel
theorem dL_law_841 : decode cL_law 841 = .ok (.iaload, 1) := by decide +kernel
theorem dL_law_842 : decode cL_law 842 = .ok (.aload_n 0, 1) := by decide +kernel
theorem dL_law_843 : decode cL_law 843 = .ok (.iload_n 3, 1) := by decide +kernel
theorem dL_law_844 : decode cL_law 844 = .ok (.iconst 2, 1) := by decide +kernel
theorem dL_law_845 : decode cL_law 845 = .ok (.iadd, 1) := by decide +kernel
theorem dL_law_846 : decode cL_law 846 = .ok (.iaload, 1) := by decide +kernel
theorem dL_law_847 : decode cL_law 847 = .ok (.invokevirtual 102, 3) := by decide +kernel
theorem dL_law_850 : decode cL_law 850 = .ok (.aload_n 2, 1) := by decide +kernel
theorem dL_law_851 : decode cL_law 851 = .ok (.aload_n 0, 1) := by decide +kernel
theorem dL_law_852 : decode cL_law 852 = .ok (.iload_n 3, 1) := by decide +kernel
theorem dL_law_853 : decode cL_law 853 = .ok (.iconst 1, 1) := by decide +kernel
theorem dL_law_854 : decode cL_law 854 = .ok (.iadd, 1) := by decide +kernel
theorem dL_law_855 : decode cL_law 855 = .ok (.iaload, 1) := by decide +kernel
theorem dL_law_856 : decode cL_law 856 = .ok (.aload_n 0, 1) := by decide +kernel
theorem dL_law_857 : decode cL_law 857 = .ok (.iload_n 3, 1) := by decide +kernel
theorem dL_law_858 : decode cL_law 858 = .ok (.iconst 2, 1) := by decide +kernel
theorem dL_law_859 : decode cL_law 859 = .ok (.iadd, 1) := by decide +kernel
theorem dL_law_860 : decode cL_law 860 = .ok (.iaload, 1) := by decide +kernel
theorem dL_law_861 : decode cL_law 861 = .ok (.invokevirtual 105, 3) := by decide +kernel
theorem dL_law_864 : decode cL_law 864 = .ok (.if_icmp .eq 28, 3) := by decide +kernel
theorem dL_law_867 : decode cL_law 867 = .ok (.iconst 0, 1) := by decide +kernel
theorem dL_law_868 : decode cL_law 868 = .ok (.ireturn, 1) := by decide +kernel
theorem dL_law_869 : decode cL_law 869 = .ok (.aload_n 1, 1) := by decide +kernel
theorem dL_law_870 : decode cL_law 870 = .ok (.aload_n 0, 1) := by decide +kernel
theorem dL_law_871 : decode cL_law 871 = .ok (.iload_n 3, 1) := by decide +kernel
theorem dL_law_872 : decode cL_law 872 = .ok (.iconst 1, 1) := by decide +kernel
theorem dL_law_873 : decode cL_law 873 = .ok (.iadd, 1) := by decide +kernel
theorem dL_law_874 : decode cL_law 874 = .ok (.iaload, 1) := by decide +kernel
theorem dL_law_875 : decode cL_law 875 = .ok (.invokevirtual 106, 3) := by decide +kernel
theorem dL_law_878 : decode cL_law 878 = .ok (.aload_n 2, 1) := by decide +kernel
theorem dL_law_879 : decode cL_law 879 = .ok (.aload_n 0, 1) := by decide +kernel
theorem dL_law_880 : decode cL_law 880 = .ok (.iload_n 3, 1) := by decide +kernel
theorem dL_law_881 : decode cL_law 881 = .ok (.iconst 1, 1) := by decide +kernel
theorem dL_law_882 : decode cL_law 882 = .ok (.iadd, 1) := by decide +kernel
theorem dL_law_883 : decode cL_law 883 = .ok (.iaload, 1) := by decide +kernel
theorem dL_law_884 : decode cL_law 884 = .ok (.invokevirtual 109, 3) := by decide +kernel
theorem dL_law_887 : decode cL_law 887 = .ok (.if_icmp .eq 5, 3) := by decide +kernel
theorem dL_law_890 : decode cL_law 890 = .ok (.iconst 0, 1) := by decide +kernel
theorem dL_law_891 : decode cL_law 891 = .ok (.ireturn, 1) := by decide +kernel
theorem dL_law_892 : decode cL_law 892 = .ok (.iinc 3 5, 3) := by decide +kernel
theorem dL_law_895 : decode cL_law 895 = .ok (.goto (-877), 3) := by decide +kernel
theorem dL_law_898 : decode cL_law 898 = .ok (.iconst 1, 1) := by decide +kernel
theorem dL_law_899 : decode cL_law 899 = .ok (.ireturn, 1) := by decide +kernel
end
section
/-! ===== a world of places: references are places, addresses are a map; one judgement ZG a method ===== -/
abbrev ZE : Type := (Nat × Nat × ((Nat → Int32) ⊕ (Nat → Int64))) ⊕ (Nat × List Value)
abbrev ZW : Type := List ZE
def zv (ad : Nat → Nat) (v : Value) : Value := match v with
  | .ref k => .ref (ad k)
  | v => v
def zr (ad : Nat → Nat) (v : Value) : Option Nat := match v with
  | .ref k => some (ad k)
  | _ => none
def zce (cy : Nat → Nat) (ad : Nat → Nat) (e : ZE) : va_E := match e with
  | .inl (t, n, .inl f) => .inl (cy t, n, .inl f)
  | .inl (t, n, .inr f) => .inl (cy t, n, .inr (.inl f))
  | .inr (ci, fs) => if ci < 100 then .inr (ci, fs.map (zv ad)) else .inl (cy (ci - 97), fs.length, .inr (.inr (.inr (.inr (fun j => (fs[j]?).bind (zr ad))))))
def zcw (cy : Nat → Nat) (ad : Nat → Nat) (w : ZW) : va_W := w.mapIdx (fun k e => (ad k, zce cy ad e))
theorem zcw_at (cy ad : Nat → Nat) (w : ZW) (k : Nat) : (zcw cy ad w)[k]? = (w[k]?).map (fun e => (ad k, zce cy ad e)) := by
  unfold zcw
  rw [List.getElem?_mapIdx]
theorem zcw_get {cy ad : Nat → Nat} {w : ZW} {k : Nat} {e : ZE} (h : w[k]? = some e) : (zcw cy ad w)[k]? = some (ad k, zce cy ad e) := by
  rw [zcw_at, h]; rfl
theorem zcw_len (cy ad : Nat → Nat) (w : ZW) : (zcw cy ad w).length = w.length := by
  unfold zcw
  rw [List.length_mapIdx]
theorem zcw_set (cy ad : Nat → Nat) (w : ZW) (k : Nat) (e : ZE) : (zcw cy ad w).set k (ad k, zce cy ad e) = zcw cy ad (w.set k e) := by
  apply List.ext_getElem?
  intro i
  rw [zcw_at, List.getElem?_set, List.getElem?_set, zcw_len, zcw_at]
  by_cases h : k = i
  · subst h
    by_cases hl : k < w.length
    · simp [hl]
    · simp [hl]
  · simp [h]
theorem zv_cat (ad : Nat → Nat) (v : Value) : (zv ad v).category = v.category := by cases v <;> rfl
theorem zv_zv (ad g : Nat → Nat) (v : Value) : zv ad (zv g v) = zv (fun k => ad (g k)) v := by cases v <;> rfl
theorem zr_zv (ad g : Nat → Nat) (v : Value) : zr ad (zv g v) = zr (fun k => ad (g k)) v := by cases v <;> rfl
/-! locals by their places -/
def zlv (ad : Nat → Nat) (ls : List (Option Value)) : List (Nat × Value) := ls.zipIdx.filterMap (fun q => q.1.map (fun v => (q.2, zv ad v)))
theorem zlv_mem {ad : Nat → Nat} {ls : List (Option Value)} {q : Nat × Value} : q ∈ zlv ad ls ↔ ∃ v, ls[q.1]? = some (some v) ∧ q.2 = zv ad v := by
  unfold zlv
  rw [List.mem_filterMap]
  constructor
  · rintro ⟨⟨o, i⟩, h1, h2⟩
    have h3 := List.mem_zipIdx_iff_getElem?.mp h1
    cases o with
    | none => cases h2
    | some v =>
      cases h2
      exact ⟨v, h3, rfl⟩
  · rintro ⟨v, h1, h2⟩
    refine ⟨(some v, q.1), List.mem_zipIdx_iff_getElem?.mpr h1, ?_⟩
    show some (q.1, zv ad v) = some q
    rw [← h2]
def ZL (ad : Nat → Nat) (nL : Nat) (ls : List (Option Value)) (lsA : Array Slot) : Prop := ls.length = nL ∧ lv_has lsA nL (zlv ad ls)
theorem ZL.at {ad : Nat → Nat} {nL : Nat} {ls : List (Option Value)} {lsA : Array Slot} (h : ZL ad nL ls lsA) {i : Nat} {v : Value} (hi : ls[i]? = some (some v)) : lsA[i]? = some (.val (zv ad v)) := h.2.2.2 (i, zv ad v) (zlv_mem.mpr ⟨v, hi, rfl⟩)
theorem ZL.lt {ad : Nat → Nat} {nL : Nat} {ls : List (Option Value)} {lsA : Array Slot} (h : ZL ad nL ls lsA) {i : Nat} {x : Option Value} (hi : ls[i]? = some x) : i < nL := by
  rw [← h.1]
  exact (List.getElem?_eq_some_iff.mp hi).1
/-- a long in the slot before is broken by a store -/
def zpr (ls : List (Option Value)) (i : Nat) : List (Option Value) := match i with
  | 0 => ls
  | j + 1 => match ls[j]? with
    | some (some v) => if v.category = 2 then ls.set j none else ls
    | _ => ls
theorem zpr_len (ls : List (Option Value)) (i : Nat) : (zpr ls i).length = ls.length := by
  unfold zpr
  split
  · rfl
  · split
    · split
      · simp
      · rfl
    · rfl
theorem zpr_at {ls : List (Option Value)} {i j : Nat} {v : Value} (h : (zpr ls i)[j]? = some (some v)) : ls[j]? = some (some v) ∧ ¬ (j + 1 = i ∧ v.category = 2) := by
  unfold zpr at h
  split at h
  · exact ⟨h, fun q => by omega⟩
  · rename_i k
    split at h
    · rename_i u hu
      split at h
      · rename_i hc
        by_cases hkj : k = j
        · subst hkj
          have hl := (List.getElem?_eq_some_iff.mp hu).1
          rw [List.getElem?_set_self hl] at h
          cases h
        · rw [List.getElem?_set_ne hkj] at h
          exact ⟨h, fun q => hkj (by omega)⟩
      · rename_i hc
        refine ⟨h, fun q => ?_⟩
        have : k = j := by omega
        subst this
        rw [hu] at h
        cases h
        exact hc q.2
    · rename_i hn
      refine ⟨h, fun q => ?_⟩
      have : k = j := by omega
      subst this
      exact hn v h
def zst1 (ls : List (Option Value)) (i : Nat) (v : Value) : List (Option Value) := (zpr ls i).set i (some v)
def zst2 (ls : List (Option Value)) (i : Nat) (v : Value) : List (Option Value) := ((zpr ls i).set i (some v)).set (i + 1) none
theorem ZL.st1 {ad : Nat → Nat} {nL : Nat} {ls : List (Option Value)} {ls' : Array Slot} {i : Nat} {v x : Value} (hx : x = zv ad v) (h0 : ls.length = nL) (hi : i < nL) (h : lv_has ls' nL ((i, x) :: (zlv ad ls).filter (fun q => !(q.1 == i) && !(q.1 + 1 == i && q.2.category == 2)))) : ZL ad nL (zst1 ls i v) ls' := by
  subst hx
  refine ⟨by unfold zst1; rw [List.length_set, zpr_len]; exact h0, h.1, h.2.1, fun q hq => h.2.2 q ?_⟩
  obtain ⟨u, h1, h2⟩ := zlv_mem.mp hq
  obtain ⟨j, y⟩ := q
  dsimp only at h1 h2
  subst h2
  unfold zst1 at h1
  by_cases hj : i = j
  · subst hj
    rw [List.getElem?_set_self (by rw [zpr_len]; omega)] at h1
    cases h1
    exact List.mem_cons_self
  · rw [List.getElem?_set_ne hj] at h1
    obtain ⟨h3, h4⟩ := zpr_at h1
    refine List.mem_cons_of_mem _ (List.mem_filter.mpr ⟨zlv_mem.mpr ⟨u, h3, rfl⟩, ?_⟩)
    rw [zv_cat]
    have h5 : ¬ j = i := fun e => hj e.symm
    simp [h5]
    omega
theorem ZL.st2 {ad : Nat → Nat} {nL : Nat} {ls : List (Option Value)} {ls' : Array Slot} {i : Nat} {v x : Value} (hx : x = zv ad v) (h0 : ls.length = nL) (hi : i + 1 < nL) (h : lv_has ls' nL ((i, x) :: (zlv ad ls).filter (fun q => !(q.1 == i) && (!(q.1 == i + 1) && !(q.1 + 1 == i && q.2.category == 2))))) : ZL ad nL (zst2 ls i v) ls' := by
  subst hx
  refine ⟨by unfold zst2; rw [List.length_set, List.length_set, zpr_len]; exact h0, h.1, h.2.1, fun q hq => h.2.2 q ?_⟩
  obtain ⟨u, h1, h2⟩ := zlv_mem.mp hq
  obtain ⟨j, y⟩ := q
  dsimp only at h1 h2
  subst h2
  unfold zst2 at h1
  by_cases hk : i + 1 = j
  · subst hk
    rw [List.getElem?_set_self (by rw [List.length_set, zpr_len]; omega)] at h1
    cases h1
  · rw [List.getElem?_set_ne hk] at h1
    by_cases hj : i = j
    · subst hj
      rw [List.getElem?_set_self (by rw [zpr_len]; omega)] at h1
      cases h1
      exact List.mem_cons_self
    · rw [List.getElem?_set_ne hj] at h1
      obtain ⟨h3, h4⟩ := zpr_at h1
      refine List.mem_cons_of_mem _ (List.mem_filter.mpr ⟨zlv_mem.mpr ⟨u, h3, rfl⟩, ?_⟩)
      rw [zv_cat]
      have h5 : ¬ j = i := fun e => hj e.symm
      have h8 : ¬ j = i + 1 := fun e => hk e.symm
      simp [h5, h8]
      omega
/-- fewer known locals -/
def zle : List (Option Value) → List (Option Value) → Prop
  | [], [] => True
  | none :: a, _ :: b => zle a b
  | some v :: a, x :: b => x = some v ∧ zle a b
  | _, _ => False
theorem zle_len : ∀ {a b : List (Option Value)}, zle a b → a.length = b.length
  | [], [], _ => rfl
  | none :: a, _ :: b, h => by rw [List.length_cons, List.length_cons, zle_len (a := a) (b := b) h]
  | some v :: a, x :: b, h => by rw [List.length_cons, List.length_cons, zle_len (a := a) (b := b) h.2]
theorem zle_at : ∀ {a b : List (Option Value)}, zle a b → ∀ {i : Nat} {v : Value}, a[i]? = some (some v) → b[i]? = some (some v)
  | [], [], _, i, v, h => by simp at h
  | none :: a, x :: b, h, i, v, h1 => by
    cases i with
    | zero => simp at h1
    | succ i => exact zle_at (a := a) (b := b) h (i := i) h1
  | some u :: a, x :: b, h, i, v, h1 => by
    cases i with
    | zero =>
      rw [h.1]
      exact h1
    | succ i => exact zle_at (a := a) (b := b) h.2 (i := i) h1
theorem ZL.le {ad : Nat → Nat} {nL : Nat} {ls ls' : List (Option Value)} {lsA : Array Slot} (hle : zle ls' ls) (h : ZL ad nL ls lsA) : ZL ad nL ls' lsA := by
  refine ⟨(zle_len hle).trans h.1, h.2.1, h.2.2.1, fun q hq => ?_⟩
  obtain ⟨v, h1, h2⟩ := zlv_mem.mp hq
  exact h.2.2.2 q (zlv_mem.mpr ⟨v, zle_at hle h1, h2⟩)
/-! the locals at a method's entry -/
def zen : List Value → List (Option Value)
  | [] => []
  | v :: r => if v.category = 2 then some v :: none :: zen r else some v :: zen r
def zent (nL : Nat) (av : List Value) : List (Option Value) := zen av ++ List.replicate (nL - (zen av).length) none
theorem zen_len (ad : Nat → Nat) : ∀ av : List Value, (zen av).length = (lg_sl (av.map (zv ad))).length
  | [] => rfl
  | v :: r => by
    have ih := zen_len ad r
    have e : (lg_sl ((v :: r).map (zv ad))).length = (if v.category = 2 then 2 else 1) + (lg_sl (r.map (zv ad))).length := by
      unfold lg_sl
      rw [List.map_cons, List.flatMap_cons, List.length_append, zv_cat]
      split <;> rfl
    rw [e, ← ih]
    simp only [zen]
    split
    · simp only [List.length_cons]
      omega
    · simp only [List.length_cons]
      omega
theorem zen_args (ad : Nat → Nat) : ∀ (av : List Value) (n i : Nat) (v : Value), (zen av)[i]? = some (some v) → (n + i, zv ad v) ∈ lv_args n (av.map (zv ad))
  | [], n, i, v, h => by simp [zen] at h
  | u :: r, n, i, v, h => by
    rw [List.map_cons]
    unfold lv_args
    rw [zv_cat]
    unfold zen at h
    split at h
    · rename_i hc
      rw [if_pos hc]
      match i, h with
      | 0, h => cases h; exact List.mem_cons_self
      | 1, h => cases h
      | i + 2, h =>
        refine List.mem_cons_of_mem _ ?_
        have := zen_args ad r (n + 2) i v h
        rw [show n + (i + 2) = n + 2 + i by omega]
        exact this
    · rename_i hc
      rw [if_neg hc]
      match i, h with
      | 0, h => cases h; exact List.mem_cons_self
      | i + 1, h =>
        refine List.mem_cons_of_mem _ ?_
        have := zen_args ad r (n + 1) i v h
        rw [show n + (i + 1) = n + 1 + i by omega]
        exact this
theorem zent_ok (ad : Nat → Nat) (av : List Value) (nL : Nat) (h : (zen av).length ≤ nL) : ZL ad nL (zent nL av) ((lg_sl (av.map (zv ad)) ++ List.replicate (nL - (lg_sl (av.map (zv ad))).length) Slot.unset).toArray) := by
  have hl := lv_entry (av.map (zv ad)) (n := nL) (by rw [← zen_len]; exact h)
  refine ⟨by unfold zent; rw [List.length_append, List.length_replicate]; omega, hl.1, hl.2.1, fun q hq => hl.2.2 q ?_⟩
  obtain ⟨v, h1, h2⟩ := zlv_mem.mp hq
  obtain ⟨j, y⟩ := q
  dsimp only at h1 h2
  subst h2
  unfold zent at h1
  by_cases hj : j < (zen av).length
  · rw [List.getElem?_append_left hj] at h1
    have := zen_args ad av 0 j v h1
    rw [Nat.zero_add] at this
    exact this
  · rw [List.getElem?_append_right (by omega), List.getElem?_replicate] at h1
    split at h1 <;> cases h1
end
section
/-! ===== the judgement ===== -/
def zcn : Nat → String
  | 0 => RX0
  | 1 => RX1
  | 2 => RX2
  | 3 => RX3
  | 4 => RX4
  | 5 => RX5
  | 6 => RX6
  | 7 => RJ9
  | _ => RJ7
def zwd : List Cond := lw_tbl.filter goodWord
def ztys (cy : Nat → Nat) : List (ClassId × FieldType) := [(cy 0, .int), (cy 1, .long), (cy 2, .boolean), (cy 3, .object "WindBoxes$Sheet"), (cy 4, .object "WindBoxes$Stuff"), (cy 5, .object "WindBoxes$Log"), (cy 6, .array .long)]
def zFROM : List Nat := [9, 0, 1, 2, 9, 3, 4, 5, 9, 6, 7, 8, 9, 9, 9, 0, 1, 2, 3, 4, 5, 6, 7, 8]
def zTO : List Nat := [0, 1, 2, 9, 3, 4, 5, 9, 6, 7, 8, 9, 0, 1, 2, 3, 4, 5, 6, 7, 8, 9, 9, 9]
def zFALL : List Nat := [67, 22, 7, 22, 14, 6, 7, 6, 3, 22, 74, 22, 14, 28, 14, 6, 10, 6, 7, 22, 67, 6, 14, 22, 3, 6, 7, 22, 14, 6, 74, 28, 10, 22, 14, 6, 14, 28, 14, 28, 84, 28, 14, 28, 14, 6, 14, 22, 10, 28, 74, 6, 14, 22, 7, 6, 3, 22, 14, 6, 67, 22, 7, 6, 10, 6, 14, 28, 14, 22, 74, 22, 3, 6, 7, 6, 14, 22, 7, 22, 67]
/-- a static row of ints: what the field holds, and what that row holds -/
def zst (nm : String) (xs : List Nat) (k : Nat) (ad : Nat → Nat) (A : Nat → Prop) (U : State) (H : Heap) : Prop := va_Z "WindBoxes" nm "[I" (.ref (ad k)) A U H ∧ va_T .int (ad k) xs.length (fun j => .int (nI (xs.getD j 0))) A U H
/-- the words on a nest mate's private fields -/
def znw (U : State) : Prop := va_Nw (.fieldLinkNest RX0 34 "WindBoxes" "FALL" "[I" "WindBoxes") U ∧ va_Nw (.fieldLinkNest RX0 43 "WindBoxes" "FROM" "[I" "WindBoxes") U ∧ va_Nw (.fieldLinkNest RX0 46 "WindBoxes" "TO" "[I" "WindBoxes") U ∧ va_Nw (.fieldLinkNest RX4 44 "WindBoxes" "FROM" "[I" "WindBoxes") U ∧ va_Nw (.fieldLinkNest RX4 47 "WindBoxes" "TO" "[I" "WindBoxes") U
def ZS (ad : Nat → Nat) (A : Nat → Prop) (U : State) (H : Heap) : Prop := zst "FROM" zFROM 1000 ad A U H ∧ zst "TO" zTO 1001 ad A U H ∧ zst "FALL" zFALL 1002 ad A U H ∧ znw U
def ZInj (ad : Nat → Nat) (n : Nat) : Prop := ∀ i j, i < n → j < n → ad i = ad j → i = j
theorem ZInj.D {ad : Nat → Nat} {A : Nat → Prop} {n : Nat} {cy : Nat → Nat} {w : ZW} (h : ZInj ad n) (hA : ∀ i, i < n → A (ad i)) (hw : w.length = n) : va_D A (zcw cy ad w) := by
  have key : ∀ (k : Nat) (q : Nat × va_E), (zcw cy ad w)[k]? = some q → k < n ∧ q.1 = ad k := by
    intro k q hq
    have hl := (List.getElem?_eq_some_iff.mp hq).1
    rw [zcw_len] at hl
    rw [zcw_at] at hq
    obtain ⟨e, -, h2⟩ := Option.map_eq_some_iff.mp hq
    exact ⟨by omega, by rw [← h2]⟩
  refine ⟨fun i j p q hi hj hpq => ?_, fun k q hq => ?_⟩
  · obtain ⟨h1, h2⟩ := key i p hi
    obtain ⟨h3, h4⟩ := key j q hj
    exact h i j h1 h3 (by rw [← h2, ← h4]; exact hpq)
  · obtain ⟨h1, h2⟩ := key k q hq
    rw [h2]
    exact hA k h1
abbrev ZX : Type := Program × Launch × Env × Room × State × MethodId × Array Value × List Frame × Method × Code × va_G × (Nat → Nat) × (Nat → Nat) × (Nat → Prop) × Nat × Nat × Nat × (State → Prop)
def ZG (X : ZX) (pc : Nat) (ls : List (Option Value)) (st : List Value) (w : ZW) : Prop := match X with
  | (p, l, e, R, s, m, args, below, meth, c, D, cy, ad, A, n, cells, slots, Q) => ∀ (H : Heap) (locs : List Loc) (lsA : Array Slot), w.length = n → va_P D vwCl (zcw cy ad w) H → va_S A s.heap H locs → ZL ad c.maxLocals ls lsA → W p l e R s m args below meth c H locs cells slots Q (F0 m pc lsA (st.map (zv ad)))
def ZOK (X : ZX) (oc : Nat) (B : ByteArray) (d : Nat) : Prop := match X with
  | (p, l, e, R, s, m, args, below, meth, c, D, cy, ad, A, n, cells, slots, Q) => p.tables.exec = Jvm.exec ∧ c.code = B ∧ s.vm.findClass (zcn oc) = some m.cls ∧ (∀ w ∈ zwd, w.before args s = true) ∧ va_K D vwCl (ztys cy) s ∧ ZInj ad n ∧ (∀ i, i < n → A (ad i)) ∧ ZS ad A s s.heap ∧ (d ≤ R.frames ∧ 40 * d ≤ R.locals) ∧ (cells ≤ R.cells ∧ slots ≤ R.slots) ∧ (∀ q, s.heap.size ≤ q → A q)
theorem ZOK.ex {p : Program} {l : Launch} {e : Env} {R : Room} {s : State} {m : MethodId} {args : Array Value} {below : List Frame} {meth : Method} {c : Code} {D : va_G} {cy ad : Nat → Nat} {A : Nat → Prop} {n cells slots : Nat} {Q : State → Prop} {oc : Nat} {B : ByteArray} {d : Nat} (h : ZOK (p, l, e, R, s, m, args, below, meth, c, D, cy, ad, A, n, cells, slots, Q) oc B d) : p.tables.exec = Jvm.exec := h.1
theorem ZOK.by {p : Program} {l : Launch} {e : Env} {R : Room} {s : State} {m : MethodId} {args : Array Value} {below : List Frame} {meth : Method} {c : Code} {D : va_G} {cy ad : Nat → Nat} {A : Nat → Prop} {n cells slots : Nat} {Q : State → Prop} {oc : Nat} {B : ByteArray} {d : Nat} (h : ZOK (p, l, e, R, s, m, args, below, meth, c, D, cy, ad, A, n, cells, slots, Q) oc B d) : c.code = B := h.2.1
theorem zlg_c (x y : Int64) : (y < x ∧ lg_cmp x y = 1) ∨ (x = y ∧ lg_cmp x y = 0) ∨ (x < y ∧ lg_cmp x y = -1) := by
  unfold lg_cmp
  by_cases h : x > y
  · exact Or.inl ⟨h, if_pos h⟩
  · by_cases h2 : x = y
    · exact Or.inr (Or.inl ⟨h2, by rw [if_neg h, if_pos h2]⟩)
    · refine Or.inr (Or.inr ⟨?_, by rw [if_neg h, if_neg h2]⟩)
      have h3 : ¬ y < x := h
      rw [Int64.lt_iff_toInt_lt] at h3 ⊢
      have h4 : ¬ x.toInt = y.toInt := fun q => h2 (Int64.toInt_inj.mp q)
      omega
theorem zlg_eq (x y : Int64) (h : (lg_cmp x y) = 0) : x = y := by
  rcases zlg_c x y with ⟨h1, h2⟩ | ⟨h1, h2⟩ | ⟨h1, h2⟩ <;> rw [h2] at h <;> first | exact h1 | exact absurd h (by decide) | exact absurd rfl h | (rw [h1]; exact Int64.le_refl _) | exact Int64.le_of_lt h1 | exact Int64.ne_of_lt h1 | exact (fun q => Int64.ne_of_lt h1 q.symm) | exact fun q => absurd h1 (by rw [q]; exact Int64.lt_irrefl) | (subst h1; exact Int64.le_refl _)
theorem zlg_neq (x y : Int64) (h : ¬ (lg_cmp x y) = 0) : ¬ x = y := by
  rcases zlg_c x y with ⟨h1, h2⟩ | ⟨h1, h2⟩ | ⟨h1, h2⟩ <;> rw [h2] at h <;> first | exact h1 | exact absurd h (by decide) | exact absurd rfl h | (rw [h1]; exact Int64.le_refl _) | exact Int64.le_of_lt h1 | exact Int64.ne_of_lt h1 | exact (fun q => Int64.ne_of_lt h1 q.symm) | exact fun q => absurd h1 (by rw [q]; exact Int64.lt_irrefl) | (subst h1; exact Int64.le_refl _)
theorem zlg_ne (x y : Int64) (h : ¬ (lg_cmp x y) = 0) : ¬ x = y := by
  rcases zlg_c x y with ⟨h1, h2⟩ | ⟨h1, h2⟩ | ⟨h1, h2⟩ <;> rw [h2] at h <;> first | exact h1 | exact absurd h (by decide) | exact absurd rfl h | (rw [h1]; exact Int64.le_refl _) | exact Int64.le_of_lt h1 | exact Int64.ne_of_lt h1 | exact (fun q => Int64.ne_of_lt h1 q.symm) | exact fun q => absurd h1 (by rw [q]; exact Int64.lt_irrefl) | (subst h1; exact Int64.le_refl _)
theorem zlg_nne (x y : Int64) (h : (lg_cmp x y) = 0) : x = y := by
  rcases zlg_c x y with ⟨h1, h2⟩ | ⟨h1, h2⟩ | ⟨h1, h2⟩ <;> rw [h2] at h <;> first | exact h1 | exact absurd h (by decide) | exact absurd rfl h | (rw [h1]; exact Int64.le_refl _) | exact Int64.le_of_lt h1 | exact Int64.ne_of_lt h1 | exact (fun q => Int64.ne_of_lt h1 q.symm) | exact fun q => absurd h1 (by rw [q]; exact Int64.lt_irrefl) | (subst h1; exact Int64.le_refl _)
theorem zlg_lt (x y : Int64) (h : (lg_cmp x y) < 0) : x < y := by
  rcases zlg_c x y with ⟨h1, h2⟩ | ⟨h1, h2⟩ | ⟨h1, h2⟩ <;> rw [h2] at h <;> first | exact h1 | exact absurd h (by decide) | exact absurd rfl h | (rw [h1]; exact Int64.le_refl _) | exact Int64.le_of_lt h1 | exact Int64.ne_of_lt h1 | exact (fun q => Int64.ne_of_lt h1 q.symm) | exact fun q => absurd h1 (by rw [q]; exact Int64.lt_irrefl) | (subst h1; exact Int64.le_refl _)
theorem zlg_nlt (x y : Int64) (h : ¬ (lg_cmp x y) < 0) : y ≤ x := by
  rcases zlg_c x y with ⟨h1, h2⟩ | ⟨h1, h2⟩ | ⟨h1, h2⟩ <;> rw [h2] at h <;> first | exact h1 | exact absurd h (by decide) | exact absurd rfl h | (rw [h1]; exact Int64.le_refl _) | exact Int64.le_of_lt h1 | exact Int64.ne_of_lt h1 | exact (fun q => Int64.ne_of_lt h1 q.symm) | exact fun q => absurd h1 (by rw [q]; exact Int64.lt_irrefl) | (subst h1; exact Int64.le_refl _)
theorem zlg_ge (x y : Int64) (h : 0 ≤ (lg_cmp x y)) : y ≤ x := by
  rcases zlg_c x y with ⟨h1, h2⟩ | ⟨h1, h2⟩ | ⟨h1, h2⟩ <;> rw [h2] at h <;> first | exact h1 | exact absurd h (by decide) | exact absurd rfl h | (rw [h1]; exact Int64.le_refl _) | exact Int64.le_of_lt h1 | exact Int64.ne_of_lt h1 | exact (fun q => Int64.ne_of_lt h1 q.symm) | exact fun q => absurd h1 (by rw [q]; exact Int64.lt_irrefl) | (subst h1; exact Int64.le_refl _)
theorem zlg_nge (x y : Int64) (h : ¬ 0 ≤ (lg_cmp x y)) : x < y := by
  rcases zlg_c x y with ⟨h1, h2⟩ | ⟨h1, h2⟩ | ⟨h1, h2⟩ <;> rw [h2] at h <;> first | exact h1 | exact absurd h (by decide) | exact absurd rfl h | (rw [h1]; exact Int64.le_refl _) | exact Int64.le_of_lt h1 | exact Int64.ne_of_lt h1 | exact (fun q => Int64.ne_of_lt h1 q.symm) | exact fun q => absurd h1 (by rw [q]; exact Int64.lt_irrefl) | (subst h1; exact Int64.le_refl _)
theorem zlg_gt (x y : Int64) (h : 0 < (lg_cmp x y)) : y < x := by
  rcases zlg_c x y with ⟨h1, h2⟩ | ⟨h1, h2⟩ | ⟨h1, h2⟩ <;> rw [h2] at h <;> first | exact h1 | exact absurd h (by decide) | exact absurd rfl h | (rw [h1]; exact Int64.le_refl _) | exact Int64.le_of_lt h1 | exact Int64.ne_of_lt h1 | exact (fun q => Int64.ne_of_lt h1 q.symm) | exact fun q => absurd h1 (by rw [q]; exact Int64.lt_irrefl) | (subst h1; exact Int64.le_refl _)
theorem zlg_ngt (x y : Int64) (h : ¬ 0 < (lg_cmp x y)) : x ≤ y := by
  rcases zlg_c x y with ⟨h1, h2⟩ | ⟨h1, h2⟩ | ⟨h1, h2⟩ <;> rw [h2] at h <;> first | exact h1 | exact absurd h (by decide) | exact absurd rfl h | (rw [h1]; exact Int64.le_refl _) | exact Int64.le_of_lt h1 | exact Int64.ne_of_lt h1 | exact (fun q => Int64.ne_of_lt h1 q.symm) | exact fun q => absurd h1 (by rw [q]; exact Int64.lt_irrefl) | (subst h1; exact Int64.le_refl _)
theorem zlg_le (x y : Int64) (h : (lg_cmp x y) ≤ 0) : x ≤ y := by
  rcases zlg_c x y with ⟨h1, h2⟩ | ⟨h1, h2⟩ | ⟨h1, h2⟩ <;> rw [h2] at h <;> first | exact h1 | exact absurd h (by decide) | exact absurd rfl h | (rw [h1]; exact Int64.le_refl _) | exact Int64.le_of_lt h1 | exact Int64.ne_of_lt h1 | exact (fun q => Int64.ne_of_lt h1 q.symm) | exact fun q => absurd h1 (by rw [q]; exact Int64.lt_irrefl) | (subst h1; exact Int64.le_refl _)
theorem zlg_nle (x y : Int64) (h : ¬ (lg_cmp x y) ≤ 0) : y < x := by
  rcases zlg_c x y with ⟨h1, h2⟩ | ⟨h1, h2⟩ | ⟨h1, h2⟩ <;> rw [h2] at h <;> first | exact h1 | exact absurd h (by decide) | exact absurd rfl h | (rw [h1]; exact Int64.le_refl _) | exact Int64.le_of_lt h1 | exact Int64.ne_of_lt h1 | exact (fun q => Int64.ne_of_lt h1 q.symm) | exact fun q => absurd h1 (by rw [q]; exact Int64.lt_irrefl) | (subst h1; exact Int64.le_refl _)
section ZR
variable {X : ZX} {oc d pc : Nat} {B : ByteArray} {ls : List (Option Value)} {st : List Value} {w : ZW}
theorem z_forget {ls' : List (Option Value)} (hle : zle ls' ls) (k : ZG X pc ls' st w) : ZG X pc ls st w := by
  obtain ⟨p, l, e, R, s, m, args, below, meth, c, D, cy, ad, A, n, cells, slots, Q⟩ := X
  intro H locs lsA h1 h2 h3 h4
  exact k H locs lsA h1 h2 h3 (h4.le hle)
theorem z_iadd {x y : Int32} (hX : ZOK X oc B d) (hd : decode B pc = .ok (.iadd, 1)) (k : ZG X (pc + 1) ls (.int (x + y) :: st) w) : ZG X pc ls (.int y :: .int x :: st) w := by
  obtain ⟨p, l, e, R, s, m, args, below, meth, c, D, cy, ad, A, n, cells, slots, Q⟩ := X
  intro H locs lsA h1 h2 h3 h4
  exact lv_iadd hX.ex hX.by hd (k H locs lsA h1 h2 h3 h4)
theorem z_isub {x y : Int32} (hX : ZOK X oc B d) (hd : decode B pc = .ok (.isub, 1)) (k : ZG X (pc + 1) ls (.int (x - y) :: st) w) : ZG X pc ls (.int y :: .int x :: st) w := by
  obtain ⟨p, l, e, R, s, m, args, below, meth, c, D, cy, ad, A, n, cells, slots, Q⟩ := X
  intro H locs lsA h1 h2 h3 h4
  exact lv_isub hX.ex hX.by hd (k H locs lsA h1 h2 h3 h4)
theorem z_imul {x y : Int32} (hX : ZOK X oc B d) (hd : decode B pc = .ok (.imul, 1)) (k : ZG X (pc + 1) ls (.int (x * y) :: st) w) : ZG X pc ls (.int y :: .int x :: st) w := by
  obtain ⟨p, l, e, R, s, m, args, below, meth, c, D, cy, ad, A, n, cells, slots, Q⟩ := X
  intro H locs lsA h1 h2 h3 h4
  exact lv_imul hX.ex hX.by hd (k H locs lsA h1 h2 h3 h4)
theorem z_iand {x y : Int32} (hX : ZOK X oc B d) (hd : decode B pc = .ok (.iand, 1)) (k : ZG X (pc + 1) ls (.int (x &&& y) :: st) w) : ZG X pc ls (.int y :: .int x :: st) w := by
  obtain ⟨p, l, e, R, s, m, args, below, meth, c, D, cy, ad, A, n, cells, slots, Q⟩ := X
  intro H locs lsA h1 h2 h3 h4
  exact lv_iand hX.ex hX.by hd (k H locs lsA h1 h2 h3 h4)
theorem z_ior {x y : Int32} (hX : ZOK X oc B d) (hd : decode B pc = .ok (.ior, 1)) (k : ZG X (pc + 1) ls (.int (x ||| y) :: st) w) : ZG X pc ls (.int y :: .int x :: st) w := by
  obtain ⟨p, l, e, R, s, m, args, below, meth, c, D, cy, ad, A, n, cells, slots, Q⟩ := X
  intro H locs lsA h1 h2 h3 h4
  exact lv_ior hX.ex hX.by hd (k H locs lsA h1 h2 h3 h4)
theorem z_ixor {x y : Int32} (hX : ZOK X oc B d) (hd : decode B pc = .ok (.ixor, 1)) (k : ZG X (pc + 1) ls (.int (x ^^^ y) :: st) w) : ZG X pc ls (.int y :: .int x :: st) w := by
  obtain ⟨p, l, e, R, s, m, args, below, meth, c, D, cy, ad, A, n, cells, slots, Q⟩ := X
  intro H locs lsA h1 h2 h3 h4
  exact lv_ixor hX.ex hX.by hd (k H locs lsA h1 h2 h3 h4)
theorem z_ladd {x y : Int64} (hX : ZOK X oc B d) (hd : decode B pc = .ok (.ladd, 1)) (k : ZG X (pc + 1) ls (.long (x + y) :: st) w) : ZG X pc ls (.long y :: .long x :: st) w := by
  obtain ⟨p, l, e, R, s, m, args, below, meth, c, D, cy, ad, A, n, cells, slots, Q⟩ := X
  intro H locs lsA h1 h2 h3 h4
  exact lv_ladd hX.ex hX.by hd (k H locs lsA h1 h2 h3 h4)
theorem z_lsub {x y : Int64} (hX : ZOK X oc B d) (hd : decode B pc = .ok (.lsub, 1)) (k : ZG X (pc + 1) ls (.long (x - y) :: st) w) : ZG X pc ls (.long y :: .long x :: st) w := by
  obtain ⟨p, l, e, R, s, m, args, below, meth, c, D, cy, ad, A, n, cells, slots, Q⟩ := X
  intro H locs lsA h1 h2 h3 h4
  exact lv_lsub hX.ex hX.by hd (k H locs lsA h1 h2 h3 h4)
theorem z_lmul {x y : Int64} (hX : ZOK X oc B d) (hd : decode B pc = .ok (.lmul, 1)) (k : ZG X (pc + 1) ls (.long (x * y) :: st) w) : ZG X pc ls (.long y :: .long x :: st) w := by
  obtain ⟨p, l, e, R, s, m, args, below, meth, c, D, cy, ad, A, n, cells, slots, Q⟩ := X
  intro H locs lsA h1 h2 h3 h4
  exact lv_lmul hX.ex hX.by hd (k H locs lsA h1 h2 h3 h4)
theorem z_idiv {x y : Int32} (hX : ZOK X oc B d) (hd : decode B pc = .ok (.idiv, 1)) (hne : ¬ y = 0) (k : ZG X (pc + 1) ls (.int (x / y) :: st) w) : ZG X pc ls (.int y :: .int x :: st) w := by
  obtain ⟨p, l, e, R, s, m, args, below, meth, c, D, cy, ad, A, n, cells, slots, Q⟩ := X
  intro H locs lsA h1 h2 h3 h4
  exact lv_idiv hX.ex hX.by hd hne (k H locs lsA h1 h2 h3 h4)
theorem z_irem {x y : Int32} (hX : ZOK X oc B d) (hd : decode B pc = .ok (.irem, 1)) (hne : ¬ y = 0) (k : ZG X (pc + 1) ls (.int (x - x / y * y) :: st) w) : ZG X pc ls (.int y :: .int x :: st) w := by
  obtain ⟨p, l, e, R, s, m, args, below, meth, c, D, cy, ad, A, n, cells, slots, Q⟩ := X
  intro H locs lsA h1 h2 h3 h4
  exact lv_irem hX.ex hX.by hd hne (k H locs lsA h1 h2 h3 h4)
theorem z_ldiv {x y : Int64} (hX : ZOK X oc B d) (hd : decode B pc = .ok (.ldiv, 1)) (hne : ¬ y = 0) (k : ZG X (pc + 1) ls (.long (x / y) :: st) w) : ZG X pc ls (.long y :: .long x :: st) w := by
  obtain ⟨p, l, e, R, s, m, args, below, meth, c, D, cy, ad, A, n, cells, slots, Q⟩ := X
  intro H locs lsA h1 h2 h3 h4
  exact lv_ldiv hX.ex hX.by hd hne (k H locs lsA h1 h2 h3 h4)
theorem z_lrem {x y : Int64} (hX : ZOK X oc B d) (hd : decode B pc = .ok (.lrem, 1)) (hne : ¬ y = 0) (k : ZG X (pc + 1) ls (.long (x - x / y * y) :: st) w) : ZG X pc ls (.long y :: .long x :: st) w := by
  obtain ⟨p, l, e, R, s, m, args, below, meth, c, D, cy, ad, A, n, cells, slots, Q⟩ := X
  intro H locs lsA h1 h2 h3 h4
  exact lv_lrem hX.ex hX.by hd hne (k H locs lsA h1 h2 h3 h4)
theorem z_ineg {x : Int32} (hX : ZOK X oc B d) (hd : decode B pc = .ok (.ineg, 1)) (k : ZG X (pc + 1) ls (.int (-x) :: st) w) : ZG X pc ls (.int x :: st) w := by
  obtain ⟨p, l, e, R, s, m, args, below, meth, c, D, cy, ad, A, n, cells, slots, Q⟩ := X
  intro H locs lsA h1 h2 h3 h4
  exact lv_ineg hX.ex hX.by hd (k H locs lsA h1 h2 h3 h4)
theorem z_lneg {x : Int64} (hX : ZOK X oc B d) (hd : decode B pc = .ok (.lneg, 1)) (k : ZG X (pc + 1) ls (.long (-x) :: st) w) : ZG X pc ls (.long x :: st) w := by
  obtain ⟨p, l, e, R, s, m, args, below, meth, c, D, cy, ad, A, n, cells, slots, Q⟩ := X
  intro H locs lsA h1 h2 h3 h4
  exact lv_lneg hX.ex hX.by hd (k H locs lsA h1 h2 h3 h4)
theorem z_ishl {x y : Int32} (hX : ZOK X oc B d) (hd : decode B pc = .ok (.ishl, 1)) (k : ZG X (pc + 1) ls (.int (x <<< (y &&& 31)) :: st) w) : ZG X pc ls (.int y :: .int x :: st) w := by
  obtain ⟨p, l, e, R, s, m, args, below, meth, c, D, cy, ad, A, n, cells, slots, Q⟩ := X
  intro H locs lsA h1 h2 h3 h4
  exact lv_ishl hX.ex hX.by hd (k H locs lsA h1 h2 h3 h4)
theorem z_ishr {x y : Int32} (hX : ZOK X oc B d) (hd : decode B pc = .ok (.ishr, 1)) (k : ZG X (pc + 1) ls (.int (x >>> (y &&& 31)) :: st) w) : ZG X pc ls (.int y :: .int x :: st) w := by
  obtain ⟨p, l, e, R, s, m, args, below, meth, c, D, cy, ad, A, n, cells, slots, Q⟩ := X
  intro H locs lsA h1 h2 h3 h4
  exact lv_ishr hX.ex hX.by hd (k H locs lsA h1 h2 h3 h4)
theorem z_i2l {x : Int32} (hX : ZOK X oc B d) (hd : decode B pc = .ok (.i2l, 1)) (k : ZG X (pc + 1) ls (.long x.toInt64 :: st) w) : ZG X pc ls (.int x :: st) w := by
  obtain ⟨p, l, e, R, s, m, args, below, meth, c, D, cy, ad, A, n, cells, slots, Q⟩ := X
  intro H locs lsA h1 h2 h3 h4
  exact lv_i2l hX.ex hX.by hd rfl (k H locs lsA h1 h2 h3 h4)
theorem z_l2i {x : Int64} (hX : ZOK X oc B d) (hd : decode B pc = .ok (.l2i, 1)) (k : ZG X (pc + 1) ls (.int x.toInt32 :: st) w) : ZG X pc ls (.long x :: st) w := by
  obtain ⟨p, l, e, R, s, m, args, below, meth, c, D, cy, ad, A, n, cells, slots, Q⟩ := X
  intro H locs lsA h1 h2 h3 h4
  exact lv_l2i hX.ex hX.by hd rfl (k H locs lsA h1 h2 h3 h4)
theorem z_i2s {x : Int32} (hX : ZOK X oc B d) (hd : decode B pc = .ok (.i2s, 1)) (k : ZG X (pc + 1) ls (.int x.toInt16.toInt32 :: st) w) : ZG X pc ls (.int x :: st) w := by
  obtain ⟨p, l, e, R, s, m, args, below, meth, c, D, cy, ad, A, n, cells, slots, Q⟩ := X
  intro H locs lsA h1 h2 h3 h4
  exact lv_i2s hX.ex hX.by hd rfl (k H locs lsA h1 h2 h3 h4)
theorem z_lcmp {x y : Int64} (hX : ZOK X oc B d) (hd : decode B pc = .ok (.lcmp, 1)) (k : ZG X (pc + 1) ls (.int (lg_cmp x y) :: st) w) : ZG X pc ls (.long y :: .long x :: st) w := by
  obtain ⟨p, l, e, R, s, m, args, below, meth, c, D, cy, ad, A, n, cells, slots, Q⟩ := X
  intro H locs lsA h1 h2 h3 h4
  exact W.lcmp hX.ex hX.by hd (k H locs lsA h1 h2 h3 h4)
theorem z_iaddN {a b : Nat} (hX : ZOK X oc B d) (hd : decode B pc = .ok (.iadd, 1)) (k : ZG X (pc + 1) ls (.int (nI (a + b)) :: st) w) : ZG X pc ls (.int (nI b) :: .int (nI a) :: st) w := z_iadd hX hd (by rw [nI_add]; exact k)
theorem z_imulN {a b : Nat} (hX : ZOK X oc B d) (hd : decode B pc = .ok (.imul, 1)) (k : ZG X (pc + 1) ls (.int (nI (a * b)) :: st) w) : ZG X pc ls (.int (nI b) :: .int (nI a) :: st) w := z_imul hX hd (by rw [pk_mul]; exact k)
theorem z_isubN {a b : Nat} (hX : ZOK X oc B d) (hd : decode B pc = .ok (.isub, 1)) (hle : b ≤ a) (k : ZG X (pc + 1) ls (.int (nI (a - b)) :: st) w) : ZG X pc ls (.int (nI b) :: .int (nI a) :: st) w := z_isub hX hd (by rw [pk_sub hle]; exact k)
theorem nI_n0 {b : Nat} (h0 : 0 < b) (hb : b < 2147483648) : ¬ nI b = 0 := nI_ne0 h0 hb
theorem z_idivN {a b : Nat} (hX : ZOK X oc B d) (hd : decode B pc = .ok (.idiv, 1)) (ha : a < 2147483648) (h0 : 0 < b) (hb : b < 2147483648) (k : ZG X (pc + 1) ls (.int (nI (a / b)) :: st) w) : ZG X pc ls (.int (nI b) :: .int (nI a) :: st) w := z_idiv hX hd (nI_n0 h0 hb) (by rw [pk_div ha h0 hb]; exact k)
theorem z_iremN {a b : Nat} (hX : ZOK X oc B d) (hd : decode B pc = .ok (.irem, 1)) (ha : a < 2147483648) (h0 : 0 < b) (hb : b < 2147483648) (k : ZG X (pc + 1) ls (.int (nI (a % b)) :: st) w) : ZG X pc ls (.int (nI b) :: .int (nI a) :: st) w := z_irem hX hd (nI_n0 h0 hb) (by rw [pk_rem ha h0 hb]; exact k)
theorem z_i2lN {a : Nat} (hX : ZOK X oc B d) (hd : decode B pc = .ok (.i2l, 1)) (ha : a < 2147483648) (k : ZG X (pc + 1) ls (.long (lN a) :: st) w) : ZG X pc ls (.int (nI a) :: st) w := z_i2l hX hd (by rw [nI_l ha]; exact k)
theorem z_iconst {n : Int} {v : Int32} (hX : ZOK X oc B d) (hd : decode B pc = .ok (.iconst n, 1)) (hv : Int32.ofInt n = v) (k : ZG X (pc + 1) ls (.int v :: st) w) : ZG X pc ls st w := by
  obtain ⟨p, l, e, R, s, m, args, below, meth, c, D, cy, ad, A, n, cells, slots, Q⟩ := X
  intro H locs lsA h1 h2 h3 h4
  exact lv_iconst hX.ex hX.by hd hv (k H locs lsA h1 h2 h3 h4)
theorem z_bipush {n : Int} {v : Int32} (hX : ZOK X oc B d) (hd : decode B pc = .ok (.bipush n, 2)) (hv : (Int8.ofInt n).toInt32 = v) (k : ZG X (pc + 2) ls (.int v :: st) w) : ZG X pc ls st w := by
  obtain ⟨p, l, e, R, s, m, args, below, meth, c, D, cy, ad, A, n, cells, slots, Q⟩ := X
  intro H locs lsA h1 h2 h3 h4
  exact lv_bipush hX.ex hX.by hd hv (k H locs lsA h1 h2 h3 h4)
theorem z_sipush {n : Int} {v : Int32} (hX : ZOK X oc B d) (hd : decode B pc = .ok (.sipush n, 3)) (hv : (Int16.ofInt n).toInt32 = v) (k : ZG X (pc + 3) ls (.int v :: st) w) : ZG X pc ls st w := by
  obtain ⟨p, l, e, R, s, m, args, below, meth, c, D, cy, ad, A, n, cells, slots, Q⟩ := X
  intro H locs lsA h1 h2 h3 h4
  exact lv_sipush hX.ex hX.by hd hv (k H locs lsA h1 h2 h3 h4)
theorem z_lconst {n : Fin 2} {v : Int64} (hX : ZOK X oc B d) (hd : decode B pc = .ok (.lconst n, 1)) (hv : Int64.ofNat (n : Nat) = v) (k : ZG X (pc + 1) ls (.long v :: st) w) : ZG X pc ls st w := by
  obtain ⟨p, l, e, R, s, m, args, below, meth, c, D, cy, ad, A, n, cells, slots, Q⟩ := X
  intro H locs lsA h1 h2 h3 h4
  exact lv_lconst hX.ex hX.by hd hv (k H locs lsA h1 h2 h3 h4)
theorem z_ldc {idx : Nat} {v : Int32} (hX : ZOK X oc B d) (hd : decode B pc = .ok (.ldc idx, 2)) (hc : Cond.constant (zcn oc) idx v ∈ zwd) (k : ZG X (pc + 2) ls (.int v :: st) w) : ZG X pc ls st w := by
  obtain ⟨p, l, e, R, s, m, args, below, meth, c, D, cy, ad, A, n, cells, slots, Q⟩ := X
  intro H locs lsA h1 h2 h3 h4
  obtain ⟨hx, hb, hown, hts, -⟩ := hX
  exact lv_ldc hx hb hown (hts _ hc) hd (k H locs lsA h1 h2 h3 h4)
theorem z_ldc2 {idx : Nat} {v : Int64} (hX : ZOK X oc B d) (hd : decode B pc = .ok (.ldc2_w idx, 3)) (hc : Cond.constantLong (zcn oc) idx v ∈ zwd) (k : ZG X (pc + 3) ls (.long v :: st) w) : ZG X pc ls st w := by
  obtain ⟨p, l, e, R, s, m, args, below, meth, c, D, cy, ad, A, n, cells, slots, Q⟩ := X
  intro H locs lsA h1 h2 h3 h4
  obtain ⟨hx, hb, hown, hts, -⟩ := hX
  exact lv_ldc2 hx hb hown (hts _ hc) hd (k H locs lsA h1 h2 h3 h4)
theorem z_iload_n {k : Fin 4} {x : Int32} (hX : ZOK X oc B d) (hd : decode B pc = .ok (.iload_n k, 1)) (hl : ls[(k : Nat)]? = some (some (.int x))) (kk : ZG X (pc + 1) ls (.int x :: st) w) : ZG X pc ls st w := by
  obtain ⟨p, l, e, R, s, m, args, below, meth, c, D, cy, ad, A, n, cells, slots, Q⟩ := X
  intro H locs lsA h1 h2 h3 h4
  exact lv_iload_n hX.ex hX.by hd rfl (h4.at hl) (kk H locs lsA h1 h2 h3 h4)
theorem z_iload {i : Nat} {x : Int32} (hX : ZOK X oc B d) (hd : decode B pc = .ok (.iload i, 2)) (hl : ls[i]? = some (some (.int x))) (kk : ZG X (pc + 2) ls (.int x :: st) w) : ZG X pc ls st w := by
  obtain ⟨p, l, e, R, s, m, args, below, meth, c, D, cy, ad, A, n, cells, slots, Q⟩ := X
  intro H locs lsA h1 h2 h3 h4
  exact lv_iload hX.ex hX.by hd (h4.at hl) (kk H locs lsA h1 h2 h3 h4)
theorem z_istore_n {k : Fin 4} {x : Int32} {ls' : List (Option Value)} (hX : ZOK X oc B d) (hd : decode B pc = .ok (.istore_n k, 1)) (hn : (k : Nat) < ls.length) (hl : zst1 ls (k : Nat) (.int x) = ls') (kk : ZG X (pc + 1) ls' st w) : ZG X pc ls (.int x :: st) w := by
  subst hl
  obtain ⟨p, l, e, R, s, m, args, below, meth, c, D, cy, ad, A, n, cells, slots, Q⟩ := X
  intro H locs lsA h1 h2 h3 h4
  have hn' := hn
  rw [h4.1] at hn'
  exact lv_istore_n hX.ex hX.by hd rfl h4.2 hn' rfl (fun ls' h' => kk H locs ls' h1 h2 h3 (ZL.st1 rfl h4.1 hn' h'))
theorem z_istore {i : Nat} {x : Int32} {ls' : List (Option Value)} (hX : ZOK X oc B d) (hd : decode B pc = .ok (.istore i, 2)) (hn : i < ls.length) (hl : zst1 ls i (.int x) = ls') (kk : ZG X (pc + 2) ls' st w) : ZG X pc ls (.int x :: st) w := by
  subst hl
  obtain ⟨p, l, e, R, s, m, args, below, meth, c, D, cy, ad, A, n, cells, slots, Q⟩ := X
  intro H locs lsA h1 h2 h3 h4
  have hn' := hn
  rw [h4.1] at hn'
  exact lv_istore hX.ex hX.by hd h4.2 hn' rfl (fun ls' h' => kk H locs ls' h1 h2 h3 (ZL.st1 rfl h4.1 hn' h'))
theorem z_lload_n {k : Fin 4} {x : Int64} (hX : ZOK X oc B d) (hd : decode B pc = .ok (.lload_n k, 1)) (hl : ls[(k : Nat)]? = some (some (.long x))) (kk : ZG X (pc + 1) ls (.long x :: st) w) : ZG X pc ls st w := by
  obtain ⟨p, l, e, R, s, m, args, below, meth, c, D, cy, ad, A, n, cells, slots, Q⟩ := X
  intro H locs lsA h1 h2 h3 h4
  exact lv_lload_n hX.ex hX.by hd rfl (h4.at hl) (kk H locs lsA h1 h2 h3 h4)
theorem z_lload {i : Nat} {x : Int64} (hX : ZOK X oc B d) (hd : decode B pc = .ok (.lload i, 2)) (hl : ls[i]? = some (some (.long x))) (kk : ZG X (pc + 2) ls (.long x :: st) w) : ZG X pc ls st w := by
  obtain ⟨p, l, e, R, s, m, args, below, meth, c, D, cy, ad, A, n, cells, slots, Q⟩ := X
  intro H locs lsA h1 h2 h3 h4
  exact lv_lload hX.ex hX.by hd (h4.at hl) (kk H locs lsA h1 h2 h3 h4)
theorem z_lstore_n {k : Fin 4} {x : Int64} {ls' : List (Option Value)} (hX : ZOK X oc B d) (hd : decode B pc = .ok (.lstore_n k, 1)) (hn : (k : Nat) + 1 < ls.length) (hl : zst2 ls (k : Nat) (.long x) = ls') (kk : ZG X (pc + 1) ls' st w) : ZG X pc ls (.long x :: st) w := by
  subst hl
  obtain ⟨p, l, e, R, s, m, args, below, meth, c, D, cy, ad, A, n, cells, slots, Q⟩ := X
  intro H locs lsA h1 h2 h3 h4
  have hn' := hn
  rw [h4.1] at hn'
  exact lv_lstore_n hX.ex hX.by hd rfl h4.2 hn' rfl (fun ls' h' => kk H locs ls' h1 h2 h3 (ZL.st2 rfl h4.1 hn' h'))
theorem z_lstore {i : Nat} {x : Int64} {ls' : List (Option Value)} (hX : ZOK X oc B d) (hd : decode B pc = .ok (.lstore i, 2)) (hn : i + 1 < ls.length) (hl : zst2 ls i (.long x) = ls') (kk : ZG X (pc + 2) ls' st w) : ZG X pc ls (.long x :: st) w := by
  subst hl
  obtain ⟨p, l, e, R, s, m, args, below, meth, c, D, cy, ad, A, n, cells, slots, Q⟩ := X
  intro H locs lsA h1 h2 h3 h4
  have hn' := hn
  rw [h4.1] at hn'
  exact lv_lstore hX.ex hX.by hd h4.2 hn' rfl (fun ls' h' => kk H locs ls' h1 h2 h3 (ZL.st2 rfl h4.1 hn' h'))
theorem z_aload_n {k : Fin 4} {x : Nat} (hX : ZOK X oc B d) (hd : decode B pc = .ok (.aload_n k, 1)) (hl : ls[(k : Nat)]? = some (some (.ref x))) (kk : ZG X (pc + 1) ls (.ref x :: st) w) : ZG X pc ls st w := by
  obtain ⟨p, l, e, R, s, m, args, below, meth, c, D, cy, ad, A, n, cells, slots, Q⟩ := X
  intro H locs lsA h1 h2 h3 h4
  exact lv_aload_n hX.ex hX.by hd rfl (h4.at hl) (kk H locs lsA h1 h2 h3 h4)
theorem z_aload {i : Nat} {x : Nat} (hX : ZOK X oc B d) (hd : decode B pc = .ok (.aload i, 2)) (hl : ls[i]? = some (some (.ref x))) (kk : ZG X (pc + 2) ls (.ref x :: st) w) : ZG X pc ls st w := by
  obtain ⟨p, l, e, R, s, m, args, below, meth, c, D, cy, ad, A, n, cells, slots, Q⟩ := X
  intro H locs lsA h1 h2 h3 h4
  exact lv_aload hX.ex hX.by hd (h4.at hl) (kk H locs lsA h1 h2 h3 h4)
theorem z_astore_n {k : Fin 4} {x : Nat} {ls' : List (Option Value)} (hX : ZOK X oc B d) (hd : decode B pc = .ok (.astore_n k, 1)) (hn : (k : Nat) < ls.length) (hl : zst1 ls (k : Nat) (.ref x) = ls') (kk : ZG X (pc + 1) ls' st w) : ZG X pc ls (.ref x :: st) w := by
  subst hl
  obtain ⟨p, l, e, R, s, m, args, below, meth, c, D, cy, ad, A, n, cells, slots, Q⟩ := X
  intro H locs lsA h1 h2 h3 h4
  have hn' := hn
  rw [h4.1] at hn'
  exact lv_astore_n hX.ex hX.by hd rfl h4.2 hn' rfl (fun ls' h' => kk H locs ls' h1 h2 h3 (ZL.st1 rfl h4.1 hn' h'))
theorem z_astore {i : Nat} {x : Nat} {ls' : List (Option Value)} (hX : ZOK X oc B d) (hd : decode B pc = .ok (.astore i, 2)) (hn : i < ls.length) (hl : zst1 ls i (.ref x) = ls') (kk : ZG X (pc + 2) ls' st w) : ZG X pc ls (.ref x :: st) w := by
  subst hl
  obtain ⟨p, l, e, R, s, m, args, below, meth, c, D, cy, ad, A, n, cells, slots, Q⟩ := X
  intro H locs lsA h1 h2 h3 h4
  have hn' := hn
  rw [h4.1] at hn'
  exact lv_astore hX.ex hX.by hd h4.2 hn' rfl (fun ls' h' => kk H locs ls' h1 h2 h3 (ZL.st1 rfl h4.1 hn' h'))
theorem z_iinc {i : Nat} {q : Int} {x : Int32} {ls' : List (Option Value)} (hX : ZOK X oc B d) (hd : decode B pc = .ok (.iinc i q, 3)) (hi : ls[i]? = some (some (.int x))) (hl : zst1 ls i (.int (x + Int32.ofInt q)) = ls') (kk : ZG X (pc + 3) ls' st w) : ZG X pc ls st w := by
  subst hl
  obtain ⟨p, l, e, R, s, m, args, below, meth, c, D, cy, ad, A, n, cells, slots, Q⟩ := X
  intro H locs lsA h1 h2 h3 h4
  have hn' := h4.lt hi
  obtain ⟨k, hk⟩ := List.getElem?_of_mem (zlv_mem (ad := ad) (ls := ls) (q := (i, .int x)).mpr ⟨.int x, hi, rfl⟩)
  exact lv_iinc hX.ex hX.by hd h4.2 hk rfl hn' rfl (fun ls' h' => kk H locs ls' h1 h2 h3 (ZL.st1 rfl h4.1 hn' h'))
theorem z_iincN {i b a : Nat} {q : Int} {ls' : List (Option Value)} (hX : ZOK X oc B d) (hd : decode B pc = .ok (.iinc i q, 3)) (hi : ls[i]? = some (some (.int (nI a)))) (hq : Int32.ofInt q = nI b) (hl : zst1 ls i (.int (nI (a + b))) = ls') (kk : ZG X (pc + 3) ls' st w) : ZG X pc ls st w := z_iinc hX hd hi (by rw [hq, nI_add]; exact hl) kk
theorem z_iincD {i a : Nat} {ls' : List (Option Value)} (hX : ZOK X oc B d) (hd : decode B pc = .ok (.iinc i (-1), 3)) (hi : ls[i]? = some (some (.int (nI (a + 1))))) (hl : zst1 ls i (.int (nI a)) = ls') (kk : ZG X (pc + 3) ls' st w) : ZG X pc ls st w := z_iinc hX hd hi (by rw [show Int32.ofInt (-1) = -1 from rfl, pk_m1]; exact hl) kk
theorem z_goto {off : Int} {tgt : Nat} (hX : ZOK X oc B d) (hd : decode B pc = .ok (.goto off, 3)) (ht : (pc : Int) + off = (tgt : Int)) (k : ZG X tgt ls st w) : ZG X pc ls st w := by
  obtain ⟨p, l, e, R, s, m, args, below, meth, c, D, cy, ad, A, n, cells, slots, Q⟩ := X
  intro H locs lsA h1 h2 h3 h4
  exact lv_goto hX.ex hX.by hd ht (k H locs lsA h1 h2 h3 h4)
theorem z_if_eq {x : Int32} {off : Int} {tgt : Nat} (hX : ZOK X oc B d) (hd : decode B pc = .ok (.ifCond .eq off, 3)) (ht : (pc : Int) + off = (tgt : Int)) (kt : x = 0 → ZG X tgt ls st w) (kf : ¬ x = 0 → ZG X (pc + 3) ls st w) : ZG X pc ls (.int x :: st) w := by
  obtain ⟨p, l, e, R, s, m, args, below, meth, c, D, cy, ad, A, n, cells, slots, Q⟩ := X
  intro H locs lsA h1 h2 h3 h4
  exact lv_if_eq hX.ex hX.by hd ht (fun q => kt q H locs lsA h1 h2 h3 h4) (fun q => kf q H locs lsA h1 h2 h3 h4)
theorem z_icmp_eq {x y : Int32} {off : Int} {tgt : Nat} (hX : ZOK X oc B d) (hd : decode B pc = .ok (.if_icmp .eq off, 3)) (ht : (pc : Int) + off = (tgt : Int)) (kt : x = y → ZG X tgt ls st w) (kf : ¬ x = y → ZG X (pc + 3) ls st w) : ZG X pc ls (.int y :: .int x :: st) w := by
  obtain ⟨p, l, e, R, s, m, args, below, meth, c, D, cy, ad, A, n, cells, slots, Q⟩ := X
  intro H locs lsA h1 h2 h3 h4
  exact lv_icmp_eq hX.ex hX.by hd ht (fun q => kt q H locs lsA h1 h2 h3 h4) (fun q => kf q H locs lsA h1 h2 h3 h4)
theorem z_if_ne {x : Int32} {off : Int} {tgt : Nat} (hX : ZOK X oc B d) (hd : decode B pc = .ok (.ifCond .ne off, 3)) (ht : (pc : Int) + off = (tgt : Int)) (kt : ¬ x = 0 → ZG X tgt ls st w) (kf : x = 0 → ZG X (pc + 3) ls st w) : ZG X pc ls (.int x :: st) w := by
  obtain ⟨p, l, e, R, s, m, args, below, meth, c, D, cy, ad, A, n, cells, slots, Q⟩ := X
  intro H locs lsA h1 h2 h3 h4
  exact lv_if_ne hX.ex hX.by hd ht (fun q => kt q H locs lsA h1 h2 h3 h4) (fun q => kf q H locs lsA h1 h2 h3 h4)
theorem z_icmp_ne {x y : Int32} {off : Int} {tgt : Nat} (hX : ZOK X oc B d) (hd : decode B pc = .ok (.if_icmp .ne off, 3)) (ht : (pc : Int) + off = (tgt : Int)) (kt : ¬ x = y → ZG X tgt ls st w) (kf : x = y → ZG X (pc + 3) ls st w) : ZG X pc ls (.int y :: .int x :: st) w := by
  obtain ⟨p, l, e, R, s, m, args, below, meth, c, D, cy, ad, A, n, cells, slots, Q⟩ := X
  intro H locs lsA h1 h2 h3 h4
  exact lv_icmp_ne hX.ex hX.by hd ht (fun q => kt q H locs lsA h1 h2 h3 h4) (fun q => kf q H locs lsA h1 h2 h3 h4)
theorem z_if_lt {x : Int32} {off : Int} {tgt : Nat} (hX : ZOK X oc B d) (hd : decode B pc = .ok (.ifCond .lt off, 3)) (ht : (pc : Int) + off = (tgt : Int)) (kt : x < 0 → ZG X tgt ls st w) (kf : ¬ x < 0 → ZG X (pc + 3) ls st w) : ZG X pc ls (.int x :: st) w := by
  obtain ⟨p, l, e, R, s, m, args, below, meth, c, D, cy, ad, A, n, cells, slots, Q⟩ := X
  intro H locs lsA h1 h2 h3 h4
  exact lv_if_lt hX.ex hX.by hd ht (fun q => kt q H locs lsA h1 h2 h3 h4) (fun q => kf q H locs lsA h1 h2 h3 h4)
theorem z_icmp_lt {x y : Int32} {off : Int} {tgt : Nat} (hX : ZOK X oc B d) (hd : decode B pc = .ok (.if_icmp .lt off, 3)) (ht : (pc : Int) + off = (tgt : Int)) (kt : x < y → ZG X tgt ls st w) (kf : ¬ x < y → ZG X (pc + 3) ls st w) : ZG X pc ls (.int y :: .int x :: st) w := by
  obtain ⟨p, l, e, R, s, m, args, below, meth, c, D, cy, ad, A, n, cells, slots, Q⟩ := X
  intro H locs lsA h1 h2 h3 h4
  exact lv_icmp_lt hX.ex hX.by hd ht (fun q => kt q H locs lsA h1 h2 h3 h4) (fun q => kf q H locs lsA h1 h2 h3 h4)
theorem z_if_ge {x : Int32} {off : Int} {tgt : Nat} (hX : ZOK X oc B d) (hd : decode B pc = .ok (.ifCond .ge off, 3)) (ht : (pc : Int) + off = (tgt : Int)) (kt : 0 ≤ x → ZG X tgt ls st w) (kf : ¬ 0 ≤ x → ZG X (pc + 3) ls st w) : ZG X pc ls (.int x :: st) w := by
  obtain ⟨p, l, e, R, s, m, args, below, meth, c, D, cy, ad, A, n, cells, slots, Q⟩ := X
  intro H locs lsA h1 h2 h3 h4
  exact lv_if_ge hX.ex hX.by hd ht (fun q => kt q H locs lsA h1 h2 h3 h4) (fun q => kf q H locs lsA h1 h2 h3 h4)
theorem z_icmp_ge {x y : Int32} {off : Int} {tgt : Nat} (hX : ZOK X oc B d) (hd : decode B pc = .ok (.if_icmp .ge off, 3)) (ht : (pc : Int) + off = (tgt : Int)) (kt : y ≤ x → ZG X tgt ls st w) (kf : ¬ y ≤ x → ZG X (pc + 3) ls st w) : ZG X pc ls (.int y :: .int x :: st) w := by
  obtain ⟨p, l, e, R, s, m, args, below, meth, c, D, cy, ad, A, n, cells, slots, Q⟩ := X
  intro H locs lsA h1 h2 h3 h4
  exact lv_icmp_ge hX.ex hX.by hd ht (fun q => kt q H locs lsA h1 h2 h3 h4) (fun q => kf q H locs lsA h1 h2 h3 h4)
theorem z_if_gt {x : Int32} {off : Int} {tgt : Nat} (hX : ZOK X oc B d) (hd : decode B pc = .ok (.ifCond .gt off, 3)) (ht : (pc : Int) + off = (tgt : Int)) (kt : 0 < x → ZG X tgt ls st w) (kf : ¬ 0 < x → ZG X (pc + 3) ls st w) : ZG X pc ls (.int x :: st) w := by
  obtain ⟨p, l, e, R, s, m, args, below, meth, c, D, cy, ad, A, n, cells, slots, Q⟩ := X
  intro H locs lsA h1 h2 h3 h4
  exact lv_if_gt hX.ex hX.by hd ht (fun q => kt q H locs lsA h1 h2 h3 h4) (fun q => kf q H locs lsA h1 h2 h3 h4)
theorem z_icmp_gt {x y : Int32} {off : Int} {tgt : Nat} (hX : ZOK X oc B d) (hd : decode B pc = .ok (.if_icmp .gt off, 3)) (ht : (pc : Int) + off = (tgt : Int)) (kt : y < x → ZG X tgt ls st w) (kf : ¬ y < x → ZG X (pc + 3) ls st w) : ZG X pc ls (.int y :: .int x :: st) w := by
  obtain ⟨p, l, e, R, s, m, args, below, meth, c, D, cy, ad, A, n, cells, slots, Q⟩ := X
  intro H locs lsA h1 h2 h3 h4
  exact lv_icmp_gt hX.ex hX.by hd ht (fun q => kt q H locs lsA h1 h2 h3 h4) (fun q => kf q H locs lsA h1 h2 h3 h4)
theorem z_if_le {x : Int32} {off : Int} {tgt : Nat} (hX : ZOK X oc B d) (hd : decode B pc = .ok (.ifCond .le off, 3)) (ht : (pc : Int) + off = (tgt : Int)) (kt : x ≤ 0 → ZG X tgt ls st w) (kf : ¬ x ≤ 0 → ZG X (pc + 3) ls st w) : ZG X pc ls (.int x :: st) w := by
  obtain ⟨p, l, e, R, s, m, args, below, meth, c, D, cy, ad, A, n, cells, slots, Q⟩ := X
  intro H locs lsA h1 h2 h3 h4
  exact lv_if_le hX.ex hX.by hd ht (fun q => kt q H locs lsA h1 h2 h3 h4) (fun q => kf q H locs lsA h1 h2 h3 h4)
theorem z_icmp_le {x y : Int32} {off : Int} {tgt : Nat} (hX : ZOK X oc B d) (hd : decode B pc = .ok (.if_icmp .le off, 3)) (ht : (pc : Int) + off = (tgt : Int)) (kt : x ≤ y → ZG X tgt ls st w) (kf : ¬ x ≤ y → ZG X (pc + 3) ls st w) : ZG X pc ls (.int y :: .int x :: st) w := by
  obtain ⟨p, l, e, R, s, m, args, below, meth, c, D, cy, ad, A, n, cells, slots, Q⟩ := X
  intro H locs lsA h1 h2 h3 h4
  exact lv_icmp_le hX.ex hX.by hd ht (fun q => kt q H locs lsA h1 h2 h3 h4) (fun q => kf q H locs lsA h1 h2 h3 h4)
theorem z_icmp_eqN {a b : Nat} {off : Int} {tgt : Nat} (hX : ZOK X oc B d) (hd : decode B pc = .ok (.if_icmp .eq off, 3)) (ht : (pc : Int) + off = (tgt : Int)) (ha : a < 2147483648) (hb : b < 2147483648) (kt : a = b → ZG X tgt ls st w) (kf : ¬ a = b → ZG X (pc + 3) ls st w) : ZG X pc ls (.int (nI b) :: .int (nI a) :: st) w := by
  have e1 := nI_eq ha hb
  have e2 := nI_ltI ha hb
  have e3 := nI_leI hb ha
  have e4 := nI_ltI hb ha
  have e5 := nI_leI ha hb
  refine z_icmp_eq hX hd ht (fun q => kt ?_) (fun q => kf ?_) <;> simp only [e1, e2, e3, e4, e5, ne_eq, gt_iff_lt, ge_iff_le, Nat.not_lt, Nat.not_le, Decidable.not_not] at q <;> exact q
theorem z_icmp_neN {a b : Nat} {off : Int} {tgt : Nat} (hX : ZOK X oc B d) (hd : decode B pc = .ok (.if_icmp .ne off, 3)) (ht : (pc : Int) + off = (tgt : Int)) (ha : a < 2147483648) (hb : b < 2147483648) (kt : ¬ a = b → ZG X tgt ls st w) (kf : a = b → ZG X (pc + 3) ls st w) : ZG X pc ls (.int (nI b) :: .int (nI a) :: st) w := by
  have e1 := nI_eq ha hb
  have e2 := nI_ltI ha hb
  have e3 := nI_leI hb ha
  have e4 := nI_ltI hb ha
  have e5 := nI_leI ha hb
  refine z_icmp_ne hX hd ht (fun q => kt ?_) (fun q => kf ?_) <;> simp only [e1, e2, e3, e4, e5, ne_eq, gt_iff_lt, ge_iff_le, Nat.not_lt, Nat.not_le, Decidable.not_not] at q <;> exact q
theorem z_icmp_ltN {a b : Nat} {off : Int} {tgt : Nat} (hX : ZOK X oc B d) (hd : decode B pc = .ok (.if_icmp .lt off, 3)) (ht : (pc : Int) + off = (tgt : Int)) (ha : a < 2147483648) (hb : b < 2147483648) (kt : a < b → ZG X tgt ls st w) (kf : b ≤ a → ZG X (pc + 3) ls st w) : ZG X pc ls (.int (nI b) :: .int (nI a) :: st) w := by
  have e1 := nI_eq ha hb
  have e2 := nI_ltI ha hb
  have e3 := nI_leI hb ha
  have e4 := nI_ltI hb ha
  have e5 := nI_leI ha hb
  refine z_icmp_lt hX hd ht (fun q => kt ?_) (fun q => kf ?_) <;> simp only [e1, e2, e3, e4, e5, ne_eq, gt_iff_lt, ge_iff_le, Nat.not_lt, Nat.not_le, Decidable.not_not] at q <;> exact q
theorem z_icmp_geN {a b : Nat} {off : Int} {tgt : Nat} (hX : ZOK X oc B d) (hd : decode B pc = .ok (.if_icmp .ge off, 3)) (ht : (pc : Int) + off = (tgt : Int)) (ha : a < 2147483648) (hb : b < 2147483648) (kt : b ≤ a → ZG X tgt ls st w) (kf : a < b → ZG X (pc + 3) ls st w) : ZG X pc ls (.int (nI b) :: .int (nI a) :: st) w := by
  have e1 := nI_eq ha hb
  have e2 := nI_ltI ha hb
  have e3 := nI_leI hb ha
  have e4 := nI_ltI hb ha
  have e5 := nI_leI ha hb
  refine z_icmp_ge hX hd ht (fun q => kt ?_) (fun q => kf ?_) <;> simp only [e1, e2, e3, e4, e5, ne_eq, gt_iff_lt, ge_iff_le, Nat.not_lt, Nat.not_le, Decidable.not_not] at q <;> exact q
theorem z_icmp_gtN {a b : Nat} {off : Int} {tgt : Nat} (hX : ZOK X oc B d) (hd : decode B pc = .ok (.if_icmp .gt off, 3)) (ht : (pc : Int) + off = (tgt : Int)) (ha : a < 2147483648) (hb : b < 2147483648) (kt : b < a → ZG X tgt ls st w) (kf : a ≤ b → ZG X (pc + 3) ls st w) : ZG X pc ls (.int (nI b) :: .int (nI a) :: st) w := by
  have e1 := nI_eq ha hb
  have e2 := nI_ltI ha hb
  have e3 := nI_leI hb ha
  have e4 := nI_ltI hb ha
  have e5 := nI_leI ha hb
  refine z_icmp_gt hX hd ht (fun q => kt ?_) (fun q => kf ?_) <;> simp only [e1, e2, e3, e4, e5, ne_eq, gt_iff_lt, ge_iff_le, Nat.not_lt, Nat.not_le, Decidable.not_not] at q <;> exact q
theorem z_icmp_leN {a b : Nat} {off : Int} {tgt : Nat} (hX : ZOK X oc B d) (hd : decode B pc = .ok (.if_icmp .le off, 3)) (ht : (pc : Int) + off = (tgt : Int)) (ha : a < 2147483648) (hb : b < 2147483648) (kt : a ≤ b → ZG X tgt ls st w) (kf : b < a → ZG X (pc + 3) ls st w) : ZG X pc ls (.int (nI b) :: .int (nI a) :: st) w := by
  have e1 := nI_eq ha hb
  have e2 := nI_ltI ha hb
  have e3 := nI_leI hb ha
  have e4 := nI_ltI hb ha
  have e5 := nI_leI ha hb
  refine z_icmp_le hX hd ht (fun q => kt ?_) (fun q => kf ?_) <;> simp only [e1, e2, e3, e4, e5, ne_eq, gt_iff_lt, ge_iff_le, Nat.not_lt, Nat.not_le, Decidable.not_not] at q <;> exact q
theorem z_lif_eq {x y : Int64} {off : Int} {tgt : Nat} (hX : ZOK X oc B d) (hd : decode B pc = .ok (.ifCond .eq off, 3)) (ht : (pc : Int) + off = (tgt : Int)) (kt : x = y → ZG X tgt ls st w) (kf : ¬ x = y → ZG X (pc + 3) ls st w) : ZG X pc ls (.int (lg_cmp x y) :: st) w := by
  refine z_if_eq hX hd ht (fun q => kt ?_) (fun q => kf ?_)
  · exact zlg_eq x y q
  · exact zlg_neq x y q
theorem z_lif_ne {x y : Int64} {off : Int} {tgt : Nat} (hX : ZOK X oc B d) (hd : decode B pc = .ok (.ifCond .ne off, 3)) (ht : (pc : Int) + off = (tgt : Int)) (kt : ¬ x = y → ZG X tgt ls st w) (kf : x = y → ZG X (pc + 3) ls st w) : ZG X pc ls (.int (lg_cmp x y) :: st) w := by
  refine z_if_ne hX hd ht (fun q => kt ?_) (fun q => kf ?_)
  · exact zlg_ne x y q
  · exact zlg_nne x y q
theorem z_lif_lt {x y : Int64} {off : Int} {tgt : Nat} (hX : ZOK X oc B d) (hd : decode B pc = .ok (.ifCond .lt off, 3)) (ht : (pc : Int) + off = (tgt : Int)) (kt : x < y → ZG X tgt ls st w) (kf : y ≤ x → ZG X (pc + 3) ls st w) : ZG X pc ls (.int (lg_cmp x y) :: st) w := by
  refine z_if_lt hX hd ht (fun q => kt ?_) (fun q => kf ?_)
  · exact zlg_lt x y q
  · exact zlg_nlt x y q
theorem z_lif_ge {x y : Int64} {off : Int} {tgt : Nat} (hX : ZOK X oc B d) (hd : decode B pc = .ok (.ifCond .ge off, 3)) (ht : (pc : Int) + off = (tgt : Int)) (kt : y ≤ x → ZG X tgt ls st w) (kf : x < y → ZG X (pc + 3) ls st w) : ZG X pc ls (.int (lg_cmp x y) :: st) w := by
  refine z_if_ge hX hd ht (fun q => kt ?_) (fun q => kf ?_)
  · exact zlg_ge x y q
  · exact zlg_nge x y q
theorem z_lif_gt {x y : Int64} {off : Int} {tgt : Nat} (hX : ZOK X oc B d) (hd : decode B pc = .ok (.ifCond .gt off, 3)) (ht : (pc : Int) + off = (tgt : Int)) (kt : y < x → ZG X tgt ls st w) (kf : x ≤ y → ZG X (pc + 3) ls st w) : ZG X pc ls (.int (lg_cmp x y) :: st) w := by
  refine z_if_gt hX hd ht (fun q => kt ?_) (fun q => kf ?_)
  · exact zlg_gt x y q
  · exact zlg_ngt x y q
theorem z_lif_le {x y : Int64} {off : Int} {tgt : Nat} (hX : ZOK X oc B d) (hd : decode B pc = .ok (.ifCond .le off, 3)) (ht : (pc : Int) + off = (tgt : Int)) (kt : x ≤ y → ZG X tgt ls st w) (kf : y < x → ZG X (pc + 3) ls st w) : ZG X pc ls (.int (lg_cmp x y) :: st) w := by
  refine z_if_le hX hd ht (fun q => kt ?_) (fun q => kf ?_)
  · exact zlg_le x y q
  · exact zlg_nle x y q
end ZR
end
section
/-! ===== fields, arrays, statics ===== -/
/-- entry idx of class oc's pool is field k of kind ci; what a read and a write need of the tables -/
def ZF (oc idx ci k : Nat) : Prop := ∃ (C : String) (T : u_T) (N : Nat) (ty : Nat → FieldType), vwCl[ci]? = some (C, T, N) ∧ k < N ∧ ci < 100 ∧ Cond.fieldLink (zcn oc) idx C (T k).2.1 (T k).2.2.1 ∈ zwd ∧ (T k).1 = C ∧ (∀ w ∈ u_ws C T N, w ∈ zwd) ∧ (∀ k, k < N → parseFieldDescriptor (T k).2.2.1 = some (ty k)) ∧ (∀ a, a < N → ∀ b, b < N → a ≠ b → (T a).2.1 ≠ (T b).2.1)
/-- the same of a field that may be written, of type ty -/
def ZP (oc idx ci k : Nat) (ty0 : FieldType) : Prop := ∃ (C : String) (T : u_T) (N : Nat) (ty : Nat → FieldType), vwCl[ci]? = some (C, T, N) ∧ k < N ∧ ci < 100 ∧ Cond.fieldLink (zcn oc) idx C (T k).2.1 (T k).2.2.1 ∈ zwd ∧ (T k).1 = C ∧ (∀ w ∈ u_ws C T N, w ∈ zwd) ∧ (∀ k, k < N → parseFieldDescriptor (T k).2.2.1 = some (ty k)) ∧ (∀ a, a < N → ∀ b, b < N → a ≠ b → (T a).2.1 ≠ (T b).2.1) ∧ (T k).2.2.2 = false ∧ ty k = ty0
theorem zce_obj {cy ad : Nat → Nat} {ci : Nat} {fs : List Value} (h : ci < 100) : zce cy ad (.inr (ci, fs)) = .inr (ci, fs.map (zv ad)) := by
  show (if ci < 100 then _ else _) = _
  rw [if_pos h]
theorem zce_row {cy ad : Nat → Nat} {ci : Nat} {fs : List Value} (h : ¬ ci < 100) : zce cy ad (.inr (ci, fs)) = .inl (cy (ci - 97), fs.length, .inr (.inr (.inr (.inr (fun j => (fs[j]?).bind (zr ad)))))) := by
  show (if ci < 100 then _ else _) = _
  rw [if_neg h]
section ZH
variable {X : ZX} {oc d pc : Nat} {B : ByteArray} {ls : List (Option Value)} {st : List Value} {w : ZW}
theorem z_get {idx ci k q : Nat} {fs : List Value} {v : Value} (hX : ZOK X oc B d) (hd : decode B pc = .ok (.getfield idx, 3)) (hf : ZF oc idx ci k) (hw : w[q]? = some (.inr (ci, fs))) (hv : fs[k]? = some v) (kk : ZG X (pc + 3) ls (v :: st) w) : ZG X pc ls (.ref q :: st) w := by
  obtain ⟨p, l, e, R, s, m, args, below, meth, c, D, cy, ad, A, n, cells, slots, Q⟩ := X
  intro H locs lsA h1 h2 h3 h4
  obtain ⟨hx, hb, hown, hts, hK, -⟩ := hX
  obtain ⟨C, T, N, ty, f1, f2, f3, f4, f5, f6, f7, f8⟩ := hf
  have he : (zcw cy ad w)[q]? = some (ad q, .inr (ci, fs.map (zv ad))) := by rw [zcw_get hw, zce_obj f3]
  exact va_get (D := D) (C := C) (T := T) (N := N) hx hb hts f6 hown hK h2 q he f1 k f2 (hts _ f4) (fun x hx => by rw [← f5]; rw [f5]; rw [f5] at hx; exact hx) (v := zv ad v) (by rw [List.getElem?_map, hv]; rfl) hd (kk H locs lsA h1 h2 h3 h4)
theorem z_put {idx ci k q : Nat} {fs : List Value} {v : Value} {ty0 : FieldType} {fs' : List Value} {w' : ZW} (hX : ZOK X oc B d) (hd : decode B pc = .ok (.putfield idx, 3)) (hf : ZP oc idx ci k ty0) (hw : w[q]? = some (.inr (ci, fs))) (hn : ∀ ad, narrow ty0 (zv ad v) = zv ad v) (hfit : ∀ ad, fits ty0 (zv ad v) = true) (hl : k < fs.length) (hfs : fs.set k v = fs') (hw' : w.set q (.inr (ci, fs')) = w') (kk : ZG X (pc + 3) ls st w') : ZG X pc ls (v :: .ref q :: st) w := by
  subst hfs
  subst hw'
  obtain ⟨p, l, e, R, s, m, args, below, meth, c, D, cy, ad, A, n, cells, slots, Q⟩ := X
  intro H locs lsA h1 h2 h3 h4
  obtain ⟨hx, hb, hown, hts, hK, hI, hA, -⟩ := hX
  obtain ⟨C, T, N, ty, f1, f2, f3, f4, f5, f6, f7, f8, f9, f10⟩ := hf
  have he : (zcw cy ad w)[q]? = some (ad q, .inr (ci, fs.map (zv ad))) := by rw [zcw_get hw, zce_obj f3]
  refine va_put (D := D) (C := C) (T := T) (N := N) (ty := ty0) (v := zv ad v) hx hb hts f6 ty f7 f8 hown hK h2 (hI.D hA h1) h3 q he f1 k f2 (hts _ f4) (fun x hx => by rw [f5] at hx; exact hx) f9 (by rw [f7 k f2, f10]) (hn ad) (hfit ad) (by rw [List.length_map]; exact hl) hd (fun H1 locs1 g1 g2 g3 => ?_)
  refine kk H1 locs1 lsA (by rw [List.length_set]; exact h1) ?_ g3 h4
  rw [← zcw_set, zce_obj f3, List.map_set]
  exact g1
theorem z_puti {idx ci k q : Nat} {fs : List Value} {x : Int32} {fs' : List Value} {w' : ZW} (hX : ZOK X oc B d) (hd : decode B pc = .ok (.putfield idx, 3)) (hf : ZP oc idx ci k .int) (hw : w[q]? = some (.inr (ci, fs))) (hl : k < fs.length) (hfs : fs.set k (.int x) = fs') (hw' : w.set q (.inr (ci, fs')) = w') (kk : ZG X (pc + 3) ls st w') : ZG X pc ls (.int x :: .ref q :: st) w := z_put hX hd hf hw (fun _ => rfl) (fun _ => rfl) hl hfs hw' kk
theorem z_putl {idx ci k q : Nat} {fs : List Value} {x : Int64} {fs' : List Value} {w' : ZW} (hX : ZOK X oc B d) (hd : decode B pc = .ok (.putfield idx, 3)) (hf : ZP oc idx ci k .long) (hw : w[q]? = some (.inr (ci, fs))) (hl : k < fs.length) (hfs : fs.set k (.long x) = fs') (hw' : w.set q (.inr (ci, fs')) = w') (kk : ZG X (pc + 3) ls st w') : ZG X pc ls (.long x :: .ref q :: st) w := z_put hX hd hf hw (fun _ => rfl) (fun _ => rfl) hl hfs hw' kk
theorem z_putz {idx ci k q : Nat} {fs : List Value} {x : Int32} {fs' : List Value} {w' : ZW} (hX : ZOK X oc B d) (hd : decode B pc = .ok (.putfield idx, 3)) (hf : ZP oc idx ci k .boolean) (hw : w[q]? = some (.inr (ci, fs))) (hx : x = 0 ∨ x = 1) (hl : k < fs.length) (hfs : fs.set k (.int x) = fs') (hw' : w.set q (.inr (ci, fs')) = w') (kk : ZG X (pc + 3) ls st w') : ZG X pc ls (.int x :: .ref q :: st) w := z_put hX hd hf hw (fun _ => by rcases hx with h | h <;> subst h <;> rfl) (fun _ => by rcases hx with h | h <;> subst h <;> rfl) hl hfs hw' kk
/-! arrays -/
theorem z_iald {q n' j : Nat} {f : Nat → Int32} (hX : ZOK X oc B d) (hd : decode B pc = .ok (.iaload, 1)) (hw : w[q]? = some (.inl (0, n', .inl f))) (hj : j < n') (hn : n' < 2147483648) (kk : ZG X (pc + 1) ls (.int (f j) :: st) w) : ZG X pc ls (.int (nI j) :: .ref q :: st) w := by
  obtain ⟨p, l, e, R, s, m, args, below, meth, c, D, cy, ad, A, n, cells, slots, Q⟩ := X
  intro H locs lsA h1 h2 h3 h4
  obtain ⟨hx, hb, hown, hts, hK, -⟩ := hX
  refine va_iald hx hb hK h2 q 0 (zcw_get hw) rfl (vp_in_nI hj hn) hd ?_
  rw [nI_clamp (by omega)]
  exact kk H locs lsA h1 h2 h3 h4
theorem z_zald {q n' j : Nat} {f : Nat → Int32} (hX : ZOK X oc B d) (hd : decode B pc = .ok (.baload, 1)) (hw : w[q]? = some (.inl (2, n', .inl f))) (hj : j < n') (hn : n' < 2147483648) (kk : ZG X (pc + 1) ls (.int (f j) :: st) w) : ZG X pc ls (.int (nI j) :: .ref q :: st) w := by
  obtain ⟨p, l, e, R, s, m, args, below, meth, c, D, cy, ad, A, n, cells, slots, Q⟩ := X
  intro H locs lsA h1 h2 h3 h4
  obtain ⟨hx, hb, hown, hts, hK, -⟩ := hX
  refine va_zald hx hb hK h2 q 2 (zcw_get hw) rfl (vp_in_nI hj hn) hd ?_
  rw [nI_clamp (by omega)]
  exact kk H locs lsA h1 h2 h3 h4
theorem z_lald {q n' j : Nat} {f : Nat → Int64} (hX : ZOK X oc B d) (hd : decode B pc = .ok (.laload, 1)) (hw : w[q]? = some (.inl (1, n', .inr f))) (hj : j < n') (hn : n' < 2147483648) (kk : ZG X (pc + 1) ls (.long (f j) :: st) w) : ZG X pc ls (.int (nI j) :: .ref q :: st) w := by
  obtain ⟨p, l, e, R, s, m, args, below, meth, c, D, cy, ad, A, n, cells, slots, Q⟩ := X
  intro H locs lsA h1 h2 h3 h4
  obtain ⟨hx, hb, hown, hts, hK, -⟩ := hX
  refine va_lald hx hb hK h2 q 1 (zcw_get hw) rfl (vp_in_nI hj hn) hd ?_
  rw [nI_clamp (by omega)]
  exact kk H locs lsA h1 h2 h3 h4
theorem z_iast {q n' j : Nat} {f : Nat → Int32} {x : Int32} {w' : ZW} (hX : ZOK X oc B d) (hd : decode B pc = .ok (.iastore, 1)) (hw : w[q]? = some (.inl (0, n', .inl f))) (hj : j < n') (hn : n' < 2147483648) (hw' : w.set q (.inl (0, n', .inl (upd f j x))) = w') (kk : ZG X (pc + 1) ls st w') : ZG X pc ls (.int x :: .int (nI j) :: .ref q :: st) w := by
  subst hw'
  obtain ⟨p, l, e, R, s, m, args, below, meth, c, D, cy, ad, A, n, cells, slots, Q⟩ := X
  intro H locs lsA h1 h2 h3 h4
  obtain ⟨hx, hb, hown, hts, hK, hI, hA, -⟩ := hX
  refine va_iast hx hb hK h2 (hI.D hA h1) h3 q 0 (zcw_get hw) rfl (vp_in_nI hj hn) hd (fun H1 locs1 g1 g2 g3 => ?_)
  rw [nI_clamp (by omega)] at g1
  refine kk H1 locs1 lsA (by rw [List.length_set]; exact h1) ?_ g3 h4
  rw [← zcw_set]
  exact g1
theorem z_last {q n' j : Nat} {f : Nat → Int64} {x : Int64} {w' : ZW} (hX : ZOK X oc B d) (hd : decode B pc = .ok (.lastore, 1)) (hw : w[q]? = some (.inl (1, n', .inr f))) (hj : j < n') (hn : n' < 2147483648) (hw' : w.set q (.inl (1, n', .inr (vp_updL f j x))) = w') (kk : ZG X (pc + 1) ls st w') : ZG X pc ls (.long x :: .int (nI j) :: .ref q :: st) w := by
  subst hw'
  obtain ⟨p, l, e, R, s, m, args, below, meth, c, D, cy, ad, A, n, cells, slots, Q⟩ := X
  intro H locs lsA h1 h2 h3 h4
  obtain ⟨hx, hb, hown, hts, hK, hI, hA, -⟩ := hX
  refine va_last hx hb hK h2 (hI.D hA h1) h3 q 1 (zcw_get hw) rfl (vp_in_nI hj hn) hd (fun H1 locs1 g1 g2 g3 => ?_)
  rw [nI_clamp (by omega)] at g1
  refine kk H1 locs1 lsA (by rw [List.length_set]; exact h1) ?_ g3 h4
  rw [← zcw_set]
  exact g1
theorem z_zast {q n' j : Nat} {f : Nat → Int32} {x : Int32} {w' : ZW} (hX : ZOK X oc B d) (hd : decode B pc = .ok (.bastore, 1)) (hw : w[q]? = some (.inl (2, n', .inl f))) (hj : j < n') (hn : n' < 2147483648) (hx01 : x = 0 ∨ x = 1) (hw' : w.set q (.inl (2, n', .inl (upd f j x))) = w') (kk : ZG X (pc + 1) ls st w') : ZG X pc ls (.int x :: .int (nI j) :: .ref q :: st) w := by
  subst hw'
  obtain ⟨p, l, e, R, s, m, args, below, meth, c, D, cy, ad, A, n, cells, slots, Q⟩ := X
  intro H locs lsA h1 h2 h3 h4
  obtain ⟨hx, hb, hown, hts, hK, hI, hA, -⟩ := hX
  refine va_zast hx hb hK h2 (hI.D hA h1) h3 q 2 (zcw_get hw) rfl (vp_in_nI hj hn) hd (fun H1 locs1 g1 g2 g3 => ?_)
  rw [nI_clamp (by omega)] at g1
  have hnar : vp_nar .boolean x = x := by rcases hx01 with h | h <;> subst h <;> decide +kernel
  rw [hnar] at g1
  refine kk H1 locs1 lsA (by rw [List.length_set]; exact h1) ?_ g3 h4
  rw [← zcw_set]
  exact g1
theorem z_ilen {q n' t : Nat} {f : (Nat → Int32) ⊕ (Nat → Int64)} (hX : ZOK X oc B d) (hd : decode B pc = .ok (.arraylength, 1)) (hw : w[q]? = some (.inl (t, n', f))) (ht : t < 3) (kk : ZG X (pc + 1) ls (.int (nI n') :: st) w) : ZG X pc ls (.ref q :: st) w := by
  obtain ⟨p, l, e, R, s, m, args, below, meth, c, D, cy, ad, A, n, cells, slots, Q⟩ := X
  intro H locs lsA h1 h2 h3 h4
  obtain ⟨hx, hb, hown, hts, hK, -⟩ := hX
  have hty : ∃ ty, (ztys cy)[t]? = some (cy t, ty) := by
    rcases (show t = 0 ∨ t = 1 ∨ t = 2 by omega) with h | h | h <;> subst h <;> exact ⟨_, rfl⟩
  obtain ⟨ty, hty⟩ := hty
  cases f with
  | inl f => exact va_alen hx hb hK h2 q t (zcw_get hw) hty (v := nI n') rfl hd (kk H locs lsA h1 h2 h3 h4)
  | inr f => exact va_alen hx hb hK h2 q t (zcw_get hw) hty (v := nI n') rfl hd (kk H locs lsA h1 h2 h3 h4)
theorem z_aald {q ci j r : Nat} {fs : List Value} (hX : ZOK X oc B d) (hd : decode B pc = .ok (.aaload, 1)) (hw : w[q]? = some (.inr (ci, fs))) (hci : ci = 100 ∨ ci = 101 ∨ ci = 102) (hj : fs[j]? = some (.ref r)) (hn : fs.length < 2147483648) (kk : ZG X (pc + 1) ls (.ref r :: st) w) : ZG X pc ls (.int (nI j) :: .ref q :: st) w := by
  obtain ⟨p, l, e, R, s, m, args, below, meth, c, D, cy, ad, A, n, cells, slots, Q⟩ := X
  intro H locs lsA h1 h2 h3 h4
  obtain ⟨hx, hb, hown, hts, hK, -⟩ := hX
  have hlt : j < fs.length := (List.getElem?_eq_some_iff.mp hj).1
  have key : ∃ C, (ztys cy)[ci - 97]? = some (cy (ci - 97), .object C) := by
    rcases hci with h | h | h <;> subst h <;> exact ⟨_, rfl⟩
  obtain ⟨C, hC⟩ := key
  refine va_aldq hx hb hK h2 q (ci - 97) (C := C) ((zcw_get hw).trans (congrArg some (congrArg (Prod.mk (ad q)) (zce_row (by omega))))) hC (vp_in_nI hlt hn) hd ?_
  rw [nI_clamp (by omega)]
  have hv : va_rf ((fs[j]?).bind (zr ad)) = .ref (ad r) := by rw [hj]; rfl
  rw [hv]
  exact kk H locs lsA h1 h2 h3 h4
end ZH
end
section
/-! ===== statics, returns, contracts, calls ===== -/
theorem zst.kept {nm : String} {xs : List Nat} {k : Nat} {ad : Nat → Nat} {A : Nat → Prop} {U : State} {H H1 : Heap} (h : zst nm xs k ad A U H) (hq : ∀ a : Nat, a < H.size → ¬ A a → H1[a]? = H[a]?) : zst nm xs k ad A U H1 := ⟨h.1.kept hq, h.2.kept hq⟩
theorem zst.narrow {nm : String} {xs : List Nat} {k : Nat} {ad : Nat → Nat} {A A' : Nat → Prop} {U : State} {H : Heap} (h : zst nm xs k ad A U H) (hq : ∀ q, A' q → A q) : zst nm xs k ad A' U H := ⟨h.1.narrow hq, h.2.narrow hq⟩
theorem zst.moved {nm : String} {xs : List Nat} {k : Nat} {ad : Nat → Nat} {A : Nat → Prop} {u U : State} {H : Heap} (hvm : u.vm.Alike U.vm) (h : zst nm xs k ad A u H) : zst nm xs k ad A U H := ⟨h.1.moved hvm, h.2.moved hvm⟩
theorem znw.warm {s U : State} (hW : s.WarmedH U.vm) (h : znw s) : znw U := ⟨h.1.warmF hW, h.2.1.warmF hW, h.2.2.1.warmF hW, h.2.2.2.1.warmF hW, h.2.2.2.2.warmF hW⟩
theorem znw.same {u U : State} (hv : u.vm = U.vm) (h : znw u) : znw U := ⟨h.1.same rfl hv, h.2.1.same rfl hv, h.2.2.1.same rfl hv, h.2.2.2.1.same rfl hv, h.2.2.2.2.same rfl hv⟩
theorem ZS.go {ad : Nat → Nat} {A A' : Nat → Prop} {s U : State} {H H1 : Heap} (h : ZS ad A s H) (hq : ∀ a : Nat, a < H.size → ¬ A a → H1[a]? = H[a]?) (hA : ∀ q, A' q → A q) (hW : s.WarmedH U.vm) : ZS ad A' U H1 :=
  ⟨((h.1.kept hq).narrow hA).moved hW.alike, ((h.2.1.kept hq).narrow hA).moved hW.alike, ((h.2.2.1.kept hq).narrow hA).moved hW.alike, h.2.2.2.warm hW⟩
theorem ZS.re {ad ad' : Nat → Nat} {A : Nat → Prop} {s : State} {H : Heap} (h : ZS ad A s H) (e0 : ad' 1000 = ad 1000) (e1 : ad' 1001 = ad 1001) (e2 : ad' 1002 = ad 1002) : ZS ad' A s H := by
  unfold ZS zst at *
  rw [e0, e1, e2]
  exact h
section ZT
variable {X : ZX} {oc d pc : Nat} {B : ByteArray} {ls : List (Option Value)} {st : List Value} {w : ZW}
theorem z_aaldA {q j r : Nat} {fs : List Value} (hX : ZOK X oc B d) (hd : decode B pc = .ok (.aaload, 1)) (hw : w[q]? = some (.inr (103, fs))) (hj : fs[j]? = some (.ref r)) (hn : fs.length < 2147483648) (kk : ZG X (pc + 1) ls (.ref r :: st) w) : ZG X pc ls (.int (nI j) :: .ref q :: st) w := by
  obtain ⟨p, l, e, R, s, m, args, below, meth, c, D, cy, ad, A, n, cells, slots, Q⟩ := X
  intro H locs lsA h1 h2 h3 h4
  obtain ⟨hx, hb, hown, hts, hK, -⟩ := hX
  have hlt : j < fs.length := (List.getElem?_eq_some_iff.mp hj).1
  have hv : va_rf ((fs[j]?).bind (zr ad)) = .ref (ad r) := by rw [hj]; rfl
  have ha : (zcw cy ad w)[q]? = some (ad q, .inl (cy 6, fs.length, .inr (.inr (.inr (.inr (fun j => (fs[j]?).bind (zr ad))))))) := (zcw_get hw).trans (congrArg some (congrArg (Prod.mk (ad q)) (zce_row (by omega))))
  have hin : vp_in (nI j) fs.length := vp_in_nI hlt hn
  exact W.aald (v := .ref (ad r)) (ty := .array .long) hx hb (h2 q _ ha) ((hK.2 6 _ rfl).1 fs.length (fun j => va_rf ((fs[j]?).bind (zr ad)))) rfl (fun q => by cases q) (by show ¬ (nI j < 0 ∨ (arrV _ _ _).slots.size ≤ _); rw [arrV_size]; exact hin) (by show (arrV _ _ _).slots[_]? = _; rw [nI_clamp (by omega), arrV_read _ _ hlt, hv]) rfl rfl hd (kk H locs lsA h1 h2 h3 h4)
theorem z_stat {nm : String} {xs : List Nat} {k idx : Nat} (hX : ZOK X oc B d) (hd : decode B pc = .ok (.getstatic idx, 3)) (hk : ∀ (ad : Nat → Nat) (A : Nat → Prop) (U : State) (H : Heap), ZS ad A U H → zst nm xs k ad A U H ∧ va_Nw (.fieldLinkNest (zcn oc) idx "WindBoxes" nm "[I" "WindBoxes") U) (kk : ZG X (pc + 3) ls (.ref k :: st) w) : ZG X pc ls st w := by
  obtain ⟨p, l, e, R, s, m, args, below, meth, c, D, cy, ad, A, n, cells, slots, Q⟩ := X
  intro H locs lsA h1 h2 h3 h4
  obtain ⟨hx, hb, hown, hts, hK, hI, hA, hS, -⟩ := hX
  obtain ⟨⟨hz, -⟩, hn⟩ := hk ad A s s.heap hS
  exact va_getsN hx hb hz h3 hown (va_Nw.use rfl hn) (fun _ h => h) hd (kk H locs lsA h1 h2 h3 h4)
theorem z_stld {nm : String} {xs : List Nat} {k j : Nat} (hX : ZOK X oc B d) (hd : decode B pc = .ok (.iaload, 1)) (hk : ∀ (ad : Nat → Nat) (A : Nat → Prop) (U : State) (H : Heap), ZS ad A U H → zst nm xs k ad A U H) (hj : j < xs.length) (hn : xs.length < 2147483648) (kk : ZG X (pc + 1) ls (.int (nI (xs.getD j 0)) :: st) w) : ZG X pc ls (.int (nI j) :: .ref k :: st) w := by
  obtain ⟨p, l, e, R, s, m, args, below, meth, c, D, cy, ad, A, n, cells, slots, Q⟩ := X
  intro H locs lsA h1 h2 h3 h4
  obtain ⟨hx, hb, hown, hts, hK, hI, hA, hS, -⟩ := hX
  obtain ⟨-, hT⟩ := hk ad A s s.heap hS
  exact va_ti hx hb hT h3 (vp_in_nI hj hn) (v := .int (nI (xs.getD j 0))) (by rw [nI_clamp (by omega)]) hd (kk H locs lsA h1 h2 h3 h4)
end ZT
/-! returns -/
def ZQc (D : va_G) (cy ad : Nat → Nat) (n : Nat) (A : Nat → Prop) (post : Option Value → ZW → Prop) : Array Value → State → Outcome → State → Prop := fun _ st oc t => (∃ (r : Option Value) (w : ZW), oc = .returned (r.map (zv ad)) ∧ post r w ∧ w.length = n ∧ va_P D vwCl (zcw cy ad w) t.heap) ∧ va_F A st t
def ZRet (X : ZX) (ret : Option FieldType) (post : Option Value → ZW → Prop) : Prop := match X with
  | (p, l, e, R, s, m, args, below, meth, c, D, cy, ad, A, n, cells, slots, Q) => meth.sig.returnType = ret ∧ meth.locks = false ∧ Q = MQ below (ZQc D cy ad n A post) args s cells slots A
section ZU
variable {X : ZX} {oc d pc : Nat} {B : ByteArray} {ls : List (Option Value)} {st : List Value} {w : ZW} {post : Option Value → ZW → Prop}
theorem z_iret {x : Int32} (hX : ZOK X oc B d) (hR : ZRet X (some .int) post) (hd : decode B pc = .ok (.ireturn, 1)) (hp : post (some (.int x)) w) : ZG X pc ls [.int x] w := by
  obtain ⟨p, l, e, R, s, m, args, below, meth, c, D, cy, ad, A, n, cells, slots, Q⟩ := X
  intro H locs lsA h1 h2 h3 h4
  obtain ⟨hr, hlk, hQ⟩ := hR
  subst hQ
  exact W.iret hX.ex hX.by hr (fun t ht _ => ⟨⟨some (.int x), w, rfl, hp, h1, by rw [ht]; exact h2⟩, h3.F ht⟩) h3.2.2 hd hlk
theorem z_lret {x : Int64} (hX : ZOK X oc B d) (hR : ZRet X (some .long) post) (hd : decode B pc = .ok (.lreturn, 1)) (hp : post (some (.long x)) w) : ZG X pc ls [.long x] w := by
  obtain ⟨p, l, e, R, s, m, args, below, meth, c, D, cy, ad, A, n, cells, slots, Q⟩ := X
  intro H locs lsA h1 h2 h3 h4
  obtain ⟨hr, hlk, hQ⟩ := hR
  subst hQ
  exact W.lret hX.ex hX.by hr (fun t ht _ => ⟨⟨some (.long x), w, rfl, hp, h1, by rw [ht]; exact h2⟩, h3.F ht⟩) h3.2.2 hd hlk
theorem z_zret {x : Int32} (hX : ZOK X oc B d) (hR : ZRet X (some .boolean) post) (hd : decode B pc = .ok (.ireturn, 1)) (hx01 : x = 0 ∨ x = 1) (hp : post (some (.int x)) w) : ZG X pc ls [.int x] w := by
  obtain ⟨p, l, e, R, s, m, args, below, meth, c, D, cy, ad, A, n, cells, slots, Q⟩ := X
  intro H locs lsA h1 h2 h3 h4
  obtain ⟨hr, hlk, hQ⟩ := hR
  subst hQ
  exact W.zret hX.ex hX.by hr (by rcases hx01 with h | h <;> subst h <;> rfl) (fun t ht _ => ⟨⟨some (.int x), w, rfl, hp, h1, by rw [ht]; exact h2⟩, h3.F ht⟩) h3.2.2 hd hlk
theorem z_vret (hX : ZOK X oc B d) (hR : ZRet X none post) (hd : decode B pc = .ok (.return_, 1)) (hp : post none w) : ZG X pc ls [] w := by
  obtain ⟨p, l, e, R, s, m, args, below, meth, c, D, cy, ad, A, n, cells, slots, Q⟩ := X
  intro H locs lsA h1 h2 h3 h4
  obtain ⟨hr, hlk, hQ⟩ := hR
  subst hQ
  exact W.vret hX.ex hX.by hr (fun t ht _ => ⟨⟨none, w, rfl, hp, h1, by rw [ht]; exact h2⟩, h3.F ht⟩) h3.2.2 hd hlk
end ZU
/-! a method's contract over a world of places -/
def zrm (d : Nat) : Room := { frames := d, cells := 0, slots := 0, locals := 40 * d }
def ZPre (D : va_G) (cy ad : Nat → Nat) (w : ZW) (sz : Nat) (U : State) : Prop := U.heap.size = sz ∧ va_P D vwCl (zcw cy ad w) U.heap ∧ va_K D vwCl (ztys cy) U ∧ ZInj ad w.length ∧ ZS ad (va_A (zcw cy ad w) sz) U U.heap
def ZC (l : Launch) (y : MethodName) (B : ByteArray) (maxL : Nat) (ret : Option FieldType) (d : Nat) (av : List Value) (w : ZW) (post : Option Value → ZW → Prop) : Prop := ∀ (D : va_G) (cy ad : Nat → Nat) (sz : Nat), Met l y (.code y B maxL ret :: zwd) (zrm d) (va_Pc (av.map (zv ad)) (ZPre D cy ad w sz)) (ZQc D cy ad w.length (va_A (zcw cy ad w) sz) post) 0 0 (va_A (zcw cy ad w) sz)
theorem zA_in {cy ad : Nat → Nat} {w : ZW} {sz i : Nat} (h : i < w.length) : va_A (zcw cy ad w) sz (ad i) := by
  obtain ⟨e, he⟩ : ∃ e, w[i]? = some e := ⟨w[i], List.getElem?_eq_getElem h⟩
  exact va_A.in (zcw_get (cy := cy) (ad := ad) he)
theorem zc_intro {l : Launch} {y : MethodName} {B : ByteArray} {maxL : Nat} {ret : Option FieldType} {d oc : Nat} {av : List Value} {w : ZW} {post : Option Value → ZW → Prop} (hy : plainName y.cls = true) (hoc : y.cls = zcn oc) (hav : (zen av).length ≤ maxL) (body : ∀ X : ZX, ZOK X oc B d → ZRet X ret post → ZG X 0 (zent maxL av) [] w) : ZC l y B maxL ret d av w post := by
  intro D cy ad sz
  refine Met.ofW (cc := B) (maxL := maxL) (ret := ret) hy rfl ?_
  intro p e s m args below meth c s₁ B0 hml hv
  obtain ⟨rfl, hsz, hP, hK, hI, hS⟩ := hv
  have hts := atoms_spec (ws := .code y B maxL ret :: zwd) B0.pre
  have hown : s.vm.findClass (zcn oc) = some m.cls := by rw [← hoc]; exact findClass_of_methodNamed B0.named
  subst hsz
  have hb := body (p, l, e, (headSpec (.code y B maxL ret :: zwd) (zrm d)).room, s, m, (av.map (zv ad)).toArray, below, meth, c, D, cy, ad, va_A (zcw cy ad w) s.heap.size, w.length, 0, 0, MQ below (ZQc D cy ad w.length (va_A (zcw cy ad w) s.heap.size) post) (av.map (zv ad)).toArray s 0 0 (va_A (zcw cy ad w) s.heap.size))
    ⟨B0.exec, B0.bytes, hown, fun w hw => hts w (List.mem_cons_of_mem _ hw), hK, hI, fun i hi => zA_in hi, hS, ⟨Nat.le_refl _, Nat.le_refl _⟩, ⟨Nat.zero_le _, Nat.zero_le _⟩, fun q h => Or.inr h⟩ ⟨B0.returns, B0.notSynchronized, rfl⟩
  rw [lg_entry_eq]
  exact hb s.heap [] _ rfl hP va_S.rf (by rw [hml]; exact zent_ok ad av maxL hav)
/-! a callee's world is a part of the caller's: its place k is the caller's place (is)[k] -/
def zg (is : List Nat) (k : Nat) : Nat := is.getD k k
def zre (g : Nat → Nat) (e : ZE) : ZE := match e with
  | .inl a => .inl a
  | .inr (ci, fs) => .inr (ci, fs.map (zv g))
def zput (g : Nat → Nat) : List Nat → ZW → ZW → ZW
  | i :: is, w, e :: w1 => zput g is (w.set i (zre g e)) w1
  | _, w, _ => w
theorem zce_zre (cy ad g : Nat → Nat) (e : ZE) : zce cy ad (zre g e) = zce cy (fun k => ad (g k)) e := by
  match e with
  | .inl (t, n, .inl f) => rfl
  | .inl (t, n, .inr f) => rfl
  | .inr (ci, fs) =>
    by_cases h : ci < 100
    · rw [zce_obj h]
      show zce cy ad (.inr (ci, fs.map (zv g))) = _
      rw [zce_obj h, List.map_map]
      congr 2
      apply List.map_congr_left
      intro v _
      exact zv_zv ad g v
    · rw [zce_row h]
      show zce cy ad (.inr (ci, fs.map (zv g))) = _
      rw [zce_row h, List.length_map]
      congr 7
      funext j
      rw [List.getElem?_map]
      cases fs[j]? with
      | none => rfl
      | some v => exact zr_zv ad g v
theorem zput_len (g : Nat → Nat) : ∀ (is : List Nat) (w w1 : ZW), (zput g is w w1).length = w.length
  | [], w, w1 => by cases w1 <;> rfl
  | i :: is, w, [] => rfl
  | i :: is, w, e :: w1 => by
    show (zput g is (w.set i (zre g e)) w1).length = _
    rw [zput_len g is, List.length_set]
theorem zput_out (g : Nat → Nat) : ∀ (is : List Nat) (w w1 : ZW) (k : Nat), k ∉ is → (zput g is w w1)[k]? = w[k]?
  | [], w, w1, k, _ => by cases w1 <;> rfl
  | i :: is, w, [], k, _ => rfl
  | i :: is, w, e :: w1, k, h => by
    show (zput g is (w.set i (zre g e)) w1)[k]? = _
    rw [zput_out g is _ _ k (fun q => h (List.mem_cons_of_mem _ q)), List.getElem?_set_ne (fun q => h (by rw [q]; exact List.mem_cons_self))]
theorem zput_in (g : Nat → Nat) : ∀ (is : List Nat) (w w1 : ZW) (i k : Nat) (e : ZE), va_nd is = true → is[i]? = some k → k < w.length → w1[i]? = some e → (zput g is w w1)[k]? = some (zre g e)
  | [], w, w1, i, k, e, _, h, _, _ => by simp at h
  | b :: is, w, [], i, k, e, _, _, _, h => by simp at h
  | b :: is, w, e0 :: w1, i, k, e, hn, h, hk, he => by
    simp only [va_nd, Bool.and_eq_true, decide_eq_true_eq] at hn
    show (zput g is (w.set b (zre g e0)) w1)[k]? = _
    cases i with
    | zero =>
      cases h
      cases he
      rw [zput_out g is _ _ _ hn.1, List.getElem?_set_self hk]
    | succ i => exact zput_in g is _ w1 i k e hn.2 h (by rw [List.length_set]; exact hk) he
theorem zsub_at {w wc : ZW} {is : List Nat} {g : Nat → Nat} (h : is.map (fun i => w[i]?) = wc.map (fun e => some (zre g e))) {k : Nat} {e : ZE} (hk : wc[k]? = some e) : ∃ i, is[k]? = some i ∧ w[i]? = some (zre g e) := by
  have h1 : (is.map (fun i => w[i]?))[k]? = some (some (zre g e)) := by rw [h, List.getElem?_map, hk]; rfl
  rw [List.getElem?_map] at h1
  cases hi : is[k]? with
  | none => rw [hi] at h1; cases h1
  | some i => rw [hi] at h1; exact ⟨i, rfl, Option.some.inj h1⟩
theorem zsub_len {w wc : ZW} {is : List Nat} {g : Nat → Nat} (h : is.map (fun i => w[i]?) = wc.map (fun e => some (zre g e))) : is.length = wc.length := by
  have := congrArg List.length h
  rw [List.length_map, List.length_map] at this
  exact this
section ZV
variable {X : ZX} {oc d pc : Nat} {B : ByteArray} {ls : List (Option Value)} {w : ZW}
/-- behind a call's run: the callee's new cells stand in the caller's world -/
theorem z_back {p : Program} {l : Launch} {e : Env} {R : Room} {s : State} {m : MethodId} {args : Array Value} {below : List Frame} {meth : Method} {c : Code} {D : va_G} {cy ad : Nat → Nat} {A : Nat → Prop} {n cells slots : Nat} {Q : State → Prop} {H : Heap} {locs : List Loc} {lsA : Array Slot} {st0 rest : List Value} {is : List Nat} {wc : ZW} {post : Option Value → ZW → Prop} {a : Array Value}
    (hI : ZInj ad n) (hA : ∀ i, i < n → A (ad i)) (hA2 : ∀ q, s.heap.size ≤ q → A q) (h1 : w.length = n) (h2 : va_P D vwCl (zcw cy ad w) H) (h3 : va_S A s.heap H locs) (h4 : ZL ad c.maxLocals ls lsA) (hsub : is.map (fun i => w[i]?) = wc.map (fun e => some (zre (zg is) e))) (hnd : va_nd is = true)
    (hr : va_Run p l e R s m args below meth c H locs cells slots 0 0 (F0 m pc lsA st0) (rest.map (zv ad)) (ZQc D cy (fun k => ad (zg is k)) wc.length (va_A (zcw cy (fun k => ad (zg is k)) wc) H.size) post a) (va_A (zcw cy (fun k => ad (zg is k)) wc) H.size))
    (kk : ∀ (r : Option Value) (w1 : ZW), post r w1 → w1.length = wc.length → ZG (p, l, e, R, s, m, args, below, meth, c, D, cy, ad, A, n, cells, slots, Q) (pc + 3) ls ((r.map (zv (zg is))).toList ++ rest) (zput (zg is) is w w1)) : W p l e R s m args below meth c H locs cells slots Q (F0 m pc lsA st0) := by
  have hlen := zsub_len hsub
  have hg : ∀ k, k < wc.length → ∃ i, is[k]? = some i ∧ zg is k = i ∧ i < n := by
    intro k hk
    obtain ⟨i, h5, h6⟩ := zsub_at hsub (List.getElem?_eq_getElem hk)
    refine ⟨i, h5, by unfold zg; rw [List.getD_eq_getElem?_getD, h5]; rfl, ?_⟩
    rw [← h1]
    exact (List.getElem?_eq_some_iff.mp h6).1
  have hAin : ∀ q, va_A (zcw cy (fun k => ad (zg is k)) wc) H.size q → A q := by
    intro q hq
    rcases hq with ⟨k, e, hk⟩ | hq
    · have hl := (List.getElem?_eq_some_iff.mp hk).1
      rw [zcw_len] at hl
      rw [zcw_at] at hk
      obtain ⟨e', -, h6⟩ := Option.map_eq_some_iff.mp hk
      obtain ⟨i, -, h7, h8⟩ := hg k hl
      have h9 : ad (zg is k) = q := congrArg Prod.fst h6
      rw [← h9, h7]
      exact hA i h8
    · exact hA2 q (Nat.le_trans h3.1 hq)
  intro T hT Xs
  obtain ⟨v, st₀, t, T', L, h0, X', hL, e1, e2, ⟨⟨r, w1, hv, hp, hlw, hb⟩, hz, hk⟩, stp⟩ := hr T hT Xs
  have hv' : v = r.map (zv (fun k => ad (zg is k))) := Outcome.returned.inj hv
  subst hv'
  rw [h0] at hz hk
  have hP1 : va_P D vwCl (zcw cy ad (zput (zg is) is w w1)) T'.heap := by
    intro k q hq
    rw [zcw_at] at hq
    obtain ⟨e', h5, h6⟩ := Option.map_eq_some_iff.mp hq
    have hkn : k < w.length := by
      have := (List.getElem?_eq_some_iff.mp h5).1
      rw [zput_len] at this
      exact this
    rw [e1]
    by_cases hkm : k ∈ is
    · obtain ⟨i, hi⟩ := List.getElem?_of_mem hkm
      have hil : i < w1.length := by
        have := (List.getElem?_eq_some_iff.mp hi).1
        omega
      have h7 := zput_in (zg is) is w w1 i k w1[i] hnd hi hkn (List.getElem?_eq_getElem hil)
      rw [h5] at h7
      cases h7
      have h8 := hb i (ad (zg is i), zce cy (fun k => ad (zg is k)) w1[i]) (zcw_get (List.getElem?_eq_getElem hil))
      have h9 : zg is i = k := by unfold zg; rw [List.getD_eq_getElem?_getD, hi]; rfl
      rw [h9, ← zce_zre cy ad (zg is)] at h8
      rw [← h6]
      exact h8
    · rw [zput_out (zg is) is w w1 k hkm] at h5
      have h8 := h2 k (ad k, zce cy ad e') (zcw_get h5)
      rw [← h6]
      refine h8.kept (hk (ad k) h8.lt (fun hin => ?_))
      rcases hin with ⟨k2, e2, hk2⟩ | hin
      · have hl := (List.getElem?_eq_some_iff.mp hk2).1
        rw [zcw_len] at hl
        rw [zcw_at] at hk2
        obtain ⟨e3, -, h10⟩ := Option.map_eq_some_iff.mp hk2
        obtain ⟨i, h11, h12, h13⟩ := hg k2 hl
        have h14 : ad (zg is k2) = ad k := congrArg Prod.fst h10
        rw [h12] at h14
        have h15 := hI i k h13 (by omega) h14
        subst h15
        exact hkm (List.mem_of_getElem? h11)
      · have h16 : ad k < H.size := h8.lt
        omega
  have hS1 : va_S A s.heap T'.heap (locs ++ L) := by
    refine ⟨Nat.le_trans h3.1 (by rw [e1]; exact hz), fun q h5 h6 => ?_, fun q hq => ?_⟩
    · rw [e1, hk q (Nat.lt_of_lt_of_le h5 h3.1) (fun z => h6 (hAin q z))]
      exact h3.2.1 q h5 h6
    · rcases List.mem_append.mp hq with h | h
      · exact h3.2.2 q h
      · exact hAin _ (hL q h)
  obtain ⟨t2, a1, b1⟩ := kk r w1 hp hlw T'.heap (locs ++ L) lsA (by rw [zput_len]; exact h1) hP1 hS1 h4 T' rfl X'
  refine ⟨t2, stp t2 ?_, b1⟩
  have hst : (((r.map (zv (zg is))).toList ++ rest).map (zv ad)) = (r.map (zv (fun k => ad (zg is k)))).toList ++ rest.map (zv ad) := by
    rw [List.map_append]
    congr 1
    cases r with
    | none => rfl
    | some v => show [zv ad (zv (zg is) v)] = _; rw [zv_zv]; rfl
  rw [hst] at a1
  exact a1
end ZV
end
section
/-! ===== invoke ===== -/
def ZMV (oc idx : Nat) (C : String) (y : MethodName) (By : ByteArray) (maxL : Nat) (ret : Option FieldType) (np : Nat) : Prop := (Cond.methodLink (zcn oc) idx y ∈ zwd ∧ Cond.instanceMethod y ∈ zwd ∧ Cond.selects C y y ∈ zwd ∧ Cond.initialized C ∈ zwd ∧ Cond.code y By maxL ret ∈ zwd) ∧ (y.cls = C ∧ y.cls ≠ "java/lang/invoke/MethodHandle" ∧ y.cls ≠ "java/lang/invoke/VarHandle" ∧ (parseMethodDescriptor y.desc).map (fun d => d.parameters.length) = some np) ∧ maxL ≤ 20
def ZMS (oc idx : Nat) (y : MethodName) (By : ByteArray) (maxL : Nat) (ret : Option FieldType) (np : Nat) : Prop := (Cond.methodLink (zcn oc) idx y ∈ zwd ∧ Cond.static y ∈ zwd ∧ Cond.initialized y.cls ∈ zwd ∧ Cond.code y By maxL ret ∈ zwd) ∧ (y.cls ≠ "java/lang/invoke/MethodHandle" ∧ y.cls ≠ "java/lang/invoke/VarHandle" ∧ (parseMethodDescriptor y.desc).map (fun d => d.parameters.length) = some np) ∧ maxL ≤ 20
theorem zwd_good {w : Cond} (h : w ∈ zwd) : w ∈ zwd ∧ ((w.onTables && w.keeps) = true ∨ ∃ ty, w = .arrayClass ty) := ⟨h, good_of_word (List.mem_filter.mp h).2⟩
theorem zgoodV {oc idx : Nat} {C : String} {y : MethodName} {By : ByteArray} {maxL : Nat} {ret : Option FieldType} {np : Nat} (h : ZMV oc idx C y By maxL ret np) : GoodIn zwd (wsV (zcn oc) idx C y (.code y By maxL ret :: zwd)) := by
  intro w hw
  apply zwd_good
  obtain ⟨⟨g1, g2, g3, g4, g5⟩, -⟩ := h
  unfold wsV at hw
  rcases List.mem_append.mp hw with hw | hw
  · simp only [List.mem_cons, List.not_mem_nil, or_false] at hw
    rcases hw with rfl | rfl | rfl | rfl <;> assumption
  · rcases List.mem_cons.mp hw with rfl | hw <;> assumption
theorem zgoodS {oc idx : Nat} {y : MethodName} {By : ByteArray} {maxL : Nat} {ret : Option FieldType} {np : Nat} (h : ZMS oc idx y By maxL ret np) : GoodIn zwd (va_wsS (zcn oc) idx y (.code y By maxL ret :: zwd)) := by
  intro w hw
  apply zwd_good
  obtain ⟨⟨g1, g2, g4, g5⟩, -⟩ := h
  unfold va_wsS at hw
  rcases List.mem_append.mp hw with hw | hw
  · simp only [List.mem_cons, List.not_mem_nil, or_false] at hw
    rcases hw with rfl | rfl | rfl <;> assumption
  · rcases List.mem_cons.mp hw with rfl | hw <;> assumption
theorem zblind {av : List Value} {D : va_G} {cy ad : Nat → Nat} {w : ZW} {sz : Nat} : FrameBlind (va_Pc av (ZPre D cy ad w sz)) := by
  intro a U g mk q
  obtain ⟨q0, q1, qP, qK, qI, qS⟩ := q
  exact ⟨q0, q1, qP, va_K.moved (u := U) (U := U.calling g mk a) (Vm.Alike.refl U.vm) qK, qI, ⟨zst.moved (u := U) (U := U.calling g mk a) (Vm.Alike.refl U.vm) qS.1, zst.moved (u := U) (U := U.calling g mk a) (Vm.Alike.refl U.vm) qS.2.1, zst.moved (u := U) (U := U.calling g mk a) (Vm.Alike.refl U.vm) qS.2.2.1, znw.same (u := U) (U := U.calling g mk a) rfl qS.2.2.2⟩⟩
theorem zrs {ad : Nat → Nat} {rest : List Value} (h : (rest.map Value.category).sum ≤ 8) : ((rest.map (zv ad)).map fun v => v.category).sum ≤ 8 := by
  rw [List.map_map]
  have : (rest.map ((fun v => v.category) ∘ zv ad)) = rest.map Value.category := List.map_congr_left (fun v _ => zv_cat ad v)
  rw [this]
  exact h
section ZI
variable {D : va_G} {cy ad : Nat → Nat} {A : Nat → Prop} {n : Nat} {w wc : ZW} {is : List Nat} {s : State} {H : Heap} {locs : List Loc}
/-- the callee's start -/
theorem z_pre {av : List Value} (hI : ZInj ad n) (hA : ∀ i, i < n → A (ad i)) (hA2 : ∀ q, s.heap.size ≤ q → A q) (hK : va_K D vwCl (ztys cy) s) (hS : ZS ad A s s.heap) (h1 : w.length = n) (h2 : va_P D vwCl (zcw cy ad w) H) (h3 : va_S A s.heap H locs) (hsub : is.map (fun i => w[i]?) = wc.map (fun e => some (zre (zg is) e))) (hnd : va_nd is = true) (his : is.length ≤ 1000) :
    ∀ U : State, U.heap = H → s.WarmedH U.vm → va_Pc ((av.map (zv (zg is))).map (zv ad)) (ZPre D cy (fun k => ad (zg is k)) wc H.size) (av.map (zv (fun k => ad (zg is k)))).toArray U := by
  intro U hU hW
  have hg : ∀ k, k < wc.length → ∃ i, is[k]? = some i ∧ zg is k = i ∧ i < n := by
    intro k hk
    obtain ⟨i, h5, h6⟩ := zsub_at hsub (List.getElem?_eq_getElem hk)
    refine ⟨i, h5, by unfold zg; rw [List.getD_eq_getElem?_getD, h5]; rfl, ?_⟩
    rw [← h1]
    exact (List.getElem?_eq_some_iff.mp h6).1
  have hAin : ∀ q, va_A (zcw cy (fun k => ad (zg is k)) wc) H.size q → A q := by
    intro q hq
    rcases hq with ⟨k, e, hk⟩ | hq
    · have hl := (List.getElem?_eq_some_iff.mp hk).1
      rw [zcw_len] at hl
      rw [zcw_at] at hk
      obtain ⟨e', -, h6⟩ := Option.map_eq_some_iff.mp hk
      obtain ⟨i, -, h7, h8⟩ := hg k hl
      have h9 : ad (zg is k) = q := congrArg Prod.fst h6
      rw [← h9, h7]
      exact hA i h8
    · exact hA2 q (Nat.le_trans h3.1 hq)
  have hz : ∀ k, 1000 ≤ k → zg is k = k := by
    intro k hk
    unfold zg
    rw [List.getD_eq_getElem?_getD, List.getElem?_eq_none (by omega)]
    rfl
  refine ⟨?_, by rw [hU], ?_, va_K.moved hW.alike hK, ?_, ?_⟩
  · rw [List.map_map]
    congr 1
    apply List.map_congr_left
    intro v _
    exact (zv_zv ad (zg is) v).symm
  · rw [hU]
    intro k q hq
    rw [zcw_at] at hq
    obtain ⟨e, h5, h6⟩ := Option.map_eq_some_iff.mp hq
    obtain ⟨i, h7, h8⟩ := zsub_at hsub h5
    have h9 : zg is k = i := by unfold zg; rw [List.getD_eq_getElem?_getD, h7]; rfl
    have h10 := h2 i (ad i, zce cy ad (zre (zg is) e)) (zcw_get h8)
    rw [zce_zre, ← h9] at h10
    rw [← h6]
    exact h10
  · intro i j hi hj hij
    obtain ⟨a, h5, h6, h7⟩ := hg i hi
    obtain ⟨b, h8, h9, h10⟩ := hg j hj
    have h11 : ad (zg is i) = ad (zg is j) := hij
    rw [h6, h9] at h11
    have h12 := hI a b h7 h10 h11
    subst h12
    exact va_nd_inj is hnd i j a h5 h8
  · rw [hU]
    exact ((hS.go (U := U) h3.2.1 hAin hW).re (by show ad (zg is 1000) = _; rw [hz _ (by omega)]) (by show ad (zg is 1001) = _; rw [hz _ (by omega)]) (by show ad (zg is 1002) = _; rw [hz _ (by omega)]))
/-- the same, the callee's world being the caller's -/
theorem z_pre0 {av : List Value} (hI : ZInj ad n) (hA : ∀ i, i < n → A (ad i)) (hA2 : ∀ q, s.heap.size ≤ q → A q) (hK : va_K D vwCl (ztys cy) s) (hS : ZS ad A s s.heap) (h1 : w.length = n) (h2 : va_P D vwCl (zcw cy ad w) H) (h3 : va_S A s.heap H locs) :
    ∀ U : State, U.heap = H → s.WarmedH U.vm → va_Pc (av.map (zv ad)) (ZPre D cy ad w H.size) (av.map (zv ad)).toArray U := by
  intro U hU hW
  subst h1
  have hAin : ∀ q, va_A (zcw cy ad w) H.size q → A q := by
    intro q hq
    rcases hq with ⟨k, e, hk⟩ | hq
    · have hl := (List.getElem?_eq_some_iff.mp hk).1
      rw [zcw_len] at hl
      rw [zcw_at] at hk
      obtain ⟨e', -, h6⟩ := Option.map_eq_some_iff.mp hk
      have h9 : ad k = q := congrArg Prod.fst h6
      rw [← h9]
      exact hA k hl
    · exact hA2 q (Nat.le_trans h3.1 hq)
  refine ⟨rfl, by rw [hU], by rw [hU]; exact h2, va_K.moved hW.alike hK, hI, ?_⟩
  rw [hU]
  exact hS.go (U := U) h3.2.1 hAin hW
end ZI
abbrev zpush (r : Option Value) (st : List Value) : List Value := match r with
  | some v => v :: st
  | none => st
abbrev zpushg (g : Nat → Nat) (r : Option Value) (st : List Value) : List Value := match r with
  | some (.int x) => .int x :: st
  | some (.long x) => .long x :: st
  | some v => zv g v :: st
  | none => st
theorem zpush_eq (r : Option Value) (st : List Value) : r.toList ++ st = zpush r st := by cases r <;> rfl
theorem zpushg_eq (g : Nat → Nat) (r : Option Value) (st : List Value) : (r.map (zv g)).toList ++ st = zpushg g r st := by
  cases r with
  | none => rfl
  | some v => cases v <;> rfl
section ZJ
variable {X : ZX} {oc d pc : Nat} {B : ByteArray} {ls : List (Option Value)} {w : ZW}
theorem z_back0 {p : Program} {l : Launch} {e : Env} {R : Room} {s : State} {m : MethodId} {args : Array Value} {below : List Frame} {meth : Method} {c : Code} {D : va_G} {cy ad : Nat → Nat} {A : Nat → Prop} {n cells slots : Nat} {Q : State → Prop} {H : Heap} {locs : List Loc} {lsA : Array Slot} {st0 rest : List Value} {post : Option Value → ZW → Prop} {a : Array Value}
    (hA : ∀ i, i < n → A (ad i)) (hA2 : ∀ q, s.heap.size ≤ q → A q) (h1 : w.length = n) (h3 : va_S A s.heap H locs) (h4 : ZL ad c.maxLocals ls lsA)
    (hr : va_Run p l e R s m args below meth c H locs cells slots 0 0 (F0 m pc lsA st0) (rest.map (zv ad)) (ZQc D cy ad w.length (va_A (zcw cy ad w) H.size) post a) (va_A (zcw cy ad w) H.size))
    (kk : ∀ (r : Option Value) (w1 : ZW), post r w1 → w1.length = w.length → ZG (p, l, e, R, s, m, args, below, meth, c, D, cy, ad, A, n, cells, slots, Q) (pc + 3) ls (r.toList ++ rest) w1) : W p l e R s m args below meth c H locs cells slots Q (F0 m pc lsA st0) := by
  subst h1
  have hAin : ∀ q, va_A (zcw cy ad w) H.size q → A q := by
    intro q hq
    rcases hq with ⟨k, e, hk⟩ | hq
    · have hl := (List.getElem?_eq_some_iff.mp hk).1
      rw [zcw_len] at hl
      rw [zcw_at] at hk
      obtain ⟨e', -, h6⟩ := Option.map_eq_some_iff.mp hk
      have h9 : ad k = q := congrArg Prod.fst h6
      rw [← h9]
      exact hA k hl
    · exact hA2 q (Nat.le_trans h3.1 hq)
  intro T hT Xs
  obtain ⟨v, st₀, t, T', L, h0, X', hL, e1, e2, ⟨⟨r, w1, hv, hp, hlw, hb⟩, hz, hk⟩, stp⟩ := hr T hT Xs
  have hv' : v = r.map (zv ad) := Outcome.returned.inj hv
  subst hv'
  rw [h0] at hz hk
  have hS1 : va_S A s.heap T'.heap (locs ++ L) := by
    refine ⟨Nat.le_trans h3.1 (by rw [e1]; exact hz), fun q h5 h6 => ?_, fun q hq => ?_⟩
    · rw [e1, hk q (Nat.lt_of_lt_of_le h5 h3.1) (fun z => h6 (hAin q z))]
      exact h3.2.1 q h5 h6
    · rcases List.mem_append.mp hq with h | h
      · exact h3.2.2 q h
      · exact hAin _ (hL q h)
  obtain ⟨t2, a1, b1⟩ := kk r w1 hp hlw T'.heap (locs ++ L) lsA hlw (by rw [e1]; exact hb) hS1 h4 T' rfl X'
  refine ⟨t2, stp t2 ?_, b1⟩
  have hst : (r.toList ++ rest).map (zv ad) = (r.map (zv ad)).toList ++ rest.map (zv ad) := by
    rw [List.map_append]
    congr 1
    cases r <;> rfl
  rw [hst] at a1
  exact a1
theorem z_callV {idx ci k0 N : Nat} {T : u_T} {C : String} {y : MethodName} {By : ByteArray} {maxL dc np : Nat} {ret : Option FieldType} {As rest st fs : List Value} {wc : ZW} {post : Option Value → ZW → Prop}
    (hX : ZOK X oc B d) (hd : decode B pc = .ok (.invokevirtual idx, 3)) (hm : ZMV oc idx C y By maxL ret np) (is : List Nat) (hM : ∀ l, ZC l y By maxL ret dc (.ref k0 :: As) wc post) (hdc : dc + 1 ≤ d) (hrecv : wc[k0]? = some (.inr (ci, fs))) (hcl : vwCl[ci]? = some (C, T, N)) (hsub : is.map (fun i => w[i]?) = wc.map (fun e => some (zre (zg is) e))) (hnd : va_nd is = true) (his : is.length ≤ 1000) (hnp : As.length = np) (hst : st = (As.map (zv (zg is))).reverse ++ .ref (zg is k0) :: rest) (hrs : (rest.map Value.category).sum ≤ 8)
    (kk : ∀ (r : Option Value) (w1 : ZW), post r w1 → w1.length = wc.length → ZG X (pc + 3) ls (zpushg (zg is) r rest) (zput (zg is) is w w1)) : ZG X pc ls st w := by
  have kk := fun (r : Option Value) (w1 : ZW) h1 h2 => (zpushg_eq (zg is) r rest).symm ▸ kk r w1 h1 h2
  subst hst
  obtain ⟨p, l, e, R, s, m, args, below, meth, c, D, cy, ad, A, n, cells, slots, Q⟩ := X
  intro H locs lsA h1 h2 h3 h4
  obtain ⟨hx, hb, hown, hts, hK, hI, hA, hS, ⟨hfr, hlo⟩, ⟨hce, hsl⟩, hA2⟩ := hX
  have hci : ci < 100 := by
    have := (List.getElem?_eq_some_iff.mp hcl).1
    simp at this
    omega
  obtain ⟨i0, hi0, hi1⟩ := zsub_at hsub hrecv
  have hzg : zg is k0 = i0 := by unfold zg; rw [List.getD_eq_getElem?_getD, hi0]; rfl
  have hcw := cwV (R := R) (mc := 0) (ms := 0) (rm := zrm dc) np hts (zgoodV hm) rfl rfl rfl hm.2.1 ⟨by show dc + 1 ≤ _; omega, by have := hm.2.2; show 8 + (maxL + 11) + 40 * dc ≤ _; omega⟩
  refine z_back hI hA hA2 h1 h2 h3 h4 hsub hnd (post := post) (rest := rest) (va_runV (As := (As.map (zv (zg is))).map (zv ad)) (b := ad i0) (rest := rest.map (zv ad)) ⟨hx, hb, rfl, hown, hts⟩ (hM l D cy (fun k => ad (zg is k)) H.size) hcw ⟨zblind, ?_, ?_⟩ rfl (by rw [List.length_map, List.length_map]; exact hnp) h4.2.1 ?_ (lv_room (zrs hrs)) hd ⟨by omega, by omega⟩) kk
  · have he : (zcw cy ad w)[i0]? = some (ad i0, .inr (ci, (fs.map (zv (zg is))).map (zv ad))) := by rw [zcw_get hi1]; exact congrArg some (congrArg (Prod.mk _) (zce_obj hci))
    exact va_recv hK h2 hcl he
  · intro U hU hW
    have := z_pre (av := .ref k0 :: As) (wc := wc) hI hA hA2 hK hS h1 h2 h3 hsub hnd his U hU hW
    rw [show (Value.ref (ad i0) :: (As.map (zv (zg is))).map (zv ad)) = (Value.ref k0 :: As).map (zv (fun k => ad (zg is k))) by
      rw [List.map_cons, List.map_map]
      show Value.ref (ad i0) :: _ = Value.ref (ad (zg is k0)) :: _
      rw [hzg]
      congr 1
      apply List.map_congr_left
      intro v _
      exact zv_zv ad (zg is) v]
    exact ⟨rfl, this.2⟩
  · show ((As.map (zv (zg is))).reverse ++ .ref (zg is k0) :: rest).map (zv ad) = _
    rw [List.map_append, List.map_cons, List.map_reverse, hzg]
    rfl
theorem z_callV0 {idx ci k0 N : Nat} {T : u_T} {C : String} {y : MethodName} {By : ByteArray} {maxL dc np : Nat} {ret : Option FieldType} {As rest st fs : List Value} {post : Option Value → ZW → Prop}
    (hX : ZOK X oc B d) (hd : decode B pc = .ok (.invokevirtual idx, 3)) (hm : ZMV oc idx C y By maxL ret np) (hM : ∀ l, ZC l y By maxL ret dc (.ref k0 :: As) w post) (hdc : dc + 1 ≤ d) (hrecv : w[k0]? = some (.inr (ci, fs))) (hcl : vwCl[ci]? = some (C, T, N)) (hnp : As.length = np) (hst : st = As.reverse ++ .ref k0 :: rest) (hrs : (rest.map Value.category).sum ≤ 8)
    (kk : ∀ (r : Option Value) (w1 : ZW), post r w1 → w1.length = w.length → ZG X (pc + 3) ls (zpush r rest) w1) : ZG X pc ls st w := by
  have kk := fun (r : Option Value) (w1 : ZW) h1 h2 => (zpush_eq r rest).symm ▸ kk r w1 h1 h2
  subst hst
  obtain ⟨p, l, e, R, s, m, args, below, meth, c, D, cy, ad, A, n, cells, slots, Q⟩ := X
  intro H locs lsA h1 h2 h3 h4
  obtain ⟨hx, hb, hown, hts, hK, hI, hA, hS, ⟨hfr, hlo⟩, ⟨hce, hsl⟩, hA2⟩ := hX
  have hci : ci < 100 := by
    have := (List.getElem?_eq_some_iff.mp hcl).1
    simp at this
    omega
  have hcw := cwV (R := R) (mc := 0) (ms := 0) (rm := zrm dc) np hts (zgoodV hm) rfl rfl rfl hm.2.1 ⟨by show dc + 1 ≤ _; omega, by have := hm.2.2; show 8 + (maxL + 11) + 40 * dc ≤ _; omega⟩
  refine z_back0 hA hA2 h1 h3 h4 (post := post) (rest := rest) (va_runV (As := As.map (zv ad)) (b := ad k0) (rest := rest.map (zv ad)) ⟨hx, hb, rfl, hown, hts⟩ (hM l D cy ad H.size) hcw ⟨zblind, ?_, ?_⟩ rfl (by rw [List.length_map]; exact hnp) h4.2.1 ?_ (lv_room (zrs hrs)) hd ⟨by omega, by omega⟩) kk
  · have he : (zcw cy ad w)[k0]? = some (ad k0, .inr (ci, fs.map (zv ad))) := by rw [zcw_get hrecv, zce_obj hci]
    exact va_recv hK h2 hcl he
  · exact z_pre0 (av := .ref k0 :: As) hI hA hA2 hK hS h1 h2 h3
  · show (As.reverse ++ .ref k0 :: rest).map (zv ad) = _
    rw [List.map_append, List.map_cons, List.map_reverse]
    rfl
theorem z_callS0 {idx : Nat} {y : MethodName} {By : ByteArray} {maxL dc np : Nat} {ret : Option FieldType} {As rest st : List Value} {post : Option Value → ZW → Prop}
    (hX : ZOK X oc B d) (hd : decode B pc = .ok (.invokestatic idx, 3)) (hm : ZMS oc idx y By maxL ret np) (hM : ∀ l, ZC l y By maxL ret dc As w post) (hdc : dc + 1 ≤ d) (hnp : As.length = np) (hst : st = As.reverse ++ rest) (hrs : (rest.map Value.category).sum ≤ 8)
    (kk : ∀ (r : Option Value) (w1 : ZW), post r w1 → w1.length = w.length → ZG X (pc + 3) ls (zpush r rest) w1) : ZG X pc ls st w := by
  have kk := fun (r : Option Value) (w1 : ZW) h1 h2 => (zpush_eq r rest).symm ▸ kk r w1 h1 h2
  subst hst
  obtain ⟨p, l, e, R, s, m, args, below, meth, c, D, cy, ad, A, n, cells, slots, Q⟩ := X
  intro H locs lsA h1 h2 h3 h4
  obtain ⟨hx, hb, hown, hts, hK, hI, hA, hS, ⟨hfr, hlo⟩, ⟨hce, hsl⟩, hA2⟩ := hX
  have hcw := va_cwS (R := R) (mc := 0) (ms := 0) (rm := zrm dc) np hts (zgoodS hm) rfl rfl rfl hm.2.1 ⟨by show dc + 1 ≤ _; omega, by have := hm.2.2; show 8 + (maxL + 11) + 40 * dc ≤ _; omega⟩
  refine z_back0 hA hA2 h1 h3 h4 (post := post) (rest := rest) (va_runS (As := As.map (zv ad)) (rest := rest.map (zv ad)) ⟨hx, hb, rfl, hown, hts⟩ (hM l D cy ad H.size) hcw ⟨zblind, ?_⟩ rfl (by rw [List.length_map]; exact hnp) h4.2.1 ?_ (lv_room (zrs hrs)) hd ⟨by omega, by omega⟩) kk
  · exact z_pre0 hI hA hA2 hK hS h1 h2 h3
  · show (As.reverse ++ rest).map (zv ad) = _
    rw [List.map_append, List.map_reverse]
theorem z_callS {idx : Nat} {y : MethodName} {By : ByteArray} {maxL dc np : Nat} {ret : Option FieldType} {As rest st : List Value} {wc : ZW} {post : Option Value → ZW → Prop}
    (hX : ZOK X oc B d) (hd : decode B pc = .ok (.invokestatic idx, 3)) (hm : ZMS oc idx y By maxL ret np) (is : List Nat) (hM : ∀ l, ZC l y By maxL ret dc As wc post) (hdc : dc + 1 ≤ d) (hsub : is.map (fun i => w[i]?) = wc.map (fun e => some (zre (zg is) e))) (hnd : va_nd is = true) (his : is.length ≤ 1000) (hnp : As.length = np) (hst : st = (As.map (zv (zg is))).reverse ++ rest) (hrs : (rest.map Value.category).sum ≤ 8)
    (kk : ∀ (r : Option Value) (w1 : ZW), post r w1 → w1.length = wc.length → ZG X (pc + 3) ls (zpushg (zg is) r rest) (zput (zg is) is w w1)) : ZG X pc ls st w := by
  have kk := fun (r : Option Value) (w1 : ZW) h1 h2 => (zpushg_eq (zg is) r rest).symm ▸ kk r w1 h1 h2
  subst hst
  obtain ⟨p, l, e, R, s, m, args, below, meth, c, D, cy, ad, A, n, cells, slots, Q⟩ := X
  intro H locs lsA h1 h2 h3 h4
  obtain ⟨hx, hb, hown, hts, hK, hI, hA, hS, ⟨hfr, hlo⟩, ⟨hce, hsl⟩, hA2⟩ := hX
  have hcw := va_cwS (R := R) (mc := 0) (ms := 0) (rm := zrm dc) np hts (zgoodS hm) rfl rfl rfl hm.2.1 ⟨by show dc + 1 ≤ _; omega, by have := hm.2.2; show 8 + (maxL + 11) + 40 * dc ≤ _; omega⟩
  refine z_back hI hA hA2 h1 h2 h3 h4 hsub hnd (post := post) (rest := rest) (va_runS (As := (As.map (zv (zg is))).map (zv ad)) (rest := rest.map (zv ad)) ⟨hx, hb, rfl, hown, hts⟩ (hM l D cy (fun k => ad (zg is k)) H.size) hcw ⟨zblind, ?_⟩ rfl (by rw [List.length_map, List.length_map]; exact hnp) h4.2.1 ?_ (lv_room (zrs hrs)) hd ⟨by omega, by omega⟩) kk
  · intro U hU hW
    have := z_pre (av := As) (wc := wc) hI hA hA2 hK hS h1 h2 h3 hsub hnd his U hU hW
    rw [show (As.map (zv (zg is))).map (zv ad) = As.map (zv (fun k => ad (zg is k))) by
      rw [List.map_map]
      apply List.map_congr_left
      intro v _
      exact zv_zv ad (zg is) v]
    exact ⟨rfl, this.2⟩
  · show ((As.map (zv (zg is))).reverse ++ rest).map (zv ad) = _
    rw [List.map_append, List.map_reverse]
theorem z_norm {st st' : List Value} {ls' : List (Option Value)} {w' : ZW} (hl : ls = ls') (hs : st = st') (hw : w = w') (k : ZG X pc ls' st' w') : ZG X pc ls st w := by
  subst hl
  subst hs
  subst hw
  exact k
theorem z_dup {v : Value} {st : List Value} (hX : ZOK X oc B d) (hd : decode B pc = .ok (.dup, 1)) (hv : v.category = 1) (k : ZG X (pc + 1) ls (v :: v :: st) w) : ZG X pc ls (v :: st) w := by
  obtain ⟨p, l, e, R, s, m, args, below, meth, c, D, cy, ad, A, n, cells, slots, Q⟩ := X
  intro H locs lsA h1 h2 h3 h4
  exact lv_dup hX.ex hX.by hd (by rw [zv_cat]; exact hv) (k H locs lsA h1 h2 h3 h4)
theorem z_dup2_2 {v : Value} {st : List Value} (hX : ZOK X oc B d) (hd : decode B pc = .ok (.dup2, 1)) (hv : v.category = 2) (k : ZG X (pc + 1) ls (v :: v :: st) w) : ZG X pc ls (v :: st) w := by
  obtain ⟨p, l, e, R, s, m, args, below, meth, c, D, cy, ad, A, n, cells, slots, Q⟩ := X
  intro H locs lsA h1 h2 h3 h4
  exact lv_dup2_2 hX.ex hX.by hd (by rw [zv_cat]; exact hv) (k H locs lsA h1 h2 h3 h4)
theorem z_dup2_11 {v u : Value} {st : List Value} (hX : ZOK X oc B d) (hd : decode B pc = .ok (.dup2, 1)) (hv : v.category = 1) (hu : u.category = 1) (k : ZG X (pc + 1) ls (v :: u :: v :: u :: st) w) : ZG X pc ls (v :: u :: st) w := by
  obtain ⟨p, l, e, R, s, m, args, below, meth, c, D, cy, ad, A, n, cells, slots, Q⟩ := X
  intro H locs lsA h1 h2 h3 h4
  exact lv_dup2_11 hX.ex hX.by hd (by rw [zv_cat]; exact hv) (by rw [zv_cat]; exact hu) (k H locs lsA h1 h2 h3 h4)
end ZJ
end
section
/-! ===== the pool entries that the methods use ===== -/
theorem zmem {w : Cond} (i : Nat) (h : lw_tbl[i]? = some w) (hg : goodWord w = true) : w ∈ zwd := List.mem_filter.mpr ⟨List.mem_of_getElem? h, hg⟩
theorem inz0 : ∀ w ∈ u_ws RX0 TX0 3, w ∈ zwd := by decide +kernel
theorem inz1 : ∀ w ∈ u_ws RX1 TX1 5, w ∈ zwd := by decide +kernel
theorem inz2 : ∀ w ∈ u_ws RX2 TX2 8, w ∈ zwd := by decide +kernel
theorem inz3 : ∀ w ∈ u_ws RX3 TX3 4, w ∈ zwd := by decide +kernel
theorem inz4 : ∀ w ∈ u_ws RX4 TX4 7, w ∈ zwd := by decide +kernel
theorem inz5 : ∀ w ∈ u_ws RX5 TX5 6, w ∈ zwd := by decide +kernel
theorem inz6 : ∀ w ∈ u_ws RX6 TX6 22, w ∈ zwd := by decide +kernel
theorem f_0_9 : ZF 0 9 0 0 := ⟨RX0, TX0, 3, tyX0, rfl, by decide, by decide, zmem 36 (by decide +kernel) (by decide +kernel), rfl, inz0, tyX0_ok, nmX0⟩
theorem f_0_15 : ZF 0 15 0 1 := ⟨RX0, TX0, 3, tyX0, rfl, by decide, by decide, zmem 38 (by decide +kernel) (by decide +kernel), rfl, inz0, tyX0_ok, nmX0⟩
theorem f_0_19 : ZF 0 19 0 2 := ⟨RX0, TX0, 3, tyX0, rfl, by decide, by decide, zmem 39 (by decide +kernel) (by decide +kernel), rfl, inz0, tyX0_ok, nmX0⟩
theorem f_1_9 : ZF 1 9 1 0 := ⟨RX1, TX1, 5, tyX1, rfl, by decide, by decide, zmem 62 (by decide +kernel) (by decide +kernel), rfl, inz1, tyX1_ok, nmX1⟩
theorem f_1_15 : ZF 1 15 1 1 := ⟨RX1, TX1, 5, tyX1, rfl, by decide, by decide, zmem 64 (by decide +kernel) (by decide +kernel), rfl, inz1, tyX1_ok, nmX1⟩
theorem f_1_18 : ZF 1 18 1 2 := ⟨RX1, TX1, 5, tyX1, rfl, by decide, by decide, zmem 66 (by decide +kernel) (by decide +kernel), rfl, inz1, tyX1_ok, nmX1⟩
theorem p_1_18 : ZP 1 18 1 2 .int := ⟨RX1, TX1, 5, tyX1, rfl, by decide, by decide, zmem 66 (by decide +kernel) (by decide +kernel), rfl, inz1, tyX1_ok, nmX1, rfl, rfl⟩
theorem f_1_22 : ZF 1 22 1 3 := ⟨RX1, TX1, 5, tyX1, rfl, by decide, by decide, zmem 68 (by decide +kernel) (by decide +kernel), rfl, inz1, tyX1_ok, nmX1⟩
theorem p_1_22 : ZP 1 22 1 3 .int := ⟨RX1, TX1, 5, tyX1, rfl, by decide, by decide, zmem 68 (by decide +kernel) (by decide +kernel), rfl, inz1, tyX1_ok, nmX1, rfl, rfl⟩
theorem f_1_25 : ZF 1 25 1 4 := ⟨RX1, TX1, 5, tyX1, rfl, by decide, by decide, zmem 70 (by decide +kernel) (by decide +kernel), rfl, inz1, tyX1_ok, nmX1⟩
theorem p_1_25 : ZP 1 25 1 4 .int := ⟨RX1, TX1, 5, tyX1, rfl, by decide, by decide, zmem 70 (by decide +kernel) (by decide +kernel), rfl, inz1, tyX1_ok, nmX1, rfl, rfl⟩
theorem f_1_28 : ZF 1 28 2 7 := ⟨RX2, TX2, 8, tyX2, rfl, by decide, by decide, zmem 156 (by decide +kernel) (by decide +kernel), rfl, inz2, tyX2_ok, nmX2⟩
theorem p_1_28 : ZP 1 28 2 7 .boolean := ⟨RX2, TX2, 8, tyX2, rfl, by decide, by decide, zmem 156 (by decide +kernel) (by decide +kernel), rfl, inz2, tyX2_ok, nmX2, rfl, rfl⟩
theorem f_2_9 : ZF 2 9 2 0 := ⟨RX2, TX2, 8, tyX2, rfl, by decide, by decide, zmem 143 (by decide +kernel) (by decide +kernel), rfl, inz2, tyX2_ok, nmX2⟩
theorem f_2_17 : ZF 2 17 2 1 := ⟨RX2, TX2, 8, tyX2, rfl, by decide, by decide, zmem 145 (by decide +kernel) (by decide +kernel), rfl, inz2, tyX2_ok, nmX2⟩
theorem f_2_20 : ZF 2 20 2 2 := ⟨RX2, TX2, 8, tyX2, rfl, by decide, by decide, zmem 147 (by decide +kernel) (by decide +kernel), rfl, inz2, tyX2_ok, nmX2⟩
theorem f_2_24 : ZF 2 24 2 3 := ⟨RX2, TX2, 8, tyX2, rfl, by decide, by decide, zmem 149 (by decide +kernel) (by decide +kernel), rfl, inz2, tyX2_ok, nmX2⟩
theorem p_2_24 : ZP 2 24 2 3 .int := ⟨RX2, TX2, 8, tyX2, rfl, by decide, by decide, zmem 149 (by decide +kernel) (by decide +kernel), rfl, inz2, tyX2_ok, nmX2, rfl, rfl⟩
theorem f_2_28 : ZF 2 28 2 4 := ⟨RX2, TX2, 8, tyX2, rfl, by decide, by decide, zmem 150 (by decide +kernel) (by decide +kernel), rfl, inz2, tyX2_ok, nmX2⟩
theorem p_2_28 : ZP 2 28 2 4 .int := ⟨RX2, TX2, 8, tyX2, rfl, by decide, by decide, zmem 150 (by decide +kernel) (by decide +kernel), rfl, inz2, tyX2_ok, nmX2, rfl, rfl⟩
theorem f_2_31 : ZF 2 31 2 5 := ⟨RX2, TX2, 8, tyX2, rfl, by decide, by decide, zmem 152 (by decide +kernel) (by decide +kernel), rfl, inz2, tyX2_ok, nmX2⟩
theorem p_2_31 : ZP 2 31 2 5 .int := ⟨RX2, TX2, 8, tyX2, rfl, by decide, by decide, zmem 152 (by decide +kernel) (by decide +kernel), rfl, inz2, tyX2_ok, nmX2, rfl, rfl⟩
theorem f_2_34 : ZF 2 34 2 6 := ⟨RX2, TX2, 8, tyX2, rfl, by decide, by decide, zmem 153 (by decide +kernel) (by decide +kernel), rfl, inz2, tyX2_ok, nmX2⟩
theorem p_2_34 : ZP 2 34 2 6 .boolean := ⟨RX2, TX2, 8, tyX2, rfl, by decide, by decide, zmem 153 (by decide +kernel) (by decide +kernel), rfl, inz2, tyX2_ok, nmX2, rfl, rfl⟩
theorem f_2_38 : ZF 2 38 2 7 := ⟨RX2, TX2, 8, tyX2, rfl, by decide, by decide, zmem 155 (by decide +kernel) (by decide +kernel), rfl, inz2, tyX2_ok, nmX2⟩
theorem p_2_38 : ZP 2 38 2 7 .boolean := ⟨RX2, TX2, 8, tyX2, rfl, by decide, by decide, zmem 155 (by decide +kernel) (by decide +kernel), rfl, inz2, tyX2_ok, nmX2, rfl, rfl⟩
theorem f_2_47 : ZF 2 47 4 1 := ⟨RX4, TX4, 7, tyX4, rfl, by decide, by decide, zmem 111 (by decide +kernel) (by decide +kernel), rfl, inz4, tyX4_ok, nmX4⟩
theorem f_3_9 : ZF 3 9 3 0 := ⟨RX3, TX3, 4, tyX3, rfl, by decide, by decide, zmem 88 (by decide +kernel) (by decide +kernel), rfl, inz3, tyX3_ok, nmX3⟩
theorem f_3_15 : ZF 3 15 3 1 := ⟨RX3, TX3, 4, tyX3, rfl, by decide, by decide, zmem 90 (by decide +kernel) (by decide +kernel), rfl, inz3, tyX3_ok, nmX3⟩
theorem p_3_15 : ZP 3 15 3 1 .boolean := ⟨RX3, TX3, 4, tyX3, rfl, by decide, by decide, zmem 90 (by decide +kernel) (by decide +kernel), rfl, inz3, tyX3_ok, nmX3, rfl, rfl⟩
theorem f_3_19 : ZF 3 19 3 2 := ⟨RX3, TX3, 4, tyX3, rfl, by decide, by decide, zmem 92 (by decide +kernel) (by decide +kernel), rfl, inz3, tyX3_ok, nmX3⟩
theorem p_3_19 : ZP 3 19 3 2 .int := ⟨RX3, TX3, 4, tyX3, rfl, by decide, by decide, zmem 92 (by decide +kernel) (by decide +kernel), rfl, inz3, tyX3_ok, nmX3, rfl, rfl⟩
theorem f_3_23 : ZF 3 23 3 3 := ⟨RX3, TX3, 4, tyX3, rfl, by decide, by decide, zmem 93 (by decide +kernel) (by decide +kernel), rfl, inz3, tyX3_ok, nmX3⟩
theorem p_3_23 : ZP 3 23 3 3 .int := ⟨RX3, TX3, 4, tyX3, rfl, by decide, by decide, zmem 93 (by decide +kernel) (by decide +kernel), rfl, inz3, tyX3_ok, nmX3, rfl, rfl⟩
theorem f_4_9 : ZF 4 9 4 0 := ⟨RX4, TX4, 7, tyX4, rfl, by decide, by decide, zmem 109 (by decide +kernel) (by decide +kernel), rfl, inz4, tyX4_ok, nmX4⟩
theorem f_4_15 : ZF 4 15 4 1 := ⟨RX4, TX4, 7, tyX4, rfl, by decide, by decide, zmem 110 (by decide +kernel) (by decide +kernel), rfl, inz4, tyX4_ok, nmX4⟩
theorem f_4_19 : ZF 4 19 4 2 := ⟨RX4, TX4, 7, tyX4, rfl, by decide, by decide, zmem 113 (by decide +kernel) (by decide +kernel), rfl, inz4, tyX4_ok, nmX4⟩
theorem f_4_22 : ZF 4 22 4 3 := ⟨RX4, TX4, 7, tyX4, rfl, by decide, by decide, zmem 114 (by decide +kernel) (by decide +kernel), rfl, inz4, tyX4_ok, nmX4⟩
theorem p_4_22 : ZP 4 22 4 3 .int := ⟨RX4, TX4, 7, tyX4, rfl, by decide, by decide, zmem 114 (by decide +kernel) (by decide +kernel), rfl, inz4, tyX4_ok, nmX4, rfl, rfl⟩
theorem f_4_26 : ZF 4 26 4 4 := ⟨RX4, TX4, 7, tyX4, rfl, by decide, by decide, zmem 115 (by decide +kernel) (by decide +kernel), rfl, inz4, tyX4_ok, nmX4⟩
theorem p_4_26 : ZP 4 26 4 4 .long := ⟨RX4, TX4, 7, tyX4, rfl, by decide, by decide, zmem 115 (by decide +kernel) (by decide +kernel), rfl, inz4, tyX4_ok, nmX4, rfl, rfl⟩
theorem f_4_30 : ZF 4 30 4 5 := ⟨RX4, TX4, 7, tyX4, rfl, by decide, by decide, zmem 117 (by decide +kernel) (by decide +kernel), rfl, inz4, tyX4_ok, nmX4⟩
theorem p_4_30 : ZP 4 30 4 5 .long := ⟨RX4, TX4, 7, tyX4, rfl, by decide, by decide, zmem 117 (by decide +kernel) (by decide +kernel), rfl, inz4, tyX4_ok, nmX4, rfl, rfl⟩
theorem f_4_33 : ZF 4 33 4 6 := ⟨RX4, TX4, 7, tyX4, rfl, by decide, by decide, zmem 119 (by decide +kernel) (by decide +kernel), rfl, inz4, tyX4_ok, nmX4⟩
theorem p_4_33 : ZP 4 33 4 6 .long := ⟨RX4, TX4, 7, tyX4, rfl, by decide, by decide, zmem 119 (by decide +kernel) (by decide +kernel), rfl, inz4, tyX4_ok, nmX4, rfl, rfl⟩
theorem f_5_12 : ZF 5 12 5 0 := ⟨RX5, TX5, 6, tyX5, rfl, by decide, by decide, zmem 176 (by decide +kernel) (by decide +kernel), rfl, inz5, tyX5_ok, nmX5⟩
theorem f_5_18 : ZF 5 18 5 1 := ⟨RX5, TX5, 6, tyX5, rfl, by decide, by decide, zmem 177 (by decide +kernel) (by decide +kernel), rfl, inz5, tyX5_ok, nmX5⟩
theorem f_5_24 : ZF 5 24 5 2 := ⟨RX5, TX5, 6, tyX5, rfl, by decide, by decide, zmem 178 (by decide +kernel) (by decide +kernel), rfl, inz5, tyX5_ok, nmX5⟩
theorem f_5_30 : ZF 5 30 5 3 := ⟨RX5, TX5, 6, tyX5, rfl, by decide, by decide, zmem 179 (by decide +kernel) (by decide +kernel), rfl, inz5, tyX5_ok, nmX5⟩
theorem f_5_37 : ZF 5 37 5 4 := ⟨RX5, TX5, 6, tyX5, rfl, by decide, by decide, zmem 180 (by decide +kernel) (by decide +kernel), rfl, inz5, tyX5_ok, nmX5⟩
theorem f_5_41 : ZF 5 41 5 5 := ⟨RX5, TX5, 6, tyX5, rfl, by decide, by decide, zmem 181 (by decide +kernel) (by decide +kernel), rfl, inz5, tyX5_ok, nmX5⟩
theorem p_5_41 : ZP 5 41 5 5 .int := ⟨RX5, TX5, 6, tyX5, rfl, by decide, by decide, zmem 181 (by decide +kernel) (by decide +kernel), rfl, inz5, tyX5_ok, nmX5, rfl, rfl⟩
theorem f_5_52 : ZF 5 52 0 0 := ⟨RX0, TX0, 3, tyX0, rfl, by decide, by decide, zmem 37 (by decide +kernel) (by decide +kernel), rfl, inz0, tyX0_ok, nmX0⟩
theorem f_5_63 : ZF 5 63 0 2 := ⟨RX0, TX0, 3, tyX0, rfl, by decide, by decide, zmem 40 (by decide +kernel) (by decide +kernel), rfl, inz0, tyX0_ok, nmX0⟩
theorem f_5_81 : ZF 5 81 3 1 := ⟨RX3, TX3, 4, tyX3, rfl, by decide, by decide, zmem 91 (by decide +kernel) (by decide +kernel), rfl, inz3, tyX3_ok, nmX3⟩
theorem p_5_81 : ZP 5 81 3 1 .boolean := ⟨RX3, TX3, 4, tyX3, rfl, by decide, by decide, zmem 91 (by decide +kernel) (by decide +kernel), rfl, inz3, tyX3_ok, nmX3, rfl, rfl⟩
theorem f_5_85 : ZF 5 85 3 3 := ⟨RX3, TX3, 4, tyX3, rfl, by decide, by decide, zmem 94 (by decide +kernel) (by decide +kernel), rfl, inz3, tyX3_ok, nmX3⟩
theorem p_5_85 : ZP 5 85 3 3 .int := ⟨RX3, TX3, 4, tyX3, rfl, by decide, by decide, zmem 94 (by decide +kernel) (by decide +kernel), rfl, inz3, tyX3_ok, nmX3, rfl, rfl⟩
theorem f_5_91 : ZF 5 91 3 0 := ⟨RX3, TX3, 4, tyX3, rfl, by decide, by decide, zmem 89 (by decide +kernel) (by decide +kernel), rfl, inz3, tyX3_ok, nmX3⟩
theorem f_5_105 : ZF 5 105 2 6 := ⟨RX2, TX2, 8, tyX2, rfl, by decide, by decide, zmem 154 (by decide +kernel) (by decide +kernel), rfl, inz2, tyX2_ok, nmX2⟩
theorem p_5_105 : ZP 5 105 2 6 .boolean := ⟨RX2, TX2, 8, tyX2, rfl, by decide, by decide, zmem 154 (by decide +kernel) (by decide +kernel), rfl, inz2, tyX2_ok, nmX2, rfl, rfl⟩
theorem f_5_114 : ZF 5 114 4 1 := ⟨RX4, TX4, 7, tyX4, rfl, by decide, by decide, zmem 112 (by decide +kernel) (by decide +kernel), rfl, inz4, tyX4_ok, nmX4⟩
theorem f_5_117 : ZF 5 117 4 4 := ⟨RX4, TX4, 7, tyX4, rfl, by decide, by decide, zmem 116 (by decide +kernel) (by decide +kernel), rfl, inz4, tyX4_ok, nmX4⟩
theorem p_5_117 : ZP 5 117 4 4 .long := ⟨RX4, TX4, 7, tyX4, rfl, by decide, by decide, zmem 116 (by decide +kernel) (by decide +kernel), rfl, inz4, tyX4_ok, nmX4, rfl, rfl⟩
theorem f_5_121 : ZF 5 121 4 5 := ⟨RX4, TX4, 7, tyX4, rfl, by decide, by decide, zmem 118 (by decide +kernel) (by decide +kernel), rfl, inz4, tyX4_ok, nmX4⟩
theorem p_5_121 : ZP 5 121 4 5 .long := ⟨RX4, TX4, 7, tyX4, rfl, by decide, by decide, zmem 118 (by decide +kernel) (by decide +kernel), rfl, inz4, tyX4_ok, nmX4, rfl, rfl⟩
theorem f_5_124 : ZF 5 124 4 6 := ⟨RX4, TX4, 7, tyX4, rfl, by decide, by decide, zmem 120 (by decide +kernel) (by decide +kernel), rfl, inz4, tyX4_ok, nmX4⟩
theorem p_5_124 : ZP 5 124 4 6 .long := ⟨RX4, TX4, 7, tyX4, rfl, by decide, by decide, zmem 120 (by decide +kernel) (by decide +kernel), rfl, inz4, tyX4_ok, nmX4, rfl, rfl⟩
theorem f_5_130 : ZF 5 130 2 4 := ⟨RX2, TX2, 8, tyX2, rfl, by decide, by decide, zmem 151 (by decide +kernel) (by decide +kernel), rfl, inz2, tyX2_ok, nmX2⟩
theorem p_5_130 : ZP 5 130 2 4 .int := ⟨RX2, TX2, 8, tyX2, rfl, by decide, by decide, zmem 151 (by decide +kernel) (by decide +kernel), rfl, inz2, tyX2_ok, nmX2, rfl, rfl⟩
theorem f_5_136 : ZF 5 136 2 2 := ⟨RX2, TX2, 8, tyX2, rfl, by decide, by decide, zmem 148 (by decide +kernel) (by decide +kernel), rfl, inz2, tyX2_ok, nmX2⟩
theorem f_5_142 : ZF 5 142 2 0 := ⟨RX2, TX2, 8, tyX2, rfl, by decide, by decide, zmem 144 (by decide +kernel) (by decide +kernel), rfl, inz2, tyX2_ok, nmX2⟩
theorem f_5_145 : ZF 5 145 2 1 := ⟨RX2, TX2, 8, tyX2, rfl, by decide, by decide, zmem 146 (by decide +kernel) (by decide +kernel), rfl, inz2, tyX2_ok, nmX2⟩
theorem f_5_163 : ZF 5 163 2 7 := ⟨RX2, TX2, 8, tyX2, rfl, by decide, by decide, zmem 157 (by decide +kernel) (by decide +kernel), rfl, inz2, tyX2_ok, nmX2⟩
theorem p_5_163 : ZP 5 163 2 7 .boolean := ⟨RX2, TX2, 8, tyX2, rfl, by decide, by decide, zmem 157 (by decide +kernel) (by decide +kernel), rfl, inz2, tyX2_ok, nmX2, rfl, rfl⟩
theorem f_5_167 : ZF 5 167 1 3 := ⟨RX1, TX1, 5, tyX1, rfl, by decide, by decide, zmem 69 (by decide +kernel) (by decide +kernel), rfl, inz1, tyX1_ok, nmX1⟩
theorem p_5_167 : ZP 5 167 1 3 .int := ⟨RX1, TX1, 5, tyX1, rfl, by decide, by decide, zmem 69 (by decide +kernel) (by decide +kernel), rfl, inz1, tyX1_ok, nmX1, rfl, rfl⟩
theorem f_5_170 : ZF 5 170 1 4 := ⟨RX1, TX1, 5, tyX1, rfl, by decide, by decide, zmem 71 (by decide +kernel) (by decide +kernel), rfl, inz1, tyX1_ok, nmX1⟩
theorem p_5_170 : ZP 5 170 1 4 .int := ⟨RX1, TX1, 5, tyX1, rfl, by decide, by decide, zmem 71 (by decide +kernel) (by decide +kernel), rfl, inz1, tyX1_ok, nmX1, rfl, rfl⟩
theorem f_5_177 : ZF 5 177 1 0 := ⟨RX1, TX1, 5, tyX1, rfl, by decide, by decide, zmem 63 (by decide +kernel) (by decide +kernel), rfl, inz1, tyX1_ok, nmX1⟩
theorem f_5_184 : ZF 5 184 1 2 := ⟨RX1, TX1, 5, tyX1, rfl, by decide, by decide, zmem 67 (by decide +kernel) (by decide +kernel), rfl, inz1, tyX1_ok, nmX1⟩
theorem p_5_184 : ZP 5 184 1 2 .int := ⟨RX1, TX1, 5, tyX1, rfl, by decide, by decide, zmem 67 (by decide +kernel) (by decide +kernel), rfl, inz1, tyX1_ok, nmX1, rfl, rfl⟩
theorem f_5_187 : ZF 5 187 1 1 := ⟨RX1, TX1, 5, tyX1, rfl, by decide, by decide, zmem 65 (by decide +kernel) (by decide +kernel), rfl, inz1, tyX1_ok, nmX1⟩
theorem f_6_7 : ZF 6 7 6 0 := ⟨RX6, TX6, 22, tyX6, rfl, by decide, by decide, zmem 455 (by decide +kernel) (by decide +kernel), rfl, inz6, tyX6_ok, nmX6⟩
theorem f_6_13 : ZF 6 13 6 1 := ⟨RX6, TX6, 22, tyX6, rfl, by decide, by decide, zmem 456 (by decide +kernel) (by decide +kernel), rfl, inz6, tyX6_ok, nmX6⟩
theorem f_6_17 : ZF 6 17 6 2 := ⟨RX6, TX6, 22, tyX6, rfl, by decide, by decide, zmem 457 (by decide +kernel) (by decide +kernel), rfl, inz6, tyX6_ok, nmX6⟩
theorem f_6_20 : ZF 6 20 6 3 := ⟨RX6, TX6, 22, tyX6, rfl, by decide, by decide, zmem 458 (by decide +kernel) (by decide +kernel), rfl, inz6, tyX6_ok, nmX6⟩
theorem f_6_23 : ZF 6 23 6 4 := ⟨RX6, TX6, 22, tyX6, rfl, by decide, by decide, zmem 459 (by decide +kernel) (by decide +kernel), rfl, inz6, tyX6_ok, nmX6⟩
theorem f_6_26 : ZF 6 26 6 5 := ⟨RX6, TX6, 22, tyX6, rfl, by decide, by decide, zmem 460 (by decide +kernel) (by decide +kernel), rfl, inz6, tyX6_ok, nmX6⟩
theorem f_6_29 : ZF 6 29 6 6 := ⟨RX6, TX6, 22, tyX6, rfl, by decide, by decide, zmem 461 (by decide +kernel) (by decide +kernel), rfl, inz6, tyX6_ok, nmX6⟩
theorem f_6_32 : ZF 6 32 6 7 := ⟨RX6, TX6, 22, tyX6, rfl, by decide, by decide, zmem 462 (by decide +kernel) (by decide +kernel), rfl, inz6, tyX6_ok, nmX6⟩
theorem f_6_35 : ZF 6 35 6 8 := ⟨RX6, TX6, 22, tyX6, rfl, by decide, by decide, zmem 463 (by decide +kernel) (by decide +kernel), rfl, inz6, tyX6_ok, nmX6⟩
theorem f_6_38 : ZF 6 38 6 9 := ⟨RX6, TX6, 22, tyX6, rfl, by decide, by decide, zmem 464 (by decide +kernel) (by decide +kernel), rfl, inz6, tyX6_ok, nmX6⟩
theorem f_6_41 : ZF 6 41 6 11 := ⟨RX6, TX6, 22, tyX6, rfl, by decide, by decide, zmem 466 (by decide +kernel) (by decide +kernel), rfl, inz6, tyX6_ok, nmX6⟩
theorem f_6_44 : ZF 6 44 6 12 := ⟨RX6, TX6, 22, tyX6, rfl, by decide, by decide, zmem 467 (by decide +kernel) (by decide +kernel), rfl, inz6, tyX6_ok, nmX6⟩
theorem f_6_47 : ZF 6 47 6 13 := ⟨RX6, TX6, 22, tyX6, rfl, by decide, by decide, zmem 468 (by decide +kernel) (by decide +kernel), rfl, inz6, tyX6_ok, nmX6⟩
theorem f_6_51 : ZF 6 51 6 14 := ⟨RX6, TX6, 22, tyX6, rfl, by decide, by decide, zmem 469 (by decide +kernel) (by decide +kernel), rfl, inz6, tyX6_ok, nmX6⟩
theorem f_6_54 : ZF 6 54 6 15 := ⟨RX6, TX6, 22, tyX6, rfl, by decide, by decide, zmem 470 (by decide +kernel) (by decide +kernel), rfl, inz6, tyX6_ok, nmX6⟩
theorem f_6_57 : ZF 6 57 6 16 := ⟨RX6, TX6, 22, tyX6, rfl, by decide, by decide, zmem 471 (by decide +kernel) (by decide +kernel), rfl, inz6, tyX6_ok, nmX6⟩
theorem f_6_60 : ZF 6 60 6 19 := ⟨RX6, TX6, 22, tyX6, rfl, by decide, by decide, zmem 474 (by decide +kernel) (by decide +kernel), rfl, inz6, tyX6_ok, nmX6⟩
theorem f_6_63 : ZF 6 63 6 20 := ⟨RX6, TX6, 22, tyX6, rfl, by decide, by decide, zmem 475 (by decide +kernel) (by decide +kernel), rfl, inz6, tyX6_ok, nmX6⟩
theorem f_6_66 : ZF 6 66 6 21 := ⟨RX6, TX6, 22, tyX6, rfl, by decide, by decide, zmem 476 (by decide +kernel) (by decide +kernel), rfl, inz6, tyX6_ok, nmX6⟩
theorem f_6_123 : ZF 6 123 6 10 := ⟨RX6, TX6, 22, tyX6, rfl, by decide, by decide, zmem 465 (by decide +kernel) (by decide +kernel), rfl, inz6, tyX6_ok, nmX6⟩
theorem p_6_123 : ZP 6 123 6 10 .int := ⟨RX6, TX6, 22, tyX6, rfl, by decide, by decide, zmem 465 (by decide +kernel) (by decide +kernel), rfl, inz6, tyX6_ok, nmX6, rfl, rfl⟩
theorem f_6_158 : ZF 6 158 6 17 := ⟨RX6, TX6, 22, tyX6, rfl, by decide, by decide, zmem 472 (by decide +kernel) (by decide +kernel), rfl, inz6, tyX6_ok, nmX6⟩
theorem p_6_158 : ZP 6 158 6 17 .int := ⟨RX6, TX6, 22, tyX6, rfl, by decide, by decide, zmem 472 (by decide +kernel) (by decide +kernel), rfl, inz6, tyX6_ok, nmX6, rfl, rfl⟩
theorem f_6_161 : ZF 6 161 6 18 := ⟨RX6, TX6, 22, tyX6, rfl, by decide, by decide, zmem 473 (by decide +kernel) (by decide +kernel), rfl, inz6, tyX6_ok, nmX6⟩
theorem p_6_161 : ZP 6 161 6 18 .int := ⟨RX6, TX6, 22, tyX6, rfl, by decide, by decide, zmem 473 (by decide +kernel) (by decide +kernel), rfl, inz6, tyX6_ok, nmX6, rfl, rfl⟩
theorem k_5_166 : Cond.constant (zcn 5) 166 (1000000000) ∈ zwd := zmem 414 (by decide +kernel) (by decide +kernel)
theorem k_1_46 : Cond.constant (zcn 1) 46 (2147483647) ∈ zwd := zmem 440 (by decide +kernel) (by decide +kernel)
theorem k_3_32 : Cond.constant (zcn 3) 32 (1000000) ∈ zwd := zmem 277 (by decide +kernel) (by decide +kernel)
theorem k_5_112 : Cond.constantLong (zcn 5) 112 (-1) ∈ zwd := zmem 338 (by decide +kernel) (by decide +kernel)
theorem k_5_140 : Cond.constantLong (zcn 5) 140 (-4) ∈ zwd := zmem 355 (by decide +kernel) (by decide +kernel)
theorem k_5_67 : Cond.constantLong (zcn 5) 67 (-1000000001) ∈ zwd := zmem 234 (by decide +kernel) (by decide +kernel)
theorem k_0_28 : Cond.constantLong (zcn 0) 28 (448) ∈ zwd := zmem 209 (by decide +kernel) (by decide +kernel)
theorem k_0_37 : Cond.constantLong (zcn 0) 37 (100352) ∈ zwd := zmem 216 (by decide +kernel) (by decide +kernel)
theorem k_1_38 : Cond.constantLong (zcn 1) 38 (10) ∈ zwd := zmem 423 (by decide +kernel) (by decide +kernel)
theorem k_2_63 : Cond.constantLong (zcn 2) 63 (-4) ∈ zwd := zmem 378 (by decide +kernel) (by decide +kernel)
theorem k_4_36 : Cond.constantLong (zcn 4) 36 (1000) ∈ zwd := zmem 313 (by decide +kernel) (by decide +kernel)
theorem k_4_56 : Cond.constantLong (zcn 4) 56 (100352000) ∈ zwd := zmem 326 (by decide +kernel) (by decide +kernel)
theorem k_6_101 : Cond.constantLong (zcn 6) 101 (100352) ∈ zwd := zmem 566 (by decide +kernel) (by decide +kernel)
theorem k_6_103 : Cond.constantLong (zcn 6) 103 (-1000000001) ∈ zwd := zmem 555 (by decide +kernel) (by decide +kernel)
theorem k_6_112 : Cond.constantLong (zcn 6) 112 (3) ∈ zwd := zmem 578 (by decide +kernel) (by decide +kernel)
theorem k_6_121 : Cond.constantLong (zcn 6) 121 (1000000) ∈ zwd := zmem 595 (by decide +kernel) (by decide +kernel)
theorem k_6_127 : Cond.constantLong (zcn 6) 127 (1000) ∈ zwd := zmem 620 (by decide +kernel) (by decide +kernel)
theorem k_6_129 : Cond.constantLong (zcn 6) 129 (100352000) ∈ zwd := zmem 625 (by decide +kernel) (by decide +kernel)
theorem k_6_135 : Cond.constantLong (zcn 6) 135 (50) ∈ zwd := zmem 619 (by decide +kernel) (by decide +kernel)
theorem k_6_149 : Cond.constantLong (zcn 6) 149 (-4) ∈ zwd := zmem 638 (by decide +kernel) (by decide +kernel)
theorem k_6_154 : Cond.constantLong (zcn 6) 154 (24) ∈ zwd := zmem 659 (by decide +kernel) (by decide +kernel)
theorem k_6_156 : Cond.constantLong (zcn 6) 156 (10) ∈ zwd := zmem 677 (by decide +kernel) (by decide +kernel)
theorem k_6_164 : Cond.constantLong (zcn 6) 164 (1000000000) ∈ zwd := zmem 668 (by decide +kernel) (by decide +kernel)
theorem k_6_69 : Cond.constantLong (zcn 6) 69 (23) ∈ zwd := zmem 526 (by decide +kernel) (by decide +kernel)
theorem k_6_75 : Cond.constantLong (zcn 6) 75 (-100) ∈ zwd := zmem 530 (by decide +kernel) (by decide +kernel)
theorem k_6_77 : Cond.constantLong (zcn 6) 77 (100) ∈ zwd := zmem 531 (by decide +kernel) (by decide +kernel)
theorem k_6_79 : Cond.constantLong (zcn 6) 79 (2) ∈ zwd := zmem 547 (by decide +kernel) (by decide +kernel)
theorem k_6_92 : Cond.constantLong (zcn 6) 92 (8) ∈ zwd := zmem 536 (by decide +kernel) (by decide +kernel)
theorem k_6_97 : Cond.constantLong (zcn 6) 97 (4) ∈ zwd := zmem 560 (by decide +kernel) (by decide +kernel)
theorem k_6_99 : Cond.constantLong (zcn 6) 99 (-1) ∈ zwd := zmem 561 (by decide +kernel) (by decide +kernel)
theorem ms_5_48 : ZMS 5 48 yX5_isBelow cX5_isBelow 2 (some .boolean) 2 := ⟨⟨zmem 199 (by decide +kernel) (by decide +kernel), zmem 200 (by decide +kernel) (by decide +kernel), zmem 12 (by decide +kernel) (by decide +kernel), zmem 201 (by decide +kernel) (by decide +kernel)⟩, by decide +kernel, by decide⟩
theorem mv_5_56 : ZMV 5 56 RX0 yX0_settle cX0_settle 5 none 0 := ⟨⟨zmem 202 (by decide +kernel) (by decide +kernel), zmem 203 (by decide +kernel) (by decide +kernel), zmem 204 (by decide +kernel) (by decide +kernel), zmem 13 (by decide +kernel) (by decide +kernel), zmem 205 (by decide +kernel) (by decide +kernel)⟩, by decide +kernel, by decide⟩
theorem mv_5_59 : ZMV 5 59 RX0 yX0_surplus cX0_surplus 5 (some .int) 1 := ⟨⟨zmem 229 (by decide +kernel) (by decide +kernel), zmem 211 (by decide +kernel) (by decide +kernel), zmem 212 (by decide +kernel) (by decide +kernel), zmem 13 (by decide +kernel) (by decide +kernel), zmem 213 (by decide +kernel) (by decide +kernel)⟩, by decide +kernel, by decide⟩
theorem mv_5_69 : ZMV 5 69 RX0 yX0_squaresOfChanges cX0_squaresOfChanges 4 (some .long) 0 := ⟨⟨zmem 239 (by decide +kernel) (by decide +kernel), zmem 240 (by decide +kernel) (by decide +kernel), zmem 241 (by decide +kernel) (by decide +kernel), zmem 13 (by decide +kernel) (by decide +kernel), zmem 242 (by decide +kernel) (by decide +kernel)⟩, by decide +kernel, by decide⟩
theorem ms_5_73 : ZMS 5 73 yX5_isLane cX5_isLane 1 (some .boolean) 1 := ⟨⟨zmem 247 (by decide +kernel) (by decide +kernel), zmem 248 (by decide +kernel) (by decide +kernel), zmem 12 (by decide +kernel) (by decide +kernel), zmem 249 (by decide +kernel) (by decide +kernel)⟩, by decide +kernel, by decide⟩
theorem mv_5_77 : ZMV 5 77 RX3 yX3_begin cX3_begin 3 none 2 := ⟨⟨zmem 250 (by decide +kernel) (by decide +kernel), zmem 251 (by decide +kernel) (by decide +kernel), zmem 252 (by decide +kernel) (by decide +kernel), zmem 15 (by decide +kernel) (by decide +kernel), zmem 253 (by decide +kernel) (by decide +kernel)⟩, by decide +kernel, by decide⟩
theorem mv_5_88 : ZMV 5 88 RX3 yX3_isOf cX3_isOf 2 (some .boolean) 1 := ⟨⟨zmem 265 (by decide +kernel) (by decide +kernel), zmem 266 (by decide +kernel) (by decide +kernel), zmem 267 (by decide +kernel) (by decide +kernel), zmem 15 (by decide +kernel) (by decide +kernel), zmem 268 (by decide +kernel) (by decide +kernel)⟩, by decide +kernel, by decide⟩
theorem mv_5_94 : ZMV 5 94 RX3 yX3_areRates cX3_areRates 2 (some .boolean) 0 := ⟨⟨zmem 273 (by decide +kernel) (by decide +kernel), zmem 274 (by decide +kernel) (by decide +kernel), zmem 275 (by decide +kernel) (by decide +kernel), zmem 15 (by decide +kernel) (by decide +kernel), zmem 276 (by decide +kernel) (by decide +kernel)⟩, by decide +kernel, by decide⟩
theorem mv_5_98 : ZMV 5 98 RX4 yX4_stand cX4_stand 5 (some .int) 2 := ⟨⟨zmem 278 (by decide +kernel) (by decide +kernel), zmem 279 (by decide +kernel) (by decide +kernel), zmem 280 (by decide +kernel) (by decide +kernel), zmem 16 (by decide +kernel) (by decide +kernel), zmem 281 (by decide +kernel) (by decide +kernel)⟩, by decide +kernel, by decide⟩
theorem mv_5_102 : ZMV 5 102 RX2 yX2_move cX2_move 3 (some .int) 1 := ⟨⟨zmem 286 (by decide +kernel) (by decide +kernel), zmem 287 (by decide +kernel) (by decide +kernel), zmem 288 (by decide +kernel) (by decide +kernel), zmem 17 (by decide +kernel) (by decide +kernel), zmem 289 (by decide +kernel) (by decide +kernel)⟩, by decide +kernel, by decide⟩
theorem mv_5_108 : ZMV 5 108 RX5 yX5_passHour cX5_passHour 4 none 1 := ⟨⟨zmem 298 (by decide +kernel) (by decide +kernel), zmem 300 (by decide +kernel) (by decide +kernel), zmem 0 (by decide +kernel) (by decide +kernel), zmem 12 (by decide +kernel) (by decide +kernel), zmem 301 (by decide +kernel) (by decide +kernel)⟩, by decide +kernel, by decide⟩
theorem mv_5_127 : ZMV 5 127 RX4 yX4_inBoxes cX4_inBoxes 4 (some .long) 0 := ⟨⟨zmem 343 (by decide +kernel) (by decide +kernel), zmem 344 (by decide +kernel) (by decide +kernel), zmem 345 (by decide +kernel) (by decide +kernel), zmem 16 (by decide +kernel) (by decide +kernel), zmem 346 (by decide +kernel) (by decide +kernel)⟩, by decide +kernel, by decide⟩
theorem mv_5_133 : ZMV 5 133 RX2 yX2_slotOf cX2_slotOf 2 (some .int) 1 := ⟨⟨zmem 351 (by decide +kernel) (by decide +kernel), zmem 352 (by decide +kernel) (by decide +kernel), zmem 353 (by decide +kernel) (by decide +kernel), zmem 17 (by decide +kernel) (by decide +kernel), zmem 354 (by decide +kernel) (by decide +kernel)⟩, by decide +kernel, by decide⟩
theorem mv_5_149 : ZMV 5 149 RX2 yX2_countOfWritten cX2_countOfWritten 1 (some .int) 0 := ⟨⟨zmem 360 (by decide +kernel) (by decide +kernel), zmem 361 (by decide +kernel) (by decide +kernel), zmem 362 (by decide +kernel) (by decide +kernel), zmem 17 (by decide +kernel) (by decide +kernel), zmem 363 (by decide +kernel) (by decide +kernel)⟩, by decide +kernel, by decide⟩
theorem mv_5_153 : ZMV 5 153 RX2 yX2_meanOfWritten cX2_meanOfWritten 2 (some .long) 0 := ⟨⟨zmem 373 (by decide +kernel) (by decide +kernel), zmem 374 (by decide +kernel) (by decide +kernel), zmem 375 (by decide +kernel) (by decide +kernel), zmem 17 (by decide +kernel) (by decide +kernel), zmem 376 (by decide +kernel) (by decide +kernel)⟩, by decide +kernel, by decide⟩
theorem mv_5_156 : ZMV 5 156 RX2 yX2_greatest cX2_greatest 6 (some .long) 1 := ⟨⟨zmem 387 (by decide +kernel) (by decide +kernel), zmem 388 (by decide +kernel) (by decide +kernel), zmem 389 (by decide +kernel) (by decide +kernel), zmem 17 (by decide +kernel) (by decide +kernel), zmem 390 (by decide +kernel) (by decide +kernel)⟩, by decide +kernel, by decide⟩
theorem mv_5_160 : ZMV 5 160 RX2 yX2_greatestMean cX2_greatestMean 7 (some .long) 1 := ⟨⟨zmem 399 (by decide +kernel) (by decide +kernel), zmem 400 (by decide +kernel) (by decide +kernel), zmem 401 (by decide +kernel) (by decide +kernel), zmem 17 (by decide +kernel) (by decide +kernel), zmem 402 (by decide +kernel) (by decide +kernel)⟩, by decide +kernel, by decide⟩
theorem mv_5_173 : ZMV 5 173 RX1 yX1_doorsKeptAt cX1_doorsKeptAt 4 (some .int) 1 := ⟨⟨zmem 415 (by decide +kernel) (by decide +kernel), zmem 416 (by decide +kernel) (by decide +kernel), zmem 417 (by decide +kernel) (by decide +kernel), zmem 14 (by decide +kernel) (by decide +kernel), zmem 418 (by decide +kernel) (by decide +kernel)⟩, by decide +kernel, by decide⟩
theorem mv_5_180 : ZMV 5 180 RX1 yX1_seekCuts cX1_seekCuts 5 none 1 := ⟨⟨zmem 436 (by decide +kernel) (by decide +kernel), zmem 437 (by decide +kernel) (by decide +kernel), zmem 438 (by decide +kernel) (by decide +kernel), zmem 14 (by decide +kernel) (by decide +kernel), zmem 439 (by decide +kernel) (by decide +kernel)⟩, by decide +kernel, by decide⟩
theorem ms_5_190 : ZMS 5 190 yJ9_floorMod_7cf53 cJ9_floorMod_7cf53 3 (some .int) 2 := ⟨⟨zmem 302 (by decide +kernel) (by decide +kernel), zmem 303 (by decide +kernel) (by decide +kernel), zmem 20 (by decide +kernel) (by decide +kernel), zmem 304 (by decide +kernel) (by decide +kernel)⟩, by decide +kernel, by decide⟩
theorem mv_5_196 : ZMV 5 196 RX4 yX4_giveOff cX4_giveOff 2 none 1 := ⟨⟨zmem 305 (by decide +kernel) (by decide +kernel), zmem 306 (by decide +kernel) (by decide +kernel), zmem 307 (by decide +kernel) (by decide +kernel), zmem 16 (by decide +kernel) (by decide +kernel), zmem 308 (by decide +kernel) (by decide +kernel)⟩, by decide +kernel, by decide⟩
theorem mv_5_199 : ZMV 5 199 RX4 yX4_fallOut cX4_fallOut 7 none 1 := ⟨⟨zmem 309 (by decide +kernel) (by decide +kernel), zmem 310 (by decide +kernel) (by decide +kernel), zmem 311 (by decide +kernel) (by decide +kernel), zmem 16 (by decide +kernel) (by decide +kernel), zmem 312 (by decide +kernel) (by decide +kernel)⟩, by decide +kernel, by decide⟩
theorem mv_5_202 : ZMV 5 202 RX4 yX4_blow cX4_blow 8 none 1 := ⟨⟨zmem 314 (by decide +kernel) (by decide +kernel), zmem 315 (by decide +kernel) (by decide +kernel), zmem 316 (by decide +kernel) (by decide +kernel), zmem 16 (by decide +kernel) (by decide +kernel), zmem 317 (by decide +kernel) (by decide +kernel)⟩, by decide +kernel, by decide⟩
theorem mv_5_206 : ZMV 5 206 RX2 yX2_write cX2_write 5 none 1 := ⟨⟨zmem 327 (by decide +kernel) (by decide +kernel), zmem 328 (by decide +kernel) (by decide +kernel), zmem 329 (by decide +kernel) (by decide +kernel), zmem 17 (by decide +kernel) (by decide +kernel), zmem 330 (by decide +kernel) (by decide +kernel)⟩, by decide +kernel, by decide⟩
theorem ms_0_22 : ZMS 0 22 yJ7_fill_d0a16 cJ7_fill_d0a16 5 none 2 := ⟨⟨zmem 206 (by decide +kernel) (by decide +kernel), zmem 207 (by decide +kernel) (by decide +kernel), zmem 19 (by decide +kernel) (by decide +kernel), zmem 208 (by decide +kernel) (by decide +kernel)⟩, by decide +kernel, by decide⟩
theorem mv_0_30 : ZMV 0 30 RX0 yX0_surplus cX0_surplus 5 (some .int) 1 := ⟨⟨zmem 210 (by decide +kernel) (by decide +kernel), zmem 211 (by decide +kernel) (by decide +kernel), zmem 212 (by decide +kernel) (by decide +kernel), zmem 13 (by decide +kernel) (by decide +kernel), zmem 213 (by decide +kernel) (by decide +kernel)⟩, by decide +kernel, by decide⟩
theorem mv_0_39 : ZMV 0 39 RX0 yX0_changeAt cX0_changeAt 2 (some .long) 1 := ⟨⟨zmem 217 (by decide +kernel) (by decide +kernel), zmem 218 (by decide +kernel) (by decide +kernel), zmem 219 (by decide +kernel) (by decide +kernel), zmem 13 (by decide +kernel) (by decide +kernel), zmem 220 (by decide +kernel) (by decide +kernel)⟩, by decide +kernel, by decide⟩
theorem mv_1_34 : ZMV 1 34 RX1 yX1_isKeptAt cX1_isKeptAt 7 (some .boolean) 4 := ⟨⟨zmem 419 (by decide +kernel) (by decide +kernel), zmem 420 (by decide +kernel) (by decide +kernel), zmem 421 (by decide +kernel) (by decide +kernel), zmem 14 (by decide +kernel) (by decide +kernel), zmem 422 (by decide +kernel) (by decide +kernel)⟩, by decide +kernel, by decide⟩
theorem mv_1_40 : ZMV 1 40 RX2 yX2_isAboveAtMost cX2_isAboveAtMost 12 (some .boolean) 5 := ⟨⟨zmem 424 (by decide +kernel) (by decide +kernel), zmem 425 (by decide +kernel) (by decide +kernel), zmem 426 (by decide +kernel) (by decide +kernel), zmem 17 (by decide +kernel) (by decide +kernel), zmem 427 (by decide +kernel) (by decide +kernel)⟩, by decide +kernel, by decide⟩
theorem mv_1_47 : ZMV 1 47 RX1 yX1_isKept cX1_isKept 6 (some .boolean) 4 := ⟨⟨zmem 441 (by decide +kernel) (by decide +kernel), zmem 442 (by decide +kernel) (by decide +kernel), zmem 443 (by decide +kernel) (by decide +kernel), zmem 14 (by decide +kernel) (by decide +kernel), zmem 444 (by decide +kernel) (by decide +kernel)⟩, by decide +kernel, by decide⟩
theorem mv_1_51 : ZMV 1 51 RX1 yX1_offer cX1_offer 5 none 3 := ⟨⟨zmem 445 (by decide +kernel) (by decide +kernel), zmem 446 (by decide +kernel) (by decide +kernel), zmem 447 (by decide +kernel) (by decide +kernel), zmem 14 (by decide +kernel) (by decide +kernel), zmem 448 (by decide +kernel) (by decide +kernel)⟩, by decide +kernel, by decide⟩
theorem ms_2_41 : ZMS 2 41 yJ9_min_7cf53 cJ9_min_7cf53 2 (some .int) 2 := ⟨⟨zmem 331 (by decide +kernel) (by decide +kernel), zmem 332 (by decide +kernel) (by decide +kernel), zmem 20 (by decide +kernel) (by decide +kernel), zmem 333 (by decide +kernel) (by decide +kernel)⟩, by decide +kernel, by decide⟩
theorem mv_2_52 : ZMV 2 52 RX2 yX2_writtenIn cX2_writtenIn 5 (some .int) 2 := ⟨⟨zmem 364 (by decide +kernel) (by decide +kernel), zmem 365 (by decide +kernel) (by decide +kernel), zmem 366 (by decide +kernel) (by decide +kernel), zmem 17 (by decide +kernel) (by decide +kernel), zmem 367 (by decide +kernel) (by decide +kernel)⟩, by decide +kernel, by decide⟩
theorem mv_2_55 : ZMV 2 55 RX2 yX2_slotOf cX2_slotOf 2 (some .int) 1 := ⟨⟨zmem 368 (by decide +kernel) (by decide +kernel), zmem 352 (by decide +kernel) (by decide +kernel), zmem 353 (by decide +kernel) (by decide +kernel), zmem 17 (by decide +kernel) (by decide +kernel), zmem 354 (by decide +kernel) (by decide +kernel)⟩, by decide +kernel, by decide⟩
theorem mv_2_59 : ZMV 2 59 RX2 yX2_countOfWritten cX2_countOfWritten 1 (some .int) 0 := ⟨⟨zmem 377 (by decide +kernel) (by decide +kernel), zmem 361 (by decide +kernel) (by decide +kernel), zmem 362 (by decide +kernel) (by decide +kernel), zmem 17 (by decide +kernel) (by decide +kernel), zmem 363 (by decide +kernel) (by decide +kernel)⟩, by decide +kernel, by decide⟩
theorem mv_2_65 : ZMV 2 65 RX2 yX2_sumIn cX2_sumIn 7 (some .long) 2 := ⟨⟨zmem 379 (by decide +kernel) (by decide +kernel), zmem 380 (by decide +kernel) (by decide +kernel), zmem 381 (by decide +kernel) (by decide +kernel), zmem 17 (by decide +kernel) (by decide +kernel), zmem 382 (by decide +kernel) (by decide +kernel)⟩, by decide +kernel, by decide⟩
theorem mv_2_69 : ZMV 2 69 RX2 yX2_countAbove cX2_countAbove 6 (some .int) 1 := ⟨⟨zmem 391 (by decide +kernel) (by decide +kernel), zmem 392 (by decide +kernel) (by decide +kernel), zmem 393 (by decide +kernel) (by decide +kernel), zmem 17 (by decide +kernel) (by decide +kernel), zmem 394 (by decide +kernel) (by decide +kernel)⟩, by decide +kernel, by decide⟩
theorem ms_2_73 : ZMS 2 73 yJ9_max_f86c9 cJ9_max_f86c9 4 (some .long) 2 := ⟨⟨zmem 403 (by decide +kernel) (by decide +kernel), zmem 404 (by decide +kernel) (by decide +kernel), zmem 20 (by decide +kernel) (by decide +kernel), zmem 405 (by decide +kernel) (by decide +kernel)⟩, by decide +kernel, by decide⟩
theorem ms_3_26 : ZMS 3 26 yJ7_fill_53178 cJ7_fill_53178 4 none 2 := ⟨⟨zmem 254 (by decide +kernel) (by decide +kernel), zmem 255 (by decide +kernel) (by decide +kernel), zmem 19 (by decide +kernel) (by decide +kernel), zmem 256 (by decide +kernel) (by decide +kernel)⟩, by decide +kernel, by decide⟩
theorem ms_4_50 : ZMS 4 50 yJ9_abs_067f4 cJ9_abs_067f4 2 (some .long) 1 := ⟨⟨zmem 323 (by decide +kernel) (by decide +kernel), zmem 324 (by decide +kernel) (by decide +kernel), zmem 20 (by decide +kernel) (by decide +kernel), zmem 325 (by decide +kernel) (by decide +kernel)⟩, by decide +kernel, by decide⟩
theorem ms_6_71 : ZMS 6 71 yX6_in cX6_in 6 (some .boolean) 3 := ⟨⟨zmem 527 (by decide +kernel) (by decide +kernel), zmem 528 (by decide +kernel) (by decide +kernel), zmem 18 (by decide +kernel) (by decide +kernel), zmem 529 (by decide +kernel) (by decide +kernel)⟩, by decide +kernel, by decide⟩
theorem ms_6_81 : ZMS 6 81 yX6_boxAt cX6_boxAt 2 (some .int) 2 := ⟨⟨zmem 544 (by decide +kernel) (by decide +kernel), zmem 545 (by decide +kernel) (by decide +kernel), zmem 18 (by decide +kernel) (by decide +kernel), zmem 546 (by decide +kernel) (by decide +kernel)⟩, by decide +kernel, by decide⟩
theorem ms_6_85 : ZMS 6 85 yX6_fromOf cX6_fromOf 1 (some .int) 1 := ⟨⟨zmem 541 (by decide +kernel) (by decide +kernel), zmem 542 (by decide +kernel) (by decide +kernel), zmem 18 (by decide +kernel) (by decide +kernel), zmem 543 (by decide +kernel) (by decide +kernel)⟩, by decide +kernel, by decide⟩
theorem ms_6_89 : ZMS 6 89 yX6_toOf cX6_toOf 1 (some .int) 1 := ⟨⟨zmem 548 (by decide +kernel) (by decide +kernel), zmem 549 (by decide +kernel) (by decide +kernel), zmem 18 (by decide +kernel) (by decide +kernel), zmem 550 (by decide +kernel) (by decide +kernel)⟩, by decide +kernel, by decide⟩
theorem mv_6_94 : ZMV 6 94 RX6 yX6_given cX6_given 4 (some .int) 1 := ⟨⟨zmem 537 (by decide +kernel) (by decide +kernel), zmem 539 (by decide +kernel) (by decide +kernel), zmem 1 (by decide +kernel) (by decide +kernel), zmem 18 (by decide +kernel) (by decide +kernel), zmem 540 (by decide +kernel) (by decide +kernel)⟩, by decide +kernel, by decide⟩
theorem mv_6_105 : ZMV 6 105 RX6 yX6_findHeights cX6_findHeights 10 none 0 := ⟨⟨zmem 556 (by decide +kernel) (by decide +kernel), zmem 558 (by decide +kernel) (by decide +kernel), zmem 2 (by decide +kernel) (by decide +kernel), zmem 18 (by decide +kernel) (by decide +kernel), zmem 559 (by decide +kernel) (by decide +kernel)⟩, by decide +kernel, by decide⟩
theorem mv_6_108 : ZMV 6 108 RX6 yX6_stillAt cX6_stillAt 2 (some .long) 1 := ⟨⟨zmem 562 (by decide +kernel) (by decide +kernel), zmem 564 (by decide +kernel) (by decide +kernel), zmem 3 (by decide +kernel) (by decide +kernel), zmem 18 (by decide +kernel) (by decide +kernel), zmem 565 (by decide +kernel) (by decide +kernel)⟩, by decide +kernel, by decide⟩
theorem ms_6_114 : ZMS 6 114 yX6_isSheet cX6_isSheet 2 (some .boolean) 2 := ⟨⟨zmem 575 (by decide +kernel) (by decide +kernel), zmem 576 (by decide +kernel) (by decide +kernel), zmem 18 (by decide +kernel) (by decide +kernel), zmem 577 (by decide +kernel) (by decide +kernel)⟩, by decide +kernel, by decide⟩
theorem mv_6_118 : ZMV 6 118 RX6 yX6_against cX6_against 3 (some .int) 2 := ⟨⟨zmem 587 (by decide +kernel) (by decide +kernel), zmem 589 (by decide +kernel) (by decide +kernel), zmem 4 (by decide +kernel) (by decide +kernel), zmem 18 (by decide +kernel) (by decide +kernel), zmem 590 (by decide +kernel) (by decide +kernel)⟩, by decide +kernel, by decide⟩
theorem ms_6_131 : ZMS 6 131 yX6_isDoor cX6_isDoor 1 (some .boolean) 1 := ⟨⟨zmem 608 (by decide +kernel) (by decide +kernel), zmem 609 (by decide +kernel) (by decide +kernel), zmem 18 (by decide +kernel) (by decide +kernel), zmem 610 (by decide +kernel) (by decide +kernel)⟩, by decide +kernel, by decide⟩
theorem mv_6_137 : ZMV 6 137 RX6 yX6_carry cX6_carry 20 none 2 := ⟨⟨zmem 621 (by decide +kernel) (by decide +kernel), zmem 623 (by decide +kernel) (by decide +kernel), zmem 5 (by decide +kernel) (by decide +kernel), zmem 18 (by decide +kernel) (by decide +kernel), zmem 624 (by decide +kernel) (by decide +kernel)⟩, by decide +kernel, by decide⟩
theorem mv_6_141 : ZMV 6 141 RX6 yX6_write cX6_write 4 none 1 := ⟨⟨zmem 626 (by decide +kernel) (by decide +kernel), zmem 628 (by decide +kernel) (by decide +kernel), zmem 6 (by decide +kernel) (by decide +kernel), zmem 18 (by decide +kernel) (by decide +kernel), zmem 629 (by decide +kernel) (by decide +kernel)⟩, by decide +kernel, by decide⟩
theorem mv_6_145 : ZMV 6 145 RX6 yX6_numberAt cX6_numberAt 4 (some .long) 2 := ⟨⟨zmem 634 (by decide +kernel) (by decide +kernel), zmem 636 (by decide +kernel) (by decide +kernel), zmem 7 (by decide +kernel) (by decide +kernel), zmem 18 (by decide +kernel) (by decide +kernel), zmem 637 (by decide +kernel) (by decide +kernel)⟩, by decide +kernel, by decide⟩
theorem mv_6_151 : ZMV 6 151 RX6 yX6_told cX6_told 4 (some .int) 1 := ⟨⟨zmem 643 (by decide +kernel) (by decide +kernel), zmem 645 (by decide +kernel) (by decide +kernel), zmem 8 (by decide +kernel) (by decide +kernel), zmem 18 (by decide +kernel) (by decide +kernel), zmem 646 (by decide +kernel) (by decide +kernel)⟩, by decide +kernel, by decide⟩
theorem mv_6_166 : ZMV 6 166 RX6 yX6_setTenths cX6_setTenths 4 none 3 := ⟨⟨zmem 669 (by decide +kernel) (by decide +kernel), zmem 671 (by decide +kernel) (by decide +kernel), zmem 9 (by decide +kernel) (by decide +kernel), zmem 18 (by decide +kernel) (by decide +kernel), zmem 672 (by decide +kernel) (by decide +kernel)⟩, by decide +kernel, by decide⟩
theorem mv_6_170 : ZMV 6 170 RX6 yX6_isKeptAt cX6_isKeptAt 8 (some .boolean) 1 := ⟨⟨zmem 673 (by decide +kernel) (by decide +kernel), zmem 675 (by decide +kernel) (by decide +kernel), zmem 10 (by decide +kernel) (by decide +kernel), zmem 18 (by decide +kernel) (by decide +kernel), zmem 676 (by decide +kernel) (by decide +kernel)⟩, by decide +kernel, by decide⟩
end
section
/-! ===== the elimination, on numbers: row i of step k, 9 places of the matrix, 9 of what each box gives ===== -/
def zBT0 : List (List Int) := [[4, -1, 0, -1, 0, 0, 0, 0, 0, 1, 0, 0, 0, 0, 0, 0, 0, 0], [-1, 4, -1, 0, -1, 0, 0, 0, 0, 0, 1, 0, 0, 0, 0, 0, 0, 0], [0, -1, 4, 0, 0, -1, 0, 0, 0, 0, 0, 1, 0, 0, 0, 0, 0, 0], [-1, 0, 0, 4, -1, 0, -1, 0, 0, 0, 0, 0, 1, 0, 0, 0, 0, 0], [0, -1, 0, -1, 4, -1, 0, -1, 0, 0, 0, 0, 0, 1, 0, 0, 0, 0], [0, 0, -1, 0, -1, 4, 0, 0, -1, 0, 0, 0, 0, 0, 1, 0, 0, 0], [0, 0, 0, -1, 0, 0, 4, -1, 0, 0, 0, 0, 0, 0, 0, 1, 0, 0], [0, 0, 0, 0, -1, 0, -1, 4, -1, 0, 0, 0, 0, 0, 0, 0, 1, 0], [0, 0, 0, 0, 0, -1, 0, -1, 4, 0, 0, 0, 0, 0, 0, 0, 0, 1]]
def zBT1 : List (List Int) := [[4, -1, 0, -1, 0, 0, 0, 0, 0, 1, 0, 0, 0, 0, 0, 0, 0, 0], [0, 15, -4, -1, -4, 0, 0, 0, 0, 1, 4, 0, 0, 0, 0, 0, 0, 0], [0, -4, 16, 0, 0, -4, 0, 0, 0, 0, 0, 4, 0, 0, 0, 0, 0, 0], [0, -1, 0, 15, -4, 0, -4, 0, 0, 1, 0, 0, 4, 0, 0, 0, 0, 0], [0, -4, 0, -4, 16, -4, 0, -4, 0, 0, 0, 0, 0, 4, 0, 0, 0, 0], [0, 0, -4, 0, -4, 16, 0, 0, -4, 0, 0, 0, 0, 0, 4, 0, 0, 0], [0, 0, 0, -4, 0, 0, 16, -4, 0, 0, 0, 0, 0, 0, 0, 4, 0, 0], [0, 0, 0, 0, -4, 0, -4, 16, -4, 0, 0, 0, 0, 0, 0, 0, 4, 0], [0, 0, 0, 0, 0, -4, 0, -4, 16, 0, 0, 0, 0, 0, 0, 0, 0, 4]]
def zBT2 : List (List Int) := [[15, 0, -1, -4, -1, 0, 0, 0, 0, 4, 1, 0, 0, 0, 0, 0, 0, 0], [0, 15, -4, -1, -4, 0, 0, 0, 0, 1, 4, 0, 0, 0, 0, 0, 0, 0], [0, 0, 56, -1, -4, -15, 0, 0, 0, 1, 4, 15, 0, 0, 0, 0, 0, 0], [0, 0, -1, 56, -16, 0, -15, 0, 0, 4, 1, 0, 15, 0, 0, 0, 0, 0], [0, 0, -4, -16, 56, -15, 0, -15, 0, 1, 4, 0, 0, 15, 0, 0, 0, 0], [0, 0, -15, 0, -15, 60, 0, 0, -15, 0, 0, 0, 0, 0, 15, 0, 0, 0], [0, 0, 0, -15, 0, 0, 60, -15, 0, 0, 0, 0, 0, 0, 0, 15, 0, 0], [0, 0, 0, 0, -15, 0, -15, 60, -15, 0, 0, 0, 0, 0, 0, 0, 15, 0], [0, 0, 0, 0, 0, -15, 0, -15, 60, 0, 0, 0, 0, 0, 0, 0, 0, 15]]
def zBT3 : List (List Int) := [[56, 0, 0, -15, -4, -1, 0, 0, 0, 15, 4, 1, 0, 0, 0, 0, 0, 0], [0, 56, 0, -4, -16, -4, 0, 0, 0, 4, 16, 4, 0, 0, 0, 0, 0, 0], [0, 0, 56, -1, -4, -15, 0, 0, 0, 1, 4, 15, 0, 0, 0, 0, 0, 0], [0, 0, 0, 209, -60, -1, -56, 0, 0, 15, 4, 1, 56, 0, 0, 0, 0, 0], [0, 0, 0, -60, 208, -60, 0, -56, 0, 4, 16, 4, 0, 56, 0, 0, 0, 0], [0, 0, 0, -1, -60, 209, 0, 0, -56, 1, 4, 15, 0, 0, 56, 0, 0, 0], [0, 0, 0, -56, 0, 0, 224, -56, 0, 0, 0, 0, 0, 0, 0, 56, 0, 0], [0, 0, 0, 0, -56, 0, -56, 224, -56, 0, 0, 0, 0, 0, 0, 0, 56, 0], [0, 0, 0, 0, 0, -56, 0, -56, 224, 0, 0, 0, 0, 0, 0, 0, 0, 56]]
def zBT4 : List (List Int) := [[209, 0, 0, 0, -31, -4, -15, 0, 0, 60, 16, 4, 15, 0, 0, 0, 0, 0], [0, 209, 0, 0, -64, -15, -4, 0, 0, 16, 60, 15, 4, 0, 0, 0, 0, 0], [0, 0, 209, 0, -16, -56, -1, 0, 0, 4, 15, 56, 1, 0, 0, 0, 0, 0], [0, 0, 0, 209, -60, -1, -56, 0, 0, 15, 4, 1, 56, 0, 0, 0, 0, 0], [0, 0, 0, 0, 712, -225, -60, -209, 0, 31, 64, 16, 60, 209, 0, 0, 0, 0], [0, 0, 0, 0, -225, 780, -1, 0, -209, 4, 15, 56, 1, 0, 209, 0, 0, 0], [0, 0, 0, 0, -60, -1, 780, -209, 0, 15, 4, 1, 56, 0, 0, 209, 0, 0], [0, 0, 0, 0, -209, 0, -209, 836, -209, 0, 0, 0, 0, 0, 0, 0, 209, 0], [0, 0, 0, 0, 0, -209, 0, -209, 836, 0, 0, 0, 0, 0, 0, 0, 0, 209]]
def zBT5 : List (List Int) := [[712, 0, 0, 0, 0, -47, -60, -31, 0, 209, 64, 16, 60, 31, 0, 0, 0, 0], [0, 712, 0, 0, 0, -120, -32, -64, 0, 64, 224, 56, 32, 64, 0, 0, 0, 0], [0, 0, 712, 0, 0, -208, -8, -16, 0, 16, 56, 192, 8, 16, 0, 0, 0, 0], [0, 0, 0, 712, 0, -68, -208, -60, 0, 60, 32, 8, 208, 60, 0, 0, 0, 0], [0, 0, 0, 0, 712, -225, -60, -209, 0, 31, 64, 16, 60, 209, 0, 0, 0, 0], [0, 0, 0, 0, 0, 2415, -68, -225, -712, 47, 120, 208, 68, 225, 712, 0, 0, 0], [0, 0, 0, 0, 0, -68, 2640, -772, 0, 60, 32, 8, 208, 60, 0, 712, 0, 0], [0, 0, 0, 0, 0, -225, -772, 2639, -712, 31, 64, 16, 60, 209, 0, 0, 712, 0], [0, 0, 0, 0, 0, -712, 0, -712, 2848, 0, 0, 0, 0, 0, 0, 0, 0, 712]]
def zBT6 : List (List Int) := [[2415, 0, 0, 0, 0, 0, -208, -120, -47, 712, 225, 68, 208, 120, 47, 0, 0, 0], [0, 2415, 0, 0, 0, 0, -120, -255, -120, 225, 780, 225, 120, 255, 120, 0, 0, 0], [0, 0, 2415, 0, 0, 0, -47, -120, -208, 68, 225, 712, 47, 120, 208, 0, 0, 0], [0, 0, 0, 2415, 0, 0, -712, -225, -68, 208, 120, 47, 712, 225, 68, 0, 0, 0], [0, 0, 0, 0, 2415, 0, -225, -780, -225, 120, 255, 120, 225, 780, 225, 0, 0, 0], [0, 0, 0, 0, 0, 2415, -68, -225, -712, 47, 120, 208, 68, 225, 712, 0, 0, 0], [0, 0, 0, 0, 0, 0, 8948, -2640, -68, 208, 120, 47, 712, 225, 68, 2415, 0, 0], [0, 0, 0, 0, 0, 0, -2640, 8880, -2640, 120, 255, 120, 225, 780, 225, 0, 2415, 0], [0, 0, 0, 0, 0, 0, -68, -2640, 8948, 47, 120, 208, 68, 225, 712, 0, 0, 2415]]
def zBT7 : List (List Int) := [[8948, 0, 0, 0, 0, 0, 0, -672, -180, 2656, 844, 256, 832, 464, 180, 208, 0, 0], [0, 8948, 0, 0, 0, 0, 0, -1076, -448, 844, 2896, 836, 480, 956, 448, 120, 0, 0], [0, 0, 8948, 0, 0, 0, 0, -496, -772, 256, 836, 2639, 188, 449, 772, 47, 0, 0], [0, 0, 0, 8948, 0, 0, 0, -1612, -272, 832, 480, 188, 2848, 900, 272, 712, 0, 0], [0, 0, 0, 0, 8948, 0, 0, -3136, -840, 464, 956, 449, 900, 2911, 840, 225, 0, 0], [0, 0, 0, 0, 0, 8948, 0, -908, -2640, 180, 448, 772, 272, 840, 2640, 68, 0, 0], [0, 0, 0, 0, 0, 0, 8948, -2640, -68, 208, 120, 47, 712, 225, 68, 2415, 0, 0], [0, 0, 0, 0, 0, 0, 0, 30016, -9856, 672, 1076, 496, 1612, 3136, 908, 2640, 8948, 0], [0, 0, 0, 0, 0, 0, 0, -9856, 33152, 180, 448, 772, 272, 840, 2640, 68, 0, 8948]]
def zBT8 : List (List Int) := [[30016, 0, 0, 0, 0, 0, 0, 0, -1344, 8960, 2912, 896, 2912, 1792, 672, 896, 672, 0], [0, 30016, 0, 0, 0, 0, 0, 0, -2688, 2912, 9844, 2864, 1804, 3584, 1612, 720, 1076, 0], [0, 0, 30016, 0, 0, 0, 0, 0, -3136, 896, 2864, 8880, 720, 1680, 2640, 304, 496, 0], [0, 0, 0, 30016, 0, 0, 0, 0, -2688, 2912, 1804, 720, 9844, 3584, 1076, 2864, 1612, 0], [0, 0, 0, 0, 30016, 0, 0, 0, -6272, 1792, 3584, 1680, 3584, 10864, 3136, 1680, 3136, 0], [0, 0, 0, 0, 0, 30016, 0, 0, -9856, 672, 1612, 2640, 1076, 3136, 8948, 496, 908, 0], [0, 0, 0, 0, 0, 0, 30016, 0, -3136, 896, 720, 304, 2864, 1680, 496, 8880, 2640, 0], [0, 0, 0, 0, 0, 0, 0, 30016, -9856, 672, 1076, 496, 1612, 3136, 908, 2640, 8948, 0], [0, 0, 0, 0, 0, 0, 0, 0, 100352, 1344, 2688, 3136, 2688, 6272, 9856, 3136, 9856, 30016]]
def zBT9 : List (List Int) := [[100352, 0, 0, 0, 0, 0, 0, 0, 0, 30016, 9856, 3136, 9856, 6272, 2688, 3136, 2688, 1344], [0, 100352, 0, 0, 0, 0, 0, 0, 0, 9856, 33152, 9856, 6272, 12544, 6272, 2688, 4480, 2688], [0, 0, 100352, 0, 0, 0, 0, 0, 0, 3136, 9856, 30016, 2688, 6272, 9856, 1344, 2688, 3136], [0, 0, 0, 100352, 0, 0, 0, 0, 0, 9856, 6272, 2688, 33152, 12544, 4480, 9856, 6272, 2688], [0, 0, 0, 0, 100352, 0, 0, 0, 0, 6272, 12544, 6272, 12544, 37632, 12544, 6272, 12544, 6272], [0, 0, 0, 0, 0, 100352, 0, 0, 0, 2688, 6272, 9856, 4480, 12544, 33152, 2688, 6272, 9856], [0, 0, 0, 0, 0, 0, 100352, 0, 0, 3136, 2688, 1344, 9856, 6272, 2688, 30016, 9856, 3136], [0, 0, 0, 0, 0, 0, 0, 100352, 0, 2688, 4480, 2688, 6272, 12544, 6272, 9856, 33152, 9856], [0, 0, 0, 0, 0, 0, 0, 0, 100352, 1344, 2688, 3136, 2688, 6272, 9856, 3136, 9856, 30016]]
def zBT (k i j : Nat) : Int := ((match k with | 0 => zBT0 | 1 => zBT1 | 2 => zBT2 | 3 => zBT3 | 4 => zBT4 | 5 => zBT5 | 6 => zBT6 | 7 => zBT7 | 8 => zBT8 | _ => zBT9).getD i []).getD j 0
def zBD (k : Nat) : Int := [1, 4, 15, 56, 209, 712, 2415, 8948, 30016, 100352].getD k 1
theorem zBT_step : ∀ k, k < 9 → ∀ i, i < 9 → i ≠ k → ∀ j, j < 18 → zBT k k k * zBT k i j - zBT k i k * zBT k k j = zBD k * zBT (k + 1) i j := by decide +kernel
theorem zBT_row : ∀ k, k < 9 → ∀ j, j < 18 → zBT (k + 1) k j = zBT k k j := by decide +kernel
theorem zBT_piv : ∀ k, k < 9 → zBT k k k = zBD (k + 1) := by decide +kernel
theorem zBD_pos : ∀ k, k < 10 → 0 < zBD k ∧ zBD k ≤ 110000 := by decide +kernel
theorem zBT_le : ∀ k, k < 10 → ∀ i, i < 9 → ∀ j, j < 18 → -110000 ≤ zBT k i j ∧ zBT k i j ≤ 110000 := by decide +kernel
theorem zBT_last : ∀ i, i < 9 → ∀ t, t < 9 → zBT 9 i (9 + t) = 448 * (zFALL.getD (9 * t + i) 0 : Nat) := by decide +kernel
/-- a sum of nine -/
def zS9 (f : Nat → Int) : Int := f 0 + f 1 + f 2 + f 3 + f 4 + f 5 + f 6 + f 7 + f 8
theorem zS9_congr {f h : Nat → Int} (e : ∀ t, t < 9 → f t = h t) : zS9 f = zS9 h := by
  unfold zS9
  rw [e 0 (by decide), e 1 (by decide), e 2 (by decide), e 3 (by decide), e 4 (by decide), e 5 (by decide), e 6 (by decide), e 7 (by decide), e 8 (by decide)]
/-- place q of row i at step k, what each box gives being g -/
def zVI (g : Nat → Int) (k i q : Nat) : Int := if q < 9 then zBT k i q else zS9 (fun t => zBT k i (9 + t) * g t)
def zV (g : Nat → Int) (k i q : Nat) : Int64 := Int64.ofInt (zVI g k i q)
theorem zmul_le {x y : Int} {a b : Int} (hx : -a ≤ x ∧ x ≤ a) (hy : -b ≤ y ∧ y ≤ b) (ha : 0 ≤ a) (hb : 0 ≤ b) : -(a * b) ≤ x * y ∧ x * y ≤ a * b := by
  have h1 : (x * y).natAbs ≤ (a * b).natAbs := by
    rw [Int.natAbs_mul, Int.natAbs_mul]
    exact Nat.mul_le_mul (by omega) (by omega)
  have h2 : 0 ≤ a * b := Int.mul_nonneg ha hb
  omega
theorem zVI_le {g : Nat → Int} (hg : ∀ t, t < 9 → -2400 ≤ g t ∧ g t ≤ 2400) {k i q : Nat} (hk : k < 10) (hi : i < 9) (hq : q < 10) : -2376000000 ≤ zVI g k i q ∧ zVI g k i q ≤ 2376000000 := by
  unfold zVI
  split
  · have := zBT_le k hk i hi q (by omega)
    omega
  · have h : ∀ t, t < 9 → -264000000 ≤ zBT k i (9 + t) * g t ∧ zBT k i (9 + t) * g t ≤ 264000000 := fun t ht => by
      have h1 := zBT_le k hk i hi (9 + t) (by omega)
      have h2 := zmul_le (a := 110000) (b := 2400) h1 (hg t ht) (by decide) (by decide)
      omega
    have h0 := h 0 (by omega)
    have h1 := h 1 (by omega)
    have h2 := h 2 (by omega)
    have h3 := h 3 (by omega)
    have h4 := h 4 (by omega)
    have h5 := h 5 (by omega)
    have h6 := h 6 (by omega)
    have h7 := h 7 (by omega)
    have h8 := h 8 (by omega)
    dsimp only [zS9]
    omega
theorem zVI_step (g : Nat → Int) {k i q : Nat} (hk : k < 9) (hi : i < 9) (hne : i ≠ k) (hq : q < 10) : zBT k k k * zVI g k i q - zBT k i k * zVI g k k q = zBD k * zVI g (k + 1) i q := by
  unfold zVI
  by_cases h : q < 9
  · rw [if_pos h, if_pos h, if_pos h]
    exact zBT_step k hk i hi hne q (by omega)
  · rw [if_neg h, if_neg h, if_neg h]
    have hs : ∀ t, t < 9 → zBT k k k * (zBT k i (9 + t) * g t) - zBT k i k * (zBT k k (9 + t) * g t) = zBD k * (zBT (k + 1) i (9 + t) * g t) := fun t ht => by
      have := zBT_step k hk i hi hne (9 + t) (by omega)
      rw [← Int.mul_assoc, ← Int.mul_assoc, ← Int.mul_assoc, ← Int.sub_mul, this]
    have h0 := hs 0 (by omega)
    have h1 := hs 1 (by omega)
    have h2 := hs 2 (by omega)
    have h3 := hs 3 (by omega)
    have h4 := hs 4 (by omega)
    have h5 := hs 5 (by omega)
    have h6 := hs 6 (by omega)
    have h7 := hs 7 (by omega)
    have h8 := hs 8 (by omega)
    dsimp only [zS9]
    simp only [Int.mul_add]
    omega
theorem zL_ofInt {x : Int} (h1 : -9223372036854775808 ≤ x) (h2 : x < 9223372036854775808) : (Int64.ofInt x).toInt = x := Int64.toInt_ofInt_of_le h1 h2
theorem zL_mul {x y : Int} : Int64.ofInt x * Int64.ofInt y = Int64.ofInt (x * y) := (Int64.ofInt_mul x y).symm
theorem zL_sub {x y : Int} : Int64.ofInt x - Int64.ofInt y = Int64.ofInt (x - y) := (Int64.ofInt_sub x y).symm
theorem zL_add {x y : Int} : Int64.ofInt x + Int64.ofInt y = Int64.ofInt (x + y) := (Int64.ofInt_add x y).symm
theorem zL_eq {x : Int64} {y : Int} (h : x.toInt = y) : x = Int64.ofInt y := by rw [← h, Int64.ofInt_toInt]
theorem zL_tdiv {x y : Int} (hx1 : -9223372036854775808 < x) (hx2 : x < 9223372036854775808) (hy1 : 0 < y) (hy2 : y < 9223372036854775808) : Int64.ofInt x / Int64.ofInt y = Int64.ofInt (x.tdiv y) := by
  apply zL_eq
  rw [Int64.toInt_div, zL_ofInt (by omega) hx2, zL_ofInt (by omega) hy2]
  have h := Int.natAbs_tdiv_le_natAbs x y
  apply Int.bmod_eq_of_le <;> omega
theorem zV_step {g : Nat → Int} (hg : ∀ t, t < 9 → -2400 ≤ g t ∧ g t ≤ 2400) {k i q : Nat} (hk : k < 9) (hi : i < 9) (hne : i ≠ k) (hq : q < 10) : (zV g k k k * zV g k i q - zV g k i k * zV g k k q) / Int64.ofInt (zBD k) = zV g (k + 1) i q := by
  unfold zV
  rw [zL_mul, zL_mul, zL_sub]
  have e1 : zVI g k k k = zBT k k k := if_pos hk
  have e2 : zVI g k i k = zBT k i k := if_pos hk
  rw [e1, e2, zVI_step g hk hi hne hq]
  have hb := zVI_le hg (k := k + 1) (i := i) (q := q) (by omega) hi hq
  have hd := zBD_pos k (by omega)
  have hm := zmul_le (x := zBD k) (y := zVI g (k + 1) i q) (a := 110000) (b := 2376000000) (by omega) hb (by decide) (by decide)
  rw [zL_tdiv (by omega) (by omega) (by omega) (by omega)]
  rw [Int.mul_tdiv_cancel_left _ (by omega)]
theorem zV_row (g : Nat → Int) {k q : Nat} (hk : k < 9) (hq : q < 10) : zV g (k + 1) k q = zV g k k q := by
  unfold zV zVI
  split
  · rw [zBT_row k hk q (by omega)]
  · congr 1
    exact zS9_congr (fun t ht => by rw [zBT_row k hk (9 + t) (by omega)])
theorem zV_piv (g : Nat → Int) {k : Nat} (hk : k < 9) : zV g k k k = Int64.ofInt (zBD (k + 1)) := by
  unfold zV zVI
  rw [if_pos hk, zBT_piv k hk]
theorem zBD_ne {k : Nat} (hk : k < 10) : ¬ Int64.ofInt (zBD k) = 0 := by
  intro h
  have hd := zBD_pos k hk
  have h2 := congrArg Int64.toInt h
  rw [zL_ofInt (by omega) (by omega)] at h2
  have h3 : (0 : Int64).toInt = 0 := rfl
  omega
end
section
/-! ===== the reference: winds ===== -/
/-- the reference's world: int rows a, long rows b, by their places; the numbers c -/
def WM (a : Nat → Nat → Int32) (b : Nat → Nat → Int64) (c : Nat → Int32) : ZW := [.inr (6, [.ref 1, .ref 2, .ref 3, .ref 4, .ref 5, .ref 6, .ref 7, .ref 8, .ref 9, .ref 10, .int (c 0), .ref 11, .ref 12, .ref 13, .ref 14, .ref 15, .ref 16, .int (c 1), .int (c 2), .ref 17, .ref 18, .ref 19]), .inl (0, 24, .inl (a 1)), .inl (1, 90, .inr (b 2)), .inl (1, 10, .inr (b 3)), .inl (0, 4, .inl (a 4)), .inl (0, 4, .inl (a 5)), .inl (0, 96, .inl (a 6)), .inl (0, 3, .inl (a 7)), .inl (0, 72, .inl (a 8)), .inl (1, 27, .inr (b 9)), .inl (1, 12, .inr (b 10)), .inl (1, 9, .inr (b 11)), .inl (0, 4, .inl (a 12)), .inl (2, 4, .inl (a 13)), .inl (2, 4, .inl (a 14)), .inl (0, 4, .inl (a 15)), .inl (1, 1200, .inr (b 16)), .inl (0, 3, .inl (a 17)), .inl (0, 3, .inl (a 18)), .inl (0, 4, .inl (a 19))]
set_option maxHeartbeats 4000000 in
set_option maxRecDepth 100000 in
theorem c_X6_in (v lo hi : Int64) (w : ZW) : ∀ l, ZC l yX6_in cX6_in 6 (some .boolean) 0 [.long v, .long lo, .long hi] w (fun r w' => w' = w ∧ ((lo ≤ v ∧ v ≤ hi ∧ r = some (.int (nI 1))) ∨ (¬ (lo ≤ v ∧ v ≤ hi) ∧ r = some (.int (nI 0))))) := by
  intro l
  refine zc_intro (oc := 6) (by decide +kernel) rfl (Nat.le_of_ble_eq_true rfl) ?_
  intro X hX hR
  refine z_norm (ls' := [_, _, _, _, _, _]) rfl rfl rfl ?_
  refine z_lload_n hX dX6_in_0 rfl ?_
  refine z_lload_n hX dX6_in_1 rfl ?_
  refine z_lcmp hX dX6_in_2 ?_
  refine z_lif_lt (tgt := 17) hX dX6_in_3 (by decide) (fun c_3 => ?_) (fun c_3 => ?_)
  · -- 3 t
    refine z_iconst (v := nI 0) hX dX6_in_17 rfl ?_
    refine z_zret hX hR dX6_in_18 (by first | exact Or.inl rfl | exact Or.inr rfl | assumption) ?_
    first | exact ⟨rfl, Or.inl ⟨c_3, c_10, rfl⟩⟩ | exact ⟨rfl, Or.inr ⟨fun q => absurd q.1 (Int64.not_le.mpr c_3), rfl⟩⟩ | exact ⟨rfl, Or.inr ⟨fun q => absurd q.2 (Int64.not_le.mpr c_10), rfl⟩⟩
  · -- 3 f
    refine z_lload_n hX dX6_in_6 rfl ?_
    refine z_lload hX dX6_in_7 rfl ?_
    refine z_lcmp hX dX6_in_9 ?_
    refine z_lif_gt (tgt := 17) hX dX6_in_10 (by decide) (fun c_10 => ?_) (fun c_10 => ?_)
    · -- 10 t
      refine z_iconst (v := nI 0) hX dX6_in_17 rfl ?_
      refine z_zret hX hR dX6_in_18 (by first | exact Or.inl rfl | exact Or.inr rfl | assumption) ?_
      first | exact ⟨rfl, Or.inl ⟨c_3, c_10, rfl⟩⟩ | exact ⟨rfl, Or.inr ⟨fun q => absurd q.1 (Int64.not_le.mpr c_3), rfl⟩⟩ | exact ⟨rfl, Or.inr ⟨fun q => absurd q.2 (Int64.not_le.mpr c_10), rfl⟩⟩
    · -- 10 f
      refine z_iconst (v := nI 1) hX dX6_in_13 rfl ?_
      refine z_goto (tgt := 18) hX dX6_in_14 (by decide) ?_
      refine z_zret hX hR dX6_in_18 (by first | exact Or.inl rfl | exact Or.inr rfl | assumption) ?_
      first | exact ⟨rfl, Or.inl ⟨c_3, c_10, rfl⟩⟩ | exact ⟨rfl, Or.inr ⟨fun q => absurd q.1 (Int64.not_le.mpr c_3), rfl⟩⟩ | exact ⟨rfl, Or.inr ⟨fun q => absurd q.2 (Int64.not_le.mpr c_10), rfl⟩⟩
def boxAtF (x y : Int32) : Int32 := if (0 ≤ x.toInt64 ∧ x.toInt64 ≤ 2) ∧ (0 ≤ y.toInt64 ∧ y.toInt64 ≤ 2) then nI 3 * y + x else nI 9
set_option maxHeartbeats 4000000 in
set_option maxRecDepth 100000 in
theorem c_X6_boxAt (x y : Int32) (w : ZW) : ∀ l, ZC l yX6_boxAt cX6_boxAt 2 (some .int) 1 [.int x, .int y] w (fun r w' => w' = w ∧ r = some (.int (boxAtF x y))) := by
  intro l
  refine zc_intro (oc := 6) (by decide +kernel) rfl (Nat.le_of_ble_eq_true rfl) ?_
  intro X hX hR
  refine z_norm (ls' := [_, _]) rfl rfl rfl ?_
  refine z_iload_n hX dX6_boxAt_0 rfl ?_
  first | with_reducible refine z_i2lN hX dX6_boxAt_1 (by omega) ?_ | refine z_i2l hX dX6_boxAt_1 ?_
  refine z_lconst (v := 0) hX dX6_boxAt_2 rfl ?_
  refine z_ldc2 hX dX6_boxAt_3 k_6_79 ?_
  refine z_callS0 hX dX6_boxAt_6 ms_6_71 (c_X6_in _ _ _ _) (by decide) rfl rfl (Nat.le_of_ble_eq_true rfl) (fun r w1 hp _ => ?_)
  obtain ⟨rfl, ⟨a1, a2, rfl⟩ | ⟨a, rfl⟩⟩ := hp
  · -- 6 T
    refine z_if_eq (tgt := 32) hX dX6_boxAt_9 (by decide) (fun c => absurd c (by decide)) (fun _ => ?_)
    refine z_iload_n hX dX6_boxAt_12 rfl ?_
    first | with_reducible refine z_i2lN hX dX6_boxAt_13 (by omega) ?_ | refine z_i2l hX dX6_boxAt_13 ?_
    refine z_lconst (v := 0) hX dX6_boxAt_14 rfl ?_
    refine z_ldc2 hX dX6_boxAt_15 k_6_79 ?_
    refine z_callS0 hX dX6_boxAt_18 ms_6_71 (c_X6_in _ _ _ _) (by decide) rfl rfl (Nat.le_of_ble_eq_true rfl) (fun r w1 hp _ => ?_)
    obtain ⟨rfl, ⟨b1, b2, rfl⟩ | ⟨b, rfl⟩⟩ := hp
    · -- 18 T
      refine z_if_eq (tgt := 32) hX dX6_boxAt_21 (by decide) (fun c => absurd c (by decide)) (fun _ => ?_)
      refine z_iconst (v := nI 3) hX dX6_boxAt_24 rfl ?_
      refine z_iload_n hX dX6_boxAt_25 rfl ?_
      first | with_reducible refine z_imulN hX dX6_boxAt_26 ?_ | refine z_imul hX dX6_boxAt_26 ?_
      refine z_iload_n hX dX6_boxAt_27 rfl ?_
      first | with_reducible refine z_iaddN hX dX6_boxAt_28 ?_ | refine z_iadd hX dX6_boxAt_28 ?_
      refine z_goto (tgt := 34) hX dX6_boxAt_29 (by decide) ?_
      refine z_iret hX hR dX6_boxAt_34 ?_
      refine ⟨rfl, ?_⟩
      unfold boxAtF
      split
      · rename_i q
        first | rfl | exact absurd q.1 (by assumption) | exact absurd q.2 (by assumption)
      · rename_i q
        first | rfl | exact absurd ⟨⟨by assumption, by assumption⟩, by assumption, by assumption⟩ q
    · -- 18 F
      refine z_if_eq (tgt := 32) hX dX6_boxAt_21 (by decide) (fun _ => ?_) (fun c => absurd c (by decide))
      refine z_bipush (v := nI 9) hX dX6_boxAt_32 rfl ?_
      refine z_iret hX hR dX6_boxAt_34 ?_
      refine ⟨rfl, ?_⟩
      unfold boxAtF
      split
      · rename_i q
        first | rfl | exact absurd q.1 (by assumption) | exact absurd q.2 (by assumption)
      · rename_i q
        first | rfl | exact absurd ⟨⟨by assumption, by assumption⟩, by assumption, by assumption⟩ q
  · -- 6 F
    refine z_if_eq (tgt := 32) hX dX6_boxAt_9 (by decide) (fun _ => ?_) (fun c => absurd c (by decide))
    refine z_bipush (v := nI 9) hX dX6_boxAt_32 rfl ?_
    refine z_iret hX hR dX6_boxAt_34 ?_
    refine ⟨rfl, ?_⟩
    unfold boxAtF
    split
    · rename_i q
      first | rfl | exact absurd q.1 (by assumption) | exact absurd q.2 (by assumption)
    · rename_i q
      first | rfl | exact absurd ⟨⟨by assumption, by assumption⟩, by assumption, by assumption⟩ q
theorem fromOf_ok : ∀ k, k < 24 → (if k < 12 then boxAtF (nI (k % 4) - nI 1) (nI (k / 4)) else boxAtF (nI ((k - 12) % 3)) (nI ((k - 12) / 3) - nI 1)) = nI (zFROM.getD k 0) := by decide +kernel
theorem toOf_ok : ∀ k, k < 24 → (if k < 12 then boxAtF (nI (k % 4)) (nI (k / 4)) else boxAtF (nI ((k - 12) % 3)) (nI ((k - 12) / 3))) = nI (zTO.getD k 0) := by decide +kernel
set_option maxHeartbeats 4000000 in
set_option maxRecDepth 100000 in
theorem c_X6_fromOf (k : Nat) (hk : k < 24) (w : ZW) : ∀ l, ZC l yX6_fromOf cX6_fromOf 1 (some .int) 2 [.int (nI k)] w (fun r w' => w' = w ∧ r = some (.int (nI (zFROM.getD k 0)))) := by
  intro l
  refine zc_intro (oc := 6) (by decide +kernel) rfl (Nat.le_of_ble_eq_true rfl) ?_
  intro X hX hR
  refine z_norm (ls' := [_]) rfl rfl rfl ?_
  refine z_iload_n hX dX6_fromOf_0 rfl ?_
  refine z_bipush (v := nI 12) hX dX6_fromOf_1 rfl ?_
  first | with_reducible refine z_icmp_geN (tgt := 20) hX dX6_fromOf_3 (by decide) (by omega) (by omega) (fun c_3 => ?_) (fun c_3 => ?_) | refine z_icmp_ge (tgt := 20) hX dX6_fromOf_3 (by decide) (fun c_3 => ?_) (fun c_3 => ?_)
  · -- 3 t
    refine z_iload_n hX dX6_fromOf_20 rfl ?_
    refine z_bipush (v := nI 12) hX dX6_fromOf_21 rfl ?_
    first | with_reducible refine z_isubN hX dX6_fromOf_23 (by omega) ?_ | refine z_isub hX dX6_fromOf_23 ?_
    refine z_iconst (v := nI 3) hX dX6_fromOf_24 rfl ?_
    first | with_reducible refine z_iremN hX dX6_fromOf_25 (by omega) (by decide) (by decide) ?_ | refine z_irem hX dX6_fromOf_25 (by decide) ?_
    refine z_iload_n hX dX6_fromOf_26 rfl ?_
    refine z_bipush (v := nI 12) hX dX6_fromOf_27 rfl ?_
    first | with_reducible refine z_isubN hX dX6_fromOf_29 (by omega) ?_ | refine z_isub hX dX6_fromOf_29 ?_
    refine z_iconst (v := nI 3) hX dX6_fromOf_30 rfl ?_
    first | with_reducible refine z_idivN hX dX6_fromOf_31 (by omega) (by decide) (by decide) ?_ | refine z_idiv hX dX6_fromOf_31 (by decide) ?_
    refine z_iconst (v := nI 1) hX dX6_fromOf_32 rfl ?_
    refine z_isub hX dX6_fromOf_33 ?_
    refine z_callS0 hX dX6_fromOf_34 ms_6_81 (c_X6_boxAt _ _ _) (by decide) rfl rfl (Nat.le_of_ble_eq_true rfl) (fun r w1 hp _ => ?_)
    obtain ⟨rfl, rfl⟩ := hp
    refine z_iret hX hR dX6_fromOf_37 ?_
    have hk := fromOf_ok k hk
    first | (rw [if_pos (by omega)] at hk; exact ⟨rfl, by rw [hk]⟩) | (rw [if_neg (by omega)] at hk; exact ⟨rfl, by rw [hk]⟩)
  · -- 3 f
    refine z_iload_n hX dX6_fromOf_6 rfl ?_
    refine z_iconst (v := nI 4) hX dX6_fromOf_7 rfl ?_
    first | with_reducible refine z_iremN hX dX6_fromOf_8 (by omega) (by decide) (by decide) ?_ | refine z_irem hX dX6_fromOf_8 (by decide) ?_
    refine z_iconst (v := nI 1) hX dX6_fromOf_9 rfl ?_
    refine z_isub hX dX6_fromOf_10 ?_
    refine z_iload_n hX dX6_fromOf_11 rfl ?_
    refine z_iconst (v := nI 4) hX dX6_fromOf_12 rfl ?_
    first | with_reducible refine z_idivN hX dX6_fromOf_13 (by omega) (by decide) (by decide) ?_ | refine z_idiv hX dX6_fromOf_13 (by decide) ?_
    refine z_callS0 hX dX6_fromOf_14 ms_6_81 (c_X6_boxAt _ _ _) (by decide) rfl rfl (Nat.le_of_ble_eq_true rfl) (fun r w1 hp _ => ?_)
    obtain ⟨rfl, rfl⟩ := hp
    refine z_goto (tgt := 37) hX dX6_fromOf_17 (by decide) ?_
    refine z_iret hX hR dX6_fromOf_37 ?_
    have hk := fromOf_ok k hk
    first | (rw [if_pos (by omega)] at hk; exact ⟨rfl, by rw [hk]⟩) | (rw [if_neg (by omega)] at hk; exact ⟨rfl, by rw [hk]⟩)
set_option maxHeartbeats 4000000 in
set_option maxRecDepth 100000 in
theorem c_X6_toOf (k : Nat) (hk : k < 24) (w : ZW) : ∀ l, ZC l yX6_toOf cX6_toOf 1 (some .int) 2 [.int (nI k)] w (fun r w' => w' = w ∧ r = some (.int (nI (zTO.getD k 0)))) := by
  intro l
  refine zc_intro (oc := 6) (by decide +kernel) rfl (Nat.le_of_ble_eq_true rfl) ?_
  intro X hX hR
  refine z_norm (ls' := [_]) rfl rfl rfl ?_
  refine z_iload_n hX dX6_toOf_0 rfl ?_
  refine z_bipush (v := nI 12) hX dX6_toOf_1 rfl ?_
  first | with_reducible refine z_icmp_geN (tgt := 18) hX dX6_toOf_3 (by decide) (by omega) (by omega) (fun c_3 => ?_) (fun c_3 => ?_) | refine z_icmp_ge (tgt := 18) hX dX6_toOf_3 (by decide) (fun c_3 => ?_) (fun c_3 => ?_)
  · -- 3 t
    refine z_iload_n hX dX6_toOf_18 rfl ?_
    refine z_bipush (v := nI 12) hX dX6_toOf_19 rfl ?_
    first | with_reducible refine z_isubN hX dX6_toOf_21 (by omega) ?_ | refine z_isub hX dX6_toOf_21 ?_
    refine z_iconst (v := nI 3) hX dX6_toOf_22 rfl ?_
    first | with_reducible refine z_iremN hX dX6_toOf_23 (by omega) (by decide) (by decide) ?_ | refine z_irem hX dX6_toOf_23 (by decide) ?_
    refine z_iload_n hX dX6_toOf_24 rfl ?_
    refine z_bipush (v := nI 12) hX dX6_toOf_25 rfl ?_
    first | with_reducible refine z_isubN hX dX6_toOf_27 (by omega) ?_ | refine z_isub hX dX6_toOf_27 ?_
    refine z_iconst (v := nI 3) hX dX6_toOf_28 rfl ?_
    first | with_reducible refine z_idivN hX dX6_toOf_29 (by omega) (by decide) (by decide) ?_ | refine z_idiv hX dX6_toOf_29 (by decide) ?_
    refine z_callS0 hX dX6_toOf_30 ms_6_81 (c_X6_boxAt _ _ _) (by decide) rfl rfl (Nat.le_of_ble_eq_true rfl) (fun r w1 hp _ => ?_)
    obtain ⟨rfl, rfl⟩ := hp
    refine z_iret hX hR dX6_toOf_33 ?_
    have hk := toOf_ok k hk
    first | (rw [if_pos (by omega)] at hk; exact ⟨rfl, by rw [hk]⟩) | (rw [if_neg (by omega)] at hk; exact ⟨rfl, by rw [hk]⟩)
  · -- 3 f
    refine z_iload_n hX dX6_toOf_6 rfl ?_
    refine z_iconst (v := nI 4) hX dX6_toOf_7 rfl ?_
    first | with_reducible refine z_iremN hX dX6_toOf_8 (by omega) (by decide) (by decide) ?_ | refine z_irem hX dX6_toOf_8 (by decide) ?_
    refine z_iload_n hX dX6_toOf_9 rfl ?_
    refine z_iconst (v := nI 4) hX dX6_toOf_10 rfl ?_
    first | with_reducible refine z_idivN hX dX6_toOf_11 (by omega) (by decide) (by decide) ?_ | refine z_idiv hX dX6_toOf_11 (by decide) ?_
    refine z_callS0 hX dX6_toOf_12 ms_6_81 (c_X6_boxAt _ _ _) (by decide) rfl rfl (Nat.le_of_ble_eq_true rfl) (fun r w1 hp _ => ?_)
    obtain ⟨rfl, rfl⟩ := hp
    refine z_goto (tgt := 33) hX dX6_toOf_15 (by decide) ?_
    refine z_iret hX hR dX6_toOf_33 ?_
    have hk := toOf_ok k hk
    first | (rw [if_pos (by omega)] at hk; exact ⟨rfl, by rw [hk]⟩) | (rw [if_neg (by omega)] at hk; exact ⟨rfl, by rw [hk]⟩)
end
section
/-! ===== the reference: what a box gives, heights, the still net ===== -/
def zJ (x : Int32) (n : Nat) : Prop := ∃ j : Nat, j < n ∧ x = nI j
theorem zJ_iff {x : Int32} {n : Nat} (hn : n < 2147483648) : zJ x n ↔ 0 ≤ x.toInt ∧ x.toInt < n := by
  constructor
  · rintro ⟨j, hj, rfl⟩
    rw [nI_toInt (by omega)]
    omega
  · rintro ⟨h1, h2⟩
    refine ⟨x.toInt.toNat, by omega, ?_⟩
    rw [← Int32.toInt_inj, nI_toInt (by omega)]
    omega
theorem zJ_nI {a n : Nat} (ha : a < 2147483648) (hn : n < 2147483648) : zJ (nI a) n ↔ a < n := by
  rw [zJ_iff hn, nI_toInt ha]
  omega
theorem zinJ {x : Int32} {hi : Int64} {n : Nat} {r : Option Value} (e : hi.toInt + 1 = n) (hn : n < 2147483648) (hp : (0 ≤ x.toInt64 ∧ x.toInt64 ≤ hi ∧ r = some (.int (nI 1))) ∨ (¬ (0 ≤ x.toInt64 ∧ x.toInt64 ≤ hi) ∧ r = some (.int (nI 0)))) : (zJ x n ∧ r = some (.int (nI 1))) ∨ (¬ zJ x n ∧ r = some (.int (nI 0))) := by
  have h0 : (0 : Int64).toInt = 0 := rfl
  have key : (0 ≤ x.toInt64 ∧ x.toInt64 ≤ hi) ↔ zJ x n := by
    rw [zJ_iff hn, Int64.le_iff_toInt_le, Int64.le_iff_toInt_le, Int32.toInt_toInt64, h0]
    omega
  rcases hp with ⟨h1, h2, h3⟩ | ⟨h1, h3⟩
  · exact Or.inl ⟨key.mp ⟨h1, h2⟩, h3⟩
  · exact Or.inr ⟨fun q => h1 (key.mpr q), h3⟩
def zfold {α : Type} (f : Nat → α → α) : Nat → α → α
  | 0, x => x
  | n + 1, x => f n (zfold f n x)
theorem zFROM_le (k : Nat) : zFROM.getD k 0 ≤ 9 := by
  by_cases h : k < 24
  · exact (by decide +kernel : ∀ k, k < 24 → zFROM.getD k 0 ≤ 9) k h
  · rw [List.getD_eq_getElem?_getD, List.getElem?_eq_none (by show 24 ≤ k; omega)]
    exact Nat.zero_le _
theorem zTO_le (k : Nat) : zTO.getD k 0 ≤ 9 := by
  by_cases h : k < 24
  · exact (by decide +kernel : ∀ k, k < 24 → zTO.getD k 0 ≤ 9) k h
  · rw [List.getD_eq_getElem?_getD, List.getElem?_eq_none (by show 24 ≤ k; omega)]
    exact Nat.zero_le _
def giveT (wn : Nat → Int32) (box k : Nat) : Int32 := if zFROM.getD k 0 = box then wn k else if zTO.getD k 0 = box then -(wn k) else nI 0
def giveF (wn : Nat → Int32) (box : Nat) (n : Nat) : Int32 := zfold (fun k s => s + giveT wn box k) n (nI 0)
theorem giveF_s (wn : Nat → Int32) (box n : Nat) : giveF wn box (n + 1) = giveF wn box n + giveT wn box n := rfl
set_option maxHeartbeats 4000000 in
set_option maxRecDepth 100000 in
theorem lp_X6_given_4 {X : ZX} {post : Option Value → ZW → Prop} (hX : ZOK X 6 cX6_given 3) (hR : ZRet X (some .int) post) (a : Nat → Nat → Int32) (b : Nat → Nat → Int64) (c : Nat → Int32) (box : Nat) (hb : box < 9) (hpost : post (some (.int (giveF (a 1) box 24))) (WM a b c)) : ∀ (n k : Nat), k ≤ 24 → 24 < k + n → ZG X 4 [some (.ref 0), some (.int (nI box)), some (.int (giveF (a 1) box k)), some (.int (nI k))] [] (WM a b c) := by
  intro n
  induction n with
  | zero => intro k h1 h2; omega
  | succ n ih =>
    intro k hk1 hk2
    refine z_iload_n hX dX6_given_4 rfl ?_
    refine z_bipush (v := nI 24) hX dX6_given_5 rfl ?_
    first | with_reducible refine z_icmp_geN (tgt := 55) hX dX6_given_7 (by decide) (by omega) (by omega) (fun c_7 => ?_) (fun c_7 => ?_) | refine z_icmp_ge (tgt := 55) hX dX6_given_7 (by decide) (fun c_7 => ?_) (fun c_7 => ?_)
    · -- 7 t
      have zk : k = 24 := by omega
      subst zk
      refine z_iload_n hX dX6_given_55 rfl ?_
      refine z_iret hX hR dX6_given_56 ?_
      exact hpost
    · -- 7 f
      have ih2 := ih (k + 1) (by omega) (by omega)
      rw [giveF_s] at ih2
      unfold giveT at ih2
      have hF := zFROM_le k
      have hT := zTO_le k
      refine z_iload_n hX dX6_given_10 rfl ?_
      refine z_iload_n hX dX6_given_11 rfl ?_
      refine z_callS0 hX dX6_given_12 ms_6_85 (c_X6_fromOf k (by omega) _) (by decide) rfl rfl (Nat.le_of_ble_eq_true rfl) (fun r w1 hp _ => ?_)
      obtain ⟨rfl, rfl⟩ := hp
      refine z_iload_n hX dX6_given_15 rfl ?_
      first | with_reducible refine z_icmp_neN (tgt := 28) hX dX6_given_16 (by decide) (by omega) (by omega) (fun c_16 => ?_) (fun c_16 => ?_) | refine z_icmp_ne (tgt := 28) hX dX6_given_16 (by decide) (fun c_16 => ?_) (fun c_16 => ?_)
      · -- 16 t
        refine z_iload_n hX dX6_given_28 rfl ?_
        refine z_callS0 hX dX6_given_29 ms_6_89 (c_X6_toOf k (by omega) _) (by decide) rfl rfl (Nat.le_of_ble_eq_true rfl) (fun r w1 hp _ => ?_)
        obtain ⟨rfl, rfl⟩ := hp
        refine z_iload_n hX dX6_given_32 rfl ?_
        first | with_reducible refine z_icmp_neN (tgt := 46) hX dX6_given_33 (by decide) (by omega) (by omega) (fun c_33 => ?_) (fun c_33 => ?_) | refine z_icmp_ne (tgt := 46) hX dX6_given_33 (by decide) (fun c_33 => ?_) (fun c_33 => ?_)
        · -- 33 t
          refine z_iconst (v := nI 0) hX dX6_given_46 rfl ?_
          first | with_reducible refine z_iaddN hX dX6_given_47 ?_ | refine z_iadd hX dX6_given_47 ?_
          refine z_istore_n (ls' := [_, _, _, _]) hX dX6_given_48 (Nat.le_of_ble_eq_true rfl) rfl ?_
          first | refine z_iincN (b := 1) (ls' := [_, _, _, _]) hX dX6_given_49 rfl rfl rfl ?_ | refine z_iinc (ls' := [_, _, _, _]) hX dX6_given_49 rfl rfl ?_
          refine z_goto (tgt := 4) hX dX6_given_52 (by decide) ?_
          first | (rw [if_pos c_16] at ih2; exact ih2) | (rw [if_neg c_16, if_pos c_33] at ih2; exact ih2) | (rw [if_neg c_16, if_neg c_33] at ih2; exact ih2)
        · -- 33 f
          refine z_aload_n hX dX6_given_36 rfl ?_
          refine z_get hX dX6_given_37 f_6_7 rfl rfl ?_
          refine z_iload_n hX dX6_given_40 rfl ?_
          first | refine z_iald hX dX6_given_41 rfl (by omega) (by decide) ?_ | refine z_stld (nm := "FROM") (xs := zFROM) hX dX6_given_41 (fun _ _ _ _ h => h.1) (by show _ < 24; omega) (by decide) ?_ | refine z_stld (nm := "TO") (xs := zTO) hX dX6_given_41 (fun _ _ _ _ h => h.2.1) (by show _ < 24; omega) (by decide) ?_ | refine z_stld (nm := "FALL") (xs := zFALL) hX dX6_given_41 (fun _ _ _ _ h => h.2.2.1) (by show _ < 81; omega) (by decide) ?_
          refine z_ineg hX dX6_given_42 ?_
          refine z_goto (tgt := 47) hX dX6_given_43 (by decide) ?_
          first | with_reducible refine z_iaddN hX dX6_given_47 ?_ | refine z_iadd hX dX6_given_47 ?_
          refine z_istore_n (ls' := [_, _, _, _]) hX dX6_given_48 (Nat.le_of_ble_eq_true rfl) rfl ?_
          first | refine z_iincN (b := 1) (ls' := [_, _, _, _]) hX dX6_given_49 rfl rfl rfl ?_ | refine z_iinc (ls' := [_, _, _, _]) hX dX6_given_49 rfl rfl ?_
          refine z_goto (tgt := 4) hX dX6_given_52 (by decide) ?_
          first | (rw [if_pos c_16] at ih2; exact ih2) | (rw [if_neg c_16, if_pos c_33] at ih2; exact ih2) | (rw [if_neg c_16, if_neg c_33] at ih2; exact ih2)
      · -- 16 f
        refine z_aload_n hX dX6_given_19 rfl ?_
        refine z_get hX dX6_given_20 f_6_7 rfl rfl ?_
        refine z_iload_n hX dX6_given_23 rfl ?_
        first | refine z_iald hX dX6_given_24 rfl (by omega) (by decide) ?_ | refine z_stld (nm := "FROM") (xs := zFROM) hX dX6_given_24 (fun _ _ _ _ h => h.1) (by show _ < 24; omega) (by decide) ?_ | refine z_stld (nm := "TO") (xs := zTO) hX dX6_given_24 (fun _ _ _ _ h => h.2.1) (by show _ < 24; omega) (by decide) ?_ | refine z_stld (nm := "FALL") (xs := zFALL) hX dX6_given_24 (fun _ _ _ _ h => h.2.2.1) (by show _ < 81; omega) (by decide) ?_
        refine z_goto (tgt := 47) hX dX6_given_25 (by decide) ?_
        first | with_reducible refine z_iaddN hX dX6_given_47 ?_ | refine z_iadd hX dX6_given_47 ?_
        refine z_istore_n (ls' := [_, _, _, _]) hX dX6_given_48 (Nat.le_of_ble_eq_true rfl) rfl ?_
        first | refine z_iincN (b := 1) (ls' := [_, _, _, _]) hX dX6_given_49 rfl rfl rfl ?_ | refine z_iinc (ls' := [_, _, _, _]) hX dX6_given_49 rfl rfl ?_
        refine z_goto (tgt := 4) hX dX6_given_52 (by decide) ?_
        first | (rw [if_pos c_16] at ih2; exact ih2) | (rw [if_neg c_16, if_pos c_33] at ih2; exact ih2) | (rw [if_neg c_16, if_neg c_33] at ih2; exact ih2)
set_option maxHeartbeats 4000000 in
set_option maxRecDepth 100000 in
theorem c_X6_given (a : Nat → Nat → Int32) (b : Nat → Nat → Int64) (c : Nat → Int32) (box : Nat) (hb : box < 9) : ∀ l, ZC l yX6_given cX6_given 4 (some .int) 3 [.ref 0, .int (nI box)] (WM a b c) (fun r w' => w' = WM a b c ∧ r = some (.int (giveF (a 1) box 24))) := by
  intro l
  refine zc_intro (oc := 6) (by decide +kernel) rfl (Nat.le_of_ble_eq_true rfl) ?_
  intro X hX hR
  refine z_norm (ls' := [_, _, _, _]) rfl rfl rfl ?_
  refine z_iconst (v := nI 0) hX dX6_given_0 rfl ?_
  refine z_istore_n (ls' := [_, _, _, _]) hX dX6_given_1 (Nat.le_of_ble_eq_true rfl) rfl ?_
  refine z_iconst (v := nI 0) hX dX6_given_2 rfl ?_
  refine z_istore_n (ls' := [_, _, _, _]) hX dX6_given_3 (Nat.le_of_ble_eq_true rfl) rfl ?_
  exact lp_X6_given_4 hX hR a b c box hb ⟨rfl, rfl⟩ 25 0 (by omega) (by omega)
def zB (x : Int32) (lo hi : Int) : Prop := lo ≤ x.toInt ∧ x.toInt ≤ hi
theorem zinB {x : Int32} {lo hi : Int64} {r : Option Value} {a b : Int} (e1 : lo.toInt = a) (e2 : hi.toInt = b) (hp : (lo ≤ x.toInt64 ∧ x.toInt64 ≤ hi ∧ r = some (.int (nI 1))) ∨ (¬ (lo ≤ x.toInt64 ∧ x.toInt64 ≤ hi) ∧ r = some (.int (nI 0)))) : (zB x a b ∧ r = some (.int (nI 1))) ∨ (¬ zB x a b ∧ r = some (.int (nI 0))) := by
  have key : (lo ≤ x.toInt64 ∧ x.toInt64 ≤ hi) ↔ zB x a b := by
    unfold zB
    rw [Int64.le_iff_toInt_le, Int64.le_iff_toInt_le, Int32.toInt_toInt64, e1, e2]
  rcases hp with ⟨h1, h2, h3⟩ | ⟨h1, h3⟩
  · exact Or.inl ⟨key.mp ⟨h1, h2⟩, h3⟩
  · exact Or.inr ⟨fun q => h1 (key.mpr q), h3⟩
set_option maxHeartbeats 4000000 in
set_option maxRecDepth 100000 in
theorem c_X6_wind (a : Nat → Nat → Int32) (b : Nat → Nat → Int64) (c : Nat → Int32) (x y : Int32) : ∀ l, ZC l yX6_wind cX6_wind 4 (some .int) 1 [.ref 0, .int x, .int y] (WM a b c) (fun r w' => (¬ (zJ x 24 ∧ zB y (-100) 100) ∧ r = some (.int (-1001)) ∧ w' = WM a b c) ∨ ∃ j, j < 24 ∧ x = nI j ∧ zB y (-100) 100 ∧ r = some (.int (a 1 j)) ∧ w' = WM (va_up a 1 (upd (a 1) j y)) b c) := by
  intro l
  refine zc_intro (oc := 6) (by decide +kernel) rfl (Nat.le_of_ble_eq_true rfl) ?_
  intro X hX hR
  refine z_norm (ls' := [_, _, _, _]) rfl rfl rfl ?_
  refine z_iload_n hX dX6_wind_0 rfl ?_
  first | with_reducible refine z_i2lN hX dX6_wind_1 (by omega) ?_ | refine z_i2l hX dX6_wind_1 ?_
  refine z_lconst (v := 0) hX dX6_wind_2 rfl ?_
  refine z_ldc2 hX dX6_wind_3 k_6_69 ?_
  refine z_callS0 hX dX6_wind_6 ms_6_71 (c_X6_in _ _ _ _) (by decide) rfl rfl (Nat.le_of_ble_eq_true rfl) (fun r w1 hp _ => ?_)
  obtain ⟨rfl, hp⟩ := hp
  rcases zinJ (n := 24) rfl (by decide) hp with ⟨⟨j, hj, rfl⟩, rfl⟩ | ⟨hn, rfl⟩
  · -- 6 T
    refine z_if_eq (tgt := 26) hX dX6_wind_9 (by decide) (fun c => absurd c (by decide)) (fun _ => ?_)
    refine z_iload_n hX dX6_wind_12 rfl ?_
    first | with_reducible refine z_i2lN hX dX6_wind_13 (by omega) ?_ | refine z_i2l hX dX6_wind_13 ?_
    refine z_ldc2 hX dX6_wind_14 k_6_75 ?_
    refine z_ldc2 hX dX6_wind_17 k_6_77 ?_
    refine z_callS0 hX dX6_wind_20 ms_6_71 (c_X6_in _ _ _ _) (by decide) rfl rfl (Nat.le_of_ble_eq_true rfl) (fun r w1 hp _ => ?_)
    obtain ⟨rfl, hp⟩ := hp
    rcases zinB (a := -100) (b := 100) rfl rfl hp with ⟨hB, rfl⟩ | ⟨hnB, rfl⟩
    · -- 20 T
      refine z_if_ne (tgt := 30) hX dX6_wind_23 (by decide) (fun _ => ?_) (fun c => absurd c (by decide))
      refine z_aload_n hX dX6_wind_30 rfl ?_
      refine z_get hX dX6_wind_31 f_6_7 rfl rfl ?_
      refine z_iload_n hX dX6_wind_34 rfl ?_
      first | refine z_iald hX dX6_wind_35 rfl (by omega) (by decide) ?_ | refine z_stld (nm := "FROM") (xs := zFROM) hX dX6_wind_35 (fun _ _ _ _ h => h.1) (by show _ < 24; omega) (by decide) ?_ | refine z_stld (nm := "TO") (xs := zTO) hX dX6_wind_35 (fun _ _ _ _ h => h.2.1) (by show _ < 24; omega) (by decide) ?_ | refine z_stld (nm := "FALL") (xs := zFALL) hX dX6_wind_35 (fun _ _ _ _ h => h.2.2.1) (by show _ < 81; omega) (by decide) ?_
      refine z_istore_n (ls' := [_, _, _, _]) hX dX6_wind_36 (Nat.le_of_ble_eq_true rfl) rfl ?_
      refine z_aload_n hX dX6_wind_37 rfl ?_
      refine z_get hX dX6_wind_38 f_6_7 rfl rfl ?_
      refine z_iload_n hX dX6_wind_41 rfl ?_
      refine z_iload_n hX dX6_wind_42 rfl ?_
      refine z_iast (w' := [_, _, _, _, _, _, _, _, _, _, _, _, _, _, _, _, _, _, _, _]) hX dX6_wind_43 rfl (by omega) (by decide) rfl ?_
      refine z_iload_n hX dX6_wind_44 rfl ?_
      refine z_iret hX hR dX6_wind_45 ?_
      first | exact Or.inl ⟨fun q => hn q.1, rfl, rfl⟩ | exact Or.inl ⟨fun q => hnB q.2, rfl, rfl⟩ | exact Or.inr ⟨j, hj, rfl, hB, rfl, rfl⟩
    · -- 20 F
      refine z_if_ne (tgt := 30) hX dX6_wind_23 (by decide) (fun c => absurd c (by decide)) (fun _ => ?_)
      refine z_sipush (v := -1001) hX dX6_wind_26 rfl ?_
      refine z_iret hX hR dX6_wind_29 ?_
      first | exact Or.inl ⟨fun q => hn q.1, rfl, rfl⟩ | exact Or.inl ⟨fun q => hnB q.2, rfl, rfl⟩ | exact Or.inr ⟨j, hj, rfl, hB, rfl, rfl⟩
  · -- 6 F
    refine z_if_eq (tgt := 26) hX dX6_wind_9 (by decide) (fun _ => ?_) (fun c => absurd c (by decide))
    refine z_sipush (v := -1001) hX dX6_wind_26 rfl ?_
    refine z_iret hX hR dX6_wind_29 ?_
    first | exact Or.inl ⟨fun q => hn q.1, rfl, rfl⟩ | exact Or.inl ⟨fun q => hnB q.2, rfl, rfl⟩ | exact Or.inr ⟨j, hj, rfl, hB, rfl, rfl⟩
set_option maxHeartbeats 4000000 in
set_option maxRecDepth 100000 in
theorem c_X6_gives (a : Nat → Nat → Int32) (b : Nat → Nat → Int64) (c : Nat → Int32) (x : Int32) : ∀ l, ZC l yX6_gives cX6_gives 2 (some .int) 4 [.ref 0, .int x] (WM a b c) (fun r w' => w' = WM a b c ∧ ((¬ zJ x 9 ∧ r = some (.int (-1001))) ∨ ∃ j, j < 9 ∧ x = nI j ∧ r = some (.int (giveF (a 1) j 24)))) := by
  intro l
  refine zc_intro (oc := 6) (by decide +kernel) rfl (Nat.le_of_ble_eq_true rfl) ?_
  intro X hX hR
  refine z_norm (ls' := [_, _]) rfl rfl rfl ?_
  refine z_iload_n hX dX6_gives_0 rfl ?_
  first | with_reducible refine z_i2lN hX dX6_gives_1 (by omega) ?_ | refine z_i2l hX dX6_gives_1 ?_
  refine z_lconst (v := 0) hX dX6_gives_2 rfl ?_
  refine z_ldc2 hX dX6_gives_3 k_6_92 ?_
  refine z_callS0 hX dX6_gives_6 ms_6_71 (c_X6_in _ _ _ _) (by decide) rfl rfl (Nat.le_of_ble_eq_true rfl) (fun r w1 hp _ => ?_)
  obtain ⟨rfl, hp⟩ := hp
  rcases zinJ (n := 9) rfl (by decide) hp with ⟨⟨j, hj, rfl⟩, rfl⟩ | ⟨hn, rfl⟩
  · -- 6 T
    refine z_if_eq (tgt := 20) hX dX6_gives_9 (by decide) (fun c => absurd c (by decide)) (fun _ => ?_)
    refine z_aload_n hX dX6_gives_12 rfl ?_
    refine z_iload_n hX dX6_gives_13 rfl ?_
    refine z_callV0 hX dX6_gives_14 mv_6_94 (c_X6_given a b c j hj) (by decide) rfl rfl rfl rfl (Nat.le_of_ble_eq_true rfl) (fun r w1 hp _ => ?_)
    obtain ⟨rfl, rfl⟩ := hp
    refine z_goto (tgt := 23) hX dX6_gives_17 (by decide) ?_
    refine z_iret hX hR dX6_gives_23 ?_
    first | exact ⟨rfl, Or.inl ⟨hn, rfl⟩⟩ | exact ⟨rfl, Or.inr ⟨j, hj, rfl, rfl⟩⟩
  · -- 6 F
    refine z_if_eq (tgt := 20) hX dX6_gives_9 (by decide) (fun _ => ?_) (fun c => absurd c (by decide))
    refine z_sipush (v := -1001) hX dX6_gives_20 rfl ?_
    refine z_iret hX hR dX6_gives_23 ?_
    first | exact ⟨rfl, Or.inl ⟨hn, rfl⟩⟩ | exact ⟨rfl, Or.inr ⟨j, hj, rfl, rfl⟩⟩
end
section
/-! ===== the reference: heights ===== -/
def WH (a : Nat → Nat → Int32) (b : Nat → Nat → Int64) (c : Nat → Int32) (m h : Nat → Int64) : ZW := [.inr (6, [.ref 1, .ref 2, .ref 3, .ref 4, .ref 5, .ref 6, .ref 7, .ref 8, .ref 9, .ref 10, .int (c 0), .ref 11, .ref 12, .ref 13, .ref 14, .ref 15, .ref 16, .int (c 1), .int (c 2), .ref 17, .ref 18, .ref 19]), .inl (0, 24, .inl (a 1)), .inl (1, 90, .inr m), .inl (1, 10, .inr h), .inl (0, 4, .inl (a 4)), .inl (0, 4, .inl (a 5)), .inl (0, 96, .inl (a 6)), .inl (0, 3, .inl (a 7)), .inl (0, 72, .inl (a 8)), .inl (1, 27, .inr (b 9)), .inl (1, 12, .inr (b 10)), .inl (1, 9, .inr (b 11)), .inl (0, 4, .inl (a 12)), .inl (2, 4, .inl (a 13)), .inl (2, 4, .inl (a 14)), .inl (0, 4, .inl (a 15)), .inl (1, 1200, .inr (b 16)), .inl (0, 3, .inl (a 17)), .inl (0, 3, .inl (a 18)), .inl (0, 4, .inl (a 19))]
def hInv (g : Nat → Int) (k i j : Nat) (m : Nat → Int64) : Prop := ∀ r, r < 9 → ∀ q, q < 10 → m (10 * r + q) = if r < i ∨ (r = i ∧ q < j ∧ i ≠ k) then zV g (k + 1) r q else zV g k r q
theorem hInv_row {g : Nat → Int} {k i j : Nat} {m : Nat → Int64} (h : hInv g k i j m) (hk : k < 9) {q : Nat} (hq : q < 10) : m (10 * k + q) = zV g k k q := by
  rw [h k hk q hq]
  split
  · exact zV_row g hk hq
  · rfl
theorem hInv_at {g : Nat → Int} {k i j : Nat} {m : Nat → Int64} (h : hInv g k i j m) (hi : i < 9) {q : Nat} (hq : q < 10) (hj : j ≤ q) : m (10 * i + q) = zV g k i q := by
  rw [h i hi q hq, if_neg (by omega)]
theorem hInv_next {g : Nat → Int} {k i j : Nat} {m : Nat → Int64} (h : hInv g k i j m) (hk : k < 9) (he : 10 ≤ j ∨ i = k) : hInv g k (i + 1) 0 m := by
  intro r hr q hq
  rw [h r hr q hq]
  by_cases h1 : r < i
  · rw [if_pos (Or.inl h1), if_pos (Or.inl (by omega))]
  · by_cases h2 : r = i
    · subst h2
      rw [if_pos (c := r < r + 1 ∨ _) (Or.inl (by omega))]
      by_cases h3 : r = k
      · subst h3
        rw [if_neg (by omega)]
        exact (zV_row g hk hq).symm
      · rw [if_pos (Or.inr ⟨rfl, by omega, h3⟩)]
    · rw [if_neg (by omega), if_neg (by omega)]
theorem hInv_put {g : Nat → Int} {k i j : Nat} {m : Nat → Int64} {x : Int64} (h : hInv g k i j m) (hi : i < 9) (hj : j < 10) (hne : i ≠ k) (hx : x = zV g (k + 1) i j) : hInv g k i (j + 1) (vp_updL m (10 * i + j) x) := by
  intro r hr q hq
  by_cases h1 : 10 * r + q = 10 * i + j
  · have e1 : r = i := by omega
    have e2 : q = j := by omega
    subst e1
    subst e2
    rw [pk_uLs, if_pos (Or.inr ⟨rfl, by omega, hne⟩)]
    exact hx
  · rw [pk_uLn h1, h r hr q hq]
    by_cases h2 : r < i ∨ (r = i ∧ q < j ∧ i ≠ k)
    · rw [if_pos h2, if_pos (by omega)]
    · rw [if_neg h2, if_neg (by omega)]
theorem hInv_step {g : Nat → Int} {k : Nat} {m : Nat → Int64} (h : hInv g k 9 0 m) : hInv g (k + 1) 0 0 m := by
  intro r hr q hq
  rw [h r hr q hq, if_pos (Or.inl hr), if_neg (by omega)]
set_option maxHeartbeats 4000000 in
set_option maxRecDepth 100000 in
theorem lp_fh_261 {X : ZX} {post : Option Value → ZW → Prop} (hX : ZOK X 6 cX6_findHeights 4) (hR : ZRet X none post) (a : Nat → Nat → Int32) (b : Nat → Nat → Int64) (c : Nat → Int32) (m h : Nat → Int64) (hpost : ∀ h1, (∀ q, h1 q = if q < 9 then m (10 * q + 9) else h q) → post none (WH a b c m h1)) : ∀ (n k : Nat) (h1 : Nat → Int64), k ≤ 9 → 9 < k + n → (∀ q, h1 q = if q < k then m (10 * q + 9) else h q) → ZG X 261 [some (.ref 0), none, none, some (.int (nI k)), none, none, none, none, none, none] [] (WH a b c m h1) := by
  intro n
  induction n with
  | zero => intro k h1 z1 z2; omega
  | succ n ih =>
    intro k h1 hk1 hk2 hh
    refine z_iload_n hX dX6_findHeights_261 rfl ?_
    refine z_bipush (v := nI 9) hX dX6_findHeights_262 rfl ?_
    first | with_reducible refine z_icmp_geN (tgt := 291) hX dX6_findHeights_264 (by decide) (by omega) (by omega) (fun c_264 => ?_) (fun c_264 => ?_) | refine z_icmp_ge (tgt := 291) hX dX6_findHeights_264 (by decide) (fun c_264 => ?_) (fun c_264 => ?_)
    · -- 264 t
      have zk : k = 9 := by omega
      subst zk
      refine z_vret hX hR dX6_findHeights_291 ?_
      exact hpost h1 hh
    · -- 264 f
      refine z_aload_n hX dX6_findHeights_267 rfl ?_
      refine z_get hX dX6_findHeights_268 f_6_17 rfl rfl ?_
      refine z_iload_n hX dX6_findHeights_271 rfl ?_
      refine z_aload_n hX dX6_findHeights_272 rfl ?_
      refine z_get hX dX6_findHeights_273 f_6_13 rfl rfl ?_
      refine z_bipush (v := nI 10) hX dX6_findHeights_276 rfl ?_
      refine z_iload_n hX dX6_findHeights_278 rfl ?_
      first | with_reducible refine z_imulN hX dX6_findHeights_279 ?_ | refine z_imul hX dX6_findHeights_279 ?_
      refine z_bipush (v := nI 9) hX dX6_findHeights_280 rfl ?_
      first | with_reducible refine z_iaddN hX dX6_findHeights_282 ?_ | refine z_iadd hX dX6_findHeights_282 ?_
      refine z_lald hX dX6_findHeights_283 rfl (by omega) (by decide) ?_
      refine z_last (w' := [_, _, _, _, _, _, _, _, _, _, _, _, _, _, _, _, _, _, _, _]) hX dX6_findHeights_284 rfl (by omega) (by decide) rfl ?_
      first | refine z_iincN (b := 1) (ls' := [_, _, _, _, _, _, _, _, _, _]) hX dX6_findHeights_285 rfl rfl rfl ?_ | refine z_iinc (ls' := [_, _, _, _, _, _, _, _, _, _]) hX dX6_findHeights_285 rfl rfl ?_
      refine z_goto (tgt := 261) hX dX6_findHeights_288 (by decide) ?_
      refine ih (k + 1) _ (by omega) (by omega) (fun q => ?_)
      by_cases e : q = k
      · subst e
        rw [pk_uLs, if_pos (by omega)]
      · rw [pk_uLn e, hh q]
        by_cases e2 : q < k
        · rw [if_pos e2, if_pos (by omega)]
        · rw [if_neg e2, if_neg (by omega)]
set_option maxHeartbeats 4000000 in
set_option maxRecDepth 100000 in
theorem lp_fh_178 {X : ZX} {post : Option Value → ZW → Prop} (hX : ZOK X 6 cX6_findHeights 4) (hR : ZRet X none post) (a : Nat → Nat → Int32) (b : Nat → Nat → Int64) (c : Nat → Int32) (g : Nat → Int) (hg : ∀ t, t < 9 → -2400 ≤ g t ∧ g t ≤ 2400) (h : Nat → Int64) (k i : Nat) (hk : k < 9) (hi : i < 9) (K : ∀ m1, hInv g k (i + 1) 0 m1 → ZG X 244 [some (.ref 0), some (.long (Int64.ofInt (zBD k))), none, some (.int (nI k)), some (.long (zV g k k k)), none, some (.int (nI i)), none, none, none] [] (WH a b c m1 h)) : ∀ (n j : Nat) (m : Nat → Int64), j ≤ 10 → 10 < j + n → hInv g k i j m → ZG X 178 [some (.ref 0), some (.long (Int64.ofInt (zBD k))), none, some (.int (nI k)), some (.long (zV g k k k)), none, some (.int (nI i)), some (.long (zV g k i k)), none, some (.int (nI j))] [] (WH a b c m h) := by
  intro n
  induction n with
  | zero => intro j m z1 z2; omega
  | succ n ih =>
    intro j m hj1 hj2 hm
    refine z_iload hX dX6_findHeights_178 rfl ?_
    refine z_bipush (v := nI 10) hX dX6_findHeights_180 rfl ?_
    first | with_reducible refine z_icmp_geN (tgt := 244) hX dX6_findHeights_182 (by decide) (by omega) (by omega) (fun c_182 => ?_) (fun c_182 => ?_) | refine z_icmp_ge (tgt := 244) hX dX6_findHeights_182 (by decide) (fun c_182 => ?_) (fun c_182 => ?_)
    · -- 182 t
      refine z_forget (ls' := [some (.ref 0), some (.long (Int64.ofInt (zBD k))), none, some (.int (nI k)), some (.long (zV g k k k)), none, some (.int (nI i)), none, none, none]) ?_ (K _ (hInv_next hm hk (by omega)))
      exact ⟨rfl, rfl, rfl, rfl, rfl, trivial⟩
    · -- 182 f
      refine z_iload hX dX6_findHeights_185 rfl ?_
      refine z_iload_n hX dX6_findHeights_187 rfl ?_
      first | with_reducible refine z_icmp_eqN (tgt := 244) hX dX6_findHeights_188 (by decide) (by omega) (by omega) (fun c_188 => ?_) (fun c_188 => ?_) | refine z_icmp_eq (tgt := 244) hX dX6_findHeights_188 (by decide) (fun c_188 => ?_) (fun c_188 => ?_)
      · -- 188 t
        refine z_forget (ls' := [some (.ref 0), some (.long (Int64.ofInt (zBD k))), none, some (.int (nI k)), some (.long (zV g k k k)), none, some (.int (nI i)), none, none, none]) ?_ (K _ (hInv_next hm hk (by omega)))
        exact ⟨rfl, rfl, rfl, rfl, rfl, trivial⟩
      · -- 188 f
        refine z_aload_n hX dX6_findHeights_191 rfl ?_
        refine z_get hX dX6_findHeights_192 f_6_13 rfl rfl ?_
        refine z_bipush (v := nI 10) hX dX6_findHeights_195 rfl ?_
        refine z_iload hX dX6_findHeights_197 rfl ?_
        first | with_reducible refine z_imulN hX dX6_findHeights_199 ?_ | refine z_imul hX dX6_findHeights_199 ?_
        refine z_iload hX dX6_findHeights_200 rfl ?_
        first | with_reducible refine z_iaddN hX dX6_findHeights_202 ?_ | refine z_iadd hX dX6_findHeights_202 ?_
        refine z_lload hX dX6_findHeights_203 rfl ?_
        refine z_aload_n hX dX6_findHeights_205 rfl ?_
        refine z_get hX dX6_findHeights_206 f_6_13 rfl rfl ?_
        refine z_bipush (v := nI 10) hX dX6_findHeights_209 rfl ?_
        refine z_iload hX dX6_findHeights_211 rfl ?_
        first | with_reducible refine z_imulN hX dX6_findHeights_213 ?_ | refine z_imul hX dX6_findHeights_213 ?_
        refine z_iload hX dX6_findHeights_214 rfl ?_
        first | with_reducible refine z_iaddN hX dX6_findHeights_216 ?_ | refine z_iadd hX dX6_findHeights_216 ?_
        refine z_lald hX dX6_findHeights_217 rfl (by omega) (by decide) ?_
        refine z_lmul hX dX6_findHeights_218 ?_
        refine z_lload hX dX6_findHeights_219 rfl ?_
        refine z_aload_n hX dX6_findHeights_221 rfl ?_
        refine z_get hX dX6_findHeights_222 f_6_13 rfl rfl ?_
        refine z_bipush (v := nI 10) hX dX6_findHeights_225 rfl ?_
        refine z_iload_n hX dX6_findHeights_227 rfl ?_
        first | with_reducible refine z_imulN hX dX6_findHeights_228 ?_ | refine z_imul hX dX6_findHeights_228 ?_
        refine z_iload hX dX6_findHeights_229 rfl ?_
        first | with_reducible refine z_iaddN hX dX6_findHeights_231 ?_ | refine z_iadd hX dX6_findHeights_231 ?_
        refine z_lald hX dX6_findHeights_232 rfl (by omega) (by decide) ?_
        refine z_lmul hX dX6_findHeights_233 ?_
        refine z_lsub hX dX6_findHeights_234 ?_
        refine z_lload_n hX dX6_findHeights_235 rfl ?_
        refine z_ldiv hX dX6_findHeights_236 (zBD_ne (by omega)) ?_
        refine z_last (w' := [_, _, _, _, _, _, _, _, _, _, _, _, _, _, _, _, _, _, _, _]) hX dX6_findHeights_237 rfl (by omega) (by decide) rfl ?_
        first | refine z_iincN (b := 1) (ls' := [_, _, _, _, _, _, _, _, _, _]) hX dX6_findHeights_238 rfl rfl rfl ?_ | refine z_iinc (ls' := [_, _, _, _, _, _, _, _, _, _]) hX dX6_findHeights_238 rfl rfl ?_
        refine z_goto (tgt := 178) hX dX6_findHeights_241 (by decide) ?_
        refine ih (j + 1) _ (by omega) (by omega) (hInv_put hm hi (by omega) c_188 ?_)
        rw [hInv_at hm hi (by omega) (Nat.le_refl j), hInv_row hm hk (by omega)]
        exact zV_step hg hk hi c_188 (by omega)
set_option maxHeartbeats 4000000 in
set_option maxRecDepth 100000 in
theorem lp_fh_154 {X : ZX} {post : Option Value → ZW → Prop} (hX : ZOK X 6 cX6_findHeights 4) (hR : ZRet X none post) (a : Nat → Nat → Int32) (b : Nat → Nat → Int64) (c : Nat → Int32) (g : Nat → Int) (hg : ∀ t, t < 9 → -2400 ≤ g t ∧ g t ≤ 2400) (h : Nat → Int64) (k : Nat) (hk : k < 9) (K : ∀ m1, hInv g k 9 0 m1 → ZG X 250 [some (.ref 0), some (.long (Int64.ofInt (zBD k))), none, some (.int (nI k)), some (.long (zV g k k k)), none, none, none, none, none] [] (WH a b c m1 h)) : ∀ (n i : Nat) (m : Nat → Int64), i ≤ 9 → 9 < i + n → hInv g k i 0 m → ZG X 154 [some (.ref 0), some (.long (Int64.ofInt (zBD k))), none, some (.int (nI k)), some (.long (zV g k k k)), none, some (.int (nI i)), none, none, none] [] (WH a b c m h) := by
  intro n
  induction n with
  | zero => intro i m z1 z2; omega
  | succ n ih =>
    intro i m hi1 hi2 hm
    refine z_iload hX dX6_findHeights_154 rfl ?_
    refine z_bipush (v := nI 9) hX dX6_findHeights_156 rfl ?_
    first | with_reducible refine z_icmp_geN (tgt := 250) hX dX6_findHeights_158 (by decide) (by omega) (by omega) (fun c_158 => ?_) (fun c_158 => ?_) | refine z_icmp_ge (tgt := 250) hX dX6_findHeights_158 (by decide) (fun c_158 => ?_) (fun c_158 => ?_)
    · -- 158 t
      have zi : i = 9 := by omega
      subst zi
      refine z_forget (ls' := [some (.ref 0), some (.long (Int64.ofInt (zBD k))), none, some (.int (nI k)), some (.long (zV g k k k)), none, none, none, none, none]) ?_ (K _ hm)
      exact ⟨rfl, rfl, rfl, rfl, trivial⟩
    · -- 158 f
      refine z_aload_n hX dX6_findHeights_161 rfl ?_
      refine z_get hX dX6_findHeights_162 f_6_13 rfl rfl ?_
      refine z_bipush (v := nI 10) hX dX6_findHeights_165 rfl ?_
      refine z_iload hX dX6_findHeights_167 rfl ?_
      first | with_reducible refine z_imulN hX dX6_findHeights_169 ?_ | refine z_imul hX dX6_findHeights_169 ?_
      refine z_iload_n hX dX6_findHeights_170 rfl ?_
      first | with_reducible refine z_iaddN hX dX6_findHeights_171 ?_ | refine z_iadd hX dX6_findHeights_171 ?_
      refine z_lald hX dX6_findHeights_172 rfl (by omega) (by decide) ?_
      refine z_lstore (ls' := [_, _, _, _, _, _, _, _, _, _]) hX dX6_findHeights_173 (Nat.le_of_ble_eq_true rfl) rfl ?_
      refine z_iconst (v := nI 0) hX dX6_findHeights_175 rfl ?_
      refine z_istore (ls' := [_, _, _, _, _, _, _, _, _, _]) hX dX6_findHeights_176 (Nat.le_of_ble_eq_true rfl) rfl ?_
      have e : m (10 * i + k) = zV g k i k := hInv_at hm (by omega) (by omega) (Nat.zero_le k)
      rw [e]
      refine lp_fh_178 hX hR a b c g hg h k i hk (by omega) (fun m1 h1 => ?_) 11 0 m (by omega) (by omega) hm
      first | refine z_iincN (b := 1) (ls' := [_, _, _, _, _, _, _, _, _, _]) hX dX6_findHeights_244 rfl rfl rfl ?_ | refine z_iinc (ls' := [_, _, _, _, _, _, _, _, _, _]) hX dX6_findHeights_244 rfl rfl ?_
      refine z_goto (tgt := 154) hX dX6_findHeights_247 (by decide) ?_
      exact ih (i + 1) m1 (by omega) (by omega) h1
set_option maxHeartbeats 4000000 in
set_option maxRecDepth 100000 in
theorem lp_fh_134 {X : ZX} {post : Option Value → ZW → Prop} (hX : ZOK X 6 cX6_findHeights 4) (hR : ZRet X none post) (a : Nat → Nat → Int32) (b : Nat → Nat → Int64) (c : Nat → Int32) (g : Nat → Int) (hg : ∀ t, t < 9 → -2400 ≤ g t ∧ g t ≤ 2400) (h : Nat → Int64) (hpost : ∀ m h1, (∀ q, h1 q = if q < 9 then zV g 9 q 9 else h q) → post none (WH a b c m h1)) : ∀ (n k : Nat) (m : Nat → Int64), k ≤ 9 → 9 < k + n → hInv g k 0 0 m → ZG X 134 [some (.ref 0), some (.long (Int64.ofInt (zBD k))), none, some (.int (nI k)), none, none, none, none, none, none] [] (WH a b c m h) := by
  intro n
  induction n with
  | zero => intro k m z1 z2; omega
  | succ n ih =>
    intro k m hk1 hk2 hm
    refine z_iload_n hX dX6_findHeights_134 rfl ?_
    refine z_bipush (v := nI 9) hX dX6_findHeights_135 rfl ?_
    first | with_reducible refine z_icmp_geN (tgt := 259) hX dX6_findHeights_137 (by decide) (by omega) (by omega) (fun c_137 => ?_) (fun c_137 => ?_) | refine z_icmp_ge (tgt := 259) hX dX6_findHeights_137 (by decide) (fun c_137 => ?_) (fun c_137 => ?_)
    · -- 137 t
      refine z_iconst (v := nI 0) hX dX6_findHeights_259 rfl ?_
      refine z_istore_n (ls' := [_, _, _, _, _, _, _, _, _, _]) hX dX6_findHeights_260 (Nat.le_of_ble_eq_true rfl) rfl ?_
      have zk : k = 9 := by omega
      subst zk
      refine z_forget (ls' := [some (.ref 0), none, none, some (.int (nI 0)), none, none, none, none, none, none]) ⟨rfl, rfl, trivial⟩ ?_
      refine lp_fh_261 hX hR a b c m h (fun h1 e1 => hpost m h1 (fun q => ?_)) 10 0 h (by omega) (by omega) (fun q => by rw [if_neg (by omega)])
      rw [e1 q]
      by_cases e : q < 9
      · rw [if_pos e, if_pos e, hm q e 9 (by omega), if_neg (by omega)]
      · rw [if_neg e, if_neg e]
    · -- 137 f
      refine z_aload_n hX dX6_findHeights_140 rfl ?_
      refine z_get hX dX6_findHeights_141 f_6_13 rfl rfl ?_
      refine z_bipush (v := nI 11) hX dX6_findHeights_144 rfl ?_
      refine z_iload_n hX dX6_findHeights_146 rfl ?_
      first | with_reducible refine z_imulN hX dX6_findHeights_147 ?_ | refine z_imul hX dX6_findHeights_147 ?_
      refine z_lald hX dX6_findHeights_148 rfl (by omega) (by decide) ?_
      refine z_lstore (ls' := [_, _, _, _, _, _, _, _, _, _]) hX dX6_findHeights_149 (Nat.le_of_ble_eq_true rfl) rfl ?_
      refine z_iconst (v := nI 0) hX dX6_findHeights_151 rfl ?_
      refine z_istore (ls' := [_, _, _, _, _, _, _, _, _, _]) hX dX6_findHeights_152 (Nat.le_of_ble_eq_true rfl) rfl ?_
      have e : m (11 * k) = zV g k k k := by
        have := hInv_row hm (by omega) (q := k) (by omega)
        rw [show 11 * k = 10 * k + k by omega]
        exact this
      rw [e]
      refine lp_fh_154 hX hR a b c g hg h k (by omega) (fun m1 h1 => ?_) 10 0 m (by omega) (by omega) hm
      refine z_lload hX dX6_findHeights_250 rfl ?_
      refine z_lstore_n (ls' := [_, _, _, _, _, _, _, _, _, _]) hX dX6_findHeights_252 (Nat.le_of_ble_eq_true rfl) rfl ?_
      first | refine z_iincN (b := 1) (ls' := [_, _, _, _, _, _, _, _, _, _]) hX dX6_findHeights_253 rfl rfl rfl ?_ | refine z_iinc (ls' := [_, _, _, _, _, _, _, _, _, _]) hX dX6_findHeights_253 rfl rfl ?_
      refine z_goto (tgt := 134) hX dX6_findHeights_256 (by decide) ?_
      rw [zV_piv g (by omega)]
      refine z_forget (ls' := [some (.ref 0), some (.long (Int64.ofInt (zBD (k + 1)))), none, some (.int (nI (k + 1))), none, none, none, none, none, none]) ⟨rfl, rfl, rfl, trivial⟩ ?_
      exact ih (k + 1) m1 (by omega) (by omega) (hInv_step h1)
def adjB (n r q : Nat) : Bool := (List.range n).any (fun v => (decide (zFROM.getD v 0 < 9) && decide (zTO.getD v 0 < 9)) && ((zFROM.getD v 0 == r && zTO.getD v 0 == q) || (zTO.getD v 0 == r && zFROM.getD v 0 == q)))
theorem adjB_s (n r q : Nat) : adjB (n + 1) r q = (adjB n r q || ((decide (zFROM.getD n 0 < 9) && decide (zTO.getD n 0 < 9)) && ((zFROM.getD n 0 == r && zTO.getD n 0 == q) || (zTO.getD n 0 == r && zFROM.getD n 0 == q)))) := by
  unfold adjB
  rw [List.range_succ, List.any_append]
  simp only [List.any_cons, List.any_nil, Bool.or_false]
def gG (wn : Nat → Int32) (t : Nat) : Int := (-(giveF wn t 24)).toInt
/-- the matrix behind the second loop's turn n -/
def ph2 (wn : Nat → Int32) (n r q : Nat) : Int64 := if r < n then (if q = r then 4 else if q = 9 then (-(giveF wn r 24)).toInt64 else 0) else 0
def ph3 (wn : Nat → Int32) (n r q : Nat) : Int64 := if adjB n r q = true then -1 else ph2 wn 9 r q
theorem adj_ok : ∀ r, r < 9 → ∀ q, q < 9 → (if adjB 24 r q = true then (-1 : Int64) else if q = r then 4 else 0) = Int64.ofInt (zBT 0 r q) := by decide +kernel
theorem adj_9 : ∀ r, r < 9 → adjB 24 r 9 = false := by decide +kernel
theorem zVI_0 (g : Nat → Int) {r : Nat} (hr : r < 9) : zVI g 0 r 9 = g r := by
  have key : ∀ r, r < 9 → ∀ t, t < 9 → zBT 0 r (9 + t) = if t = r then 1 else 0 := by decide +kernel
  show zS9 (fun t => zBT 0 r (9 + t) * g t) = g r
  rw [zS9_congr (h := fun t => (if t = r then 1 else 0) * g t) (fun t ht => by rw [key r hr t ht])]
  unfold zS9
  rcases (show r = 0 ∨ r = 1 ∨ r = 2 ∨ r = 3 ∨ r = 4 ∨ r = 5 ∨ r = 6 ∨ r = 7 ∨ r = 8 by omega) with e | e | e | e | e | e | e | e | e <;> subst e <;> simp
theorem ph3_no {wn : Nat → Int32} {n : Nat} (h : ¬ (zFROM.getD n 0 < 9 ∧ zTO.getD n 0 < 9)) (r q : Nat) : ph3 wn (n + 1) r q = ph3 wn n r q := by
  unfold ph3
  rw [adjB_s]
  have e : (decide (zFROM.getD n 0 < 9) && decide (zTO.getD n 0 < 9)) = false := by
    rw [← Bool.decide_and]
    exact decide_eq_false h
  rw [e, Bool.false_and, Bool.or_false]
theorem ph3_put {wn : Nat → Int32} {n : Nat} {m : Nat → Int64} (h1 : zFROM.getD n 0 < 9) (h2 : zTO.getD n 0 < 9) (hm : ∀ r, r < 9 → ∀ q, q < 10 → m (10 * r + q) = ph3 wn n r q) : ∀ r, r < 9 → ∀ q, q < 10 → vp_updL (vp_updL m (10 * zFROM.getD n 0 + zTO.getD n 0) (-1)) (10 * zTO.getD n 0 + zFROM.getD n 0) (-1) (10 * r + q) = ph3 wn (n + 1) r q := by
  intro r hr q hq
  generalize hF : zFROM.getD n 0 = F at *
  generalize hT : zTO.getD n 0 = T at *
  have e : adjB (n + 1) r q = (adjB n r q || ((F == r && T == q) || (T == r && F == q))) := by
    rw [adjB_s, hF, hT, decide_eq_true h1, decide_eq_true h2]
    rfl
  by_cases c1 : 10 * r + q = 10 * T + F
  · have z1 : T = r := by omega
    have z2 : F = q := by omega
    rw [c1, pk_uLs]
    unfold ph3
    rw [e, if_pos (by simp [z1, z2])]
  · rw [pk_uLn c1]
    by_cases c2 : 10 * r + q = 10 * F + T
    · have z1 : F = r := by omega
      have z2 : T = q := by omega
      rw [c2, pk_uLs]
      unfold ph3
      rw [e, if_pos (by simp [z1, z2])]
    · rw [pk_uLn c2, hm r hr q hq]
      unfold ph3
      have z : ((F == r && T == q) || (T == r && F == q)) = false := by
        rw [Bool.or_eq_false_iff, Bool.and_eq_false_iff, Bool.and_eq_false_iff, beq_eq_false_iff_ne, beq_eq_false_iff_ne, beq_eq_false_iff_ne, beq_eq_false_iff_ne]
        omega
      rw [e, z, Bool.or_false]
theorem ph2_put {wn : Nat → Int32} {k : Nat} {m : Nat → Int64} (hk : k < 9) (hm : ∀ r, r < 9 → ∀ q, q < 10 → m (10 * r + q) = ph2 wn k r q) : ∀ r, r < 9 → ∀ q, q < 10 → vp_updL (vp_updL m (11 * k) 4) (10 * k + 9) (-(giveF wn k 24)).toInt64 (10 * r + q) = ph2 wn (k + 1) r q := by
  intro r hr q hq
  by_cases c1 : 10 * r + q = 10 * k + 9
  · have z1 : r = k := by omega
    have z2 : q = 9 := by omega
    rw [c1, pk_uLs]
    unfold ph2
    rw [if_pos (by omega), if_neg (by omega), if_pos z2, z1]
  · rw [pk_uLn c1]
    by_cases c2 : 10 * r + q = 11 * k
    · have z1 : r = k := by omega
      have z2 : q = r := by omega
      rw [c2, pk_uLs]
      unfold ph2
      rw [if_pos (by omega), if_pos z2]
    · rw [pk_uLn c2, hm r hr q hq]
      unfold ph2
      by_cases c3 : r < k
      · rw [if_pos c3, if_pos (show r < k + 1 by omega)]
      · rw [if_neg c3]
        by_cases c4 : r = k
        · rw [if_pos (show r < k + 1 by omega), if_neg (show ¬ q = r by omega), if_neg (show ¬ q = 9 by omega)]
        · rw [if_neg (show ¬ r < k + 1 by omega)]
theorem giveT_le {wn : Nat → Int32} (hw : ∀ k, k < 24 → zB (wn k) (-100) 100) (box : Nat) {k : Nat} (hk : k < 24) : -100 ≤ (giveT wn box k).toInt ∧ (giveT wn box k).toInt ≤ 100 := by
  have h := hw k hk
  unfold zB at h
  unfold giveT
  split
  · exact h
  · split
    · rw [Int32.toInt_neg, Int.bmod_eq_of_le (by omega) (by omega)]
      omega
    · exact ⟨by decide +kernel, by decide +kernel⟩
theorem giveF_le {wn : Nat → Int32} (hw : ∀ k, k < 24 → zB (wn k) (-100) 100) (box : Nat) : ∀ n : Nat, n ≤ 24 → -(100 * (n : Int)) ≤ (giveF wn box n).toInt ∧ (giveF wn box n).toInt ≤ 100 * (n : Int)
  | 0, _ => by
    show -(100 * ((0 : Nat) : Int)) ≤ (nI 0).toInt ∧ (nI 0).toInt ≤ 100 * ((0 : Nat) : Int)
    decide +kernel
  | n + 1, h => by
    have ih := giveF_le hw box n (by omega)
    have ht := giveT_le hw box (k := n) (by omega)
    rw [giveF_s, Int32.toInt_add, Int.bmod_eq_of_le (by omega) (by omega)]
    omega
theorem gG_le {wn : Nat → Int32} (hw : ∀ k, k < 24 → zB (wn k) (-100) 100) (t : Nat) : -2400 ≤ gG wn t ∧ gG wn t ≤ 2400 := by
  have h := giveF_le hw t 24 (by omega)
  unfold gG
  rw [Int32.toInt_neg, Int.bmod_eq_of_le (by omega) (by omega)]
  omega
theorem ph3_end (wn : Nat → Int32) : ∀ r, r < 9 → ∀ q, q < 10 → ph3 wn 24 r q = zV (gG wn) 0 r q := by
  intro r hr q hq
  unfold ph3 zV
  by_cases hq9 : q < 9
  · have h := adj_ok r hr q hq9
    have e : zVI (gG wn) 0 r q = zBT 0 r q := if_pos hq9
    rw [e, ← h]
    unfold ph2
    rw [if_pos hr]
    by_cases c1 : adjB 24 r q = true
    · rw [if_pos c1, if_pos c1]
    · rw [if_neg c1, if_neg c1]
      by_cases c2 : q = r
      · rw [if_pos c2, if_pos c2]
      · rw [if_neg c2, if_neg c2, if_neg (by omega)]
  · have e : q = 9 := by omega
    subst e
    rw [zVI_0 (gG wn) hr, adj_9 r hr, if_neg (by decide)]
    unfold ph2
    rw [if_pos hr, if_neg (by omega), if_pos rfl]
    apply zL_eq
    rw [Int32.toInt_toInt64]
    rfl
set_option maxHeartbeats 4000000 in
set_option maxRecDepth 100000 in
theorem lp_fh_68 {X : ZX} {post : Option Value → ZW → Prop} (hX : ZOK X 6 cX6_findHeights 4) (hR : ZRet X none post) (a : Nat → Nat → Int32) (b : Nat → Nat → Int64) (c : Nat → Int32) (hw : ∀ k, k < 24 → zB (a 1 k) (-100) 100) (h : Nat → Int64) (hpost : ∀ m h1, (∀ q, h1 q = if q < 9 then zV (gG (a 1)) 9 q 9 else h q) → post none (WH a b c m h1)) : ∀ (n k : Nat) (m : Nat → Int64), k ≤ 24 → 24 < k + n → (∀ r, r < 9 → ∀ q, q < 10 → m (10 * r + q) = ph3 (a 1) k r q) → ZG X 68 [some (.ref 0), some (.int (nI k)), none, none, none, none, none, none, none, none] [] (WH a b c m h) := by
  intro n
  induction n with
  | zero => intro k m z1 z2; omega
  | succ n ih =>
    intro k m hk1 hk2 hm
    refine z_iload_n hX dX6_findHeights_68 rfl ?_
    refine z_bipush (v := nI 24) hX dX6_findHeights_69 rfl ?_
    first | with_reducible refine z_icmp_geN (tgt := 130) hX dX6_findHeights_71 (by decide) (by omega) (by omega) (fun c_71 => ?_) (fun c_71 => ?_) | refine z_icmp_ge (tgt := 130) hX dX6_findHeights_71 (by decide) (fun c_71 => ?_) (fun c_71 => ?_)
    · -- 71 t
      refine z_lconst (v := 1) hX dX6_findHeights_130 rfl ?_
      refine z_lstore_n (ls' := [_, _, _, _, _, _, _, _, _, _]) hX dX6_findHeights_131 (Nat.le_of_ble_eq_true rfl) rfl ?_
      refine z_iconst (v := nI 0) hX dX6_findHeights_132 rfl ?_
      refine z_istore_n (ls' := [_, _, _, _, _, _, _, _, _, _]) hX dX6_findHeights_133 (Nat.le_of_ble_eq_true rfl) rfl ?_
      have zk : k = 24 := by omega
      subst zk
      refine z_norm (ls' := [some (.ref 0), some (.long (Int64.ofInt (zBD 0))), none, some (.int (nI 0)), none, none, none, none, none, none]) (by rw [show (1 : Int64) = Int64.ofInt (zBD 0) by decide +kernel]) rfl rfl ?_
      exact lp_fh_134 hX hR a b c (gG (a 1)) (fun t _ => gG_le hw t) h hpost 10 0 m (by omega) (by omega) (fun r hr q hq => by rw [hm r hr q hq, ph3_end (a 1) r hr q hq, if_neg (by omega)])
    · -- 71 f
      have hF := zFROM_le k
      have hT := zTO_le k
      refine z_iload_n hX dX6_findHeights_74 rfl ?_
      refine z_callS0 hX dX6_findHeights_75 ms_6_85 (c_X6_fromOf k (by omega) _) (by decide) rfl rfl (Nat.le_of_ble_eq_true rfl) (fun r w1 hp _ => ?_)
      obtain ⟨rfl, rfl⟩ := hp
      refine z_istore_n (ls' := [_, _, _, _, _, _, _, _, _, _]) hX dX6_findHeights_78 (Nat.le_of_ble_eq_true rfl) rfl ?_
      refine z_iload_n hX dX6_findHeights_79 rfl ?_
      refine z_callS0 hX dX6_findHeights_80 ms_6_89 (c_X6_toOf k (by omega) _) (by decide) rfl rfl (Nat.le_of_ble_eq_true rfl) (fun r w1 hp _ => ?_)
      obtain ⟨rfl, rfl⟩ := hp
      refine z_istore_n (ls' := [_, _, _, _, _, _, _, _, _, _]) hX dX6_findHeights_83 (Nat.le_of_ble_eq_true rfl) rfl ?_
      refine z_iload_n hX dX6_findHeights_84 rfl ?_
      refine z_bipush (v := nI 9) hX dX6_findHeights_85 rfl ?_
      first | with_reducible refine z_icmp_geN (tgt := 124) hX dX6_findHeights_87 (by decide) (by omega) (by omega) (fun c_87 => ?_) (fun c_87 => ?_) | refine z_icmp_ge (tgt := 124) hX dX6_findHeights_87 (by decide) (fun c_87 => ?_) (fun c_87 => ?_)
      · -- 87 t
        first | refine z_iincN (b := 1) (ls' := [_, _, _, _, _, _, _, _, _, _]) hX dX6_findHeights_124 rfl rfl rfl ?_ | refine z_iinc (ls' := [_, _, _, _, _, _, _, _, _, _]) hX dX6_findHeights_124 rfl rfl ?_
        refine z_goto (tgt := 68) hX dX6_findHeights_127 (by decide) ?_
        refine z_forget (ls' := [some (.ref 0), some (.int (nI (k + 1))), none, none, none, none, none, none, none, none]) ⟨rfl, rfl, trivial⟩ ?_
        first | exact ih (k + 1) _ (by omega) (by omega) (fun r hr q hq => by rw [ph3_no (by omega)]; exact hm r hr q hq) | exact ih (k + 1) _ (by omega) (by omega) (ph3_put (by omega) (by omega) hm)
      · -- 87 f
        refine z_iload_n hX dX6_findHeights_90 rfl ?_
        refine z_bipush (v := nI 9) hX dX6_findHeights_91 rfl ?_
        first | with_reducible refine z_icmp_geN (tgt := 124) hX dX6_findHeights_93 (by decide) (by omega) (by omega) (fun c_93 => ?_) (fun c_93 => ?_) | refine z_icmp_ge (tgt := 124) hX dX6_findHeights_93 (by decide) (fun c_93 => ?_) (fun c_93 => ?_)
        · -- 93 t
          first | refine z_iincN (b := 1) (ls' := [_, _, _, _, _, _, _, _, _, _]) hX dX6_findHeights_124 rfl rfl rfl ?_ | refine z_iinc (ls' := [_, _, _, _, _, _, _, _, _, _]) hX dX6_findHeights_124 rfl rfl ?_
          refine z_goto (tgt := 68) hX dX6_findHeights_127 (by decide) ?_
          refine z_forget (ls' := [some (.ref 0), some (.int (nI (k + 1))), none, none, none, none, none, none, none, none]) ⟨rfl, rfl, trivial⟩ ?_
          first | exact ih (k + 1) _ (by omega) (by omega) (fun r hr q hq => by rw [ph3_no (by omega)]; exact hm r hr q hq) | exact ih (k + 1) _ (by omega) (by omega) (ph3_put (by omega) (by omega) hm)
        · -- 93 f
          refine z_aload_n hX dX6_findHeights_96 rfl ?_
          refine z_get hX dX6_findHeights_97 f_6_13 rfl rfl ?_
          refine z_bipush (v := nI 10) hX dX6_findHeights_100 rfl ?_
          refine z_iload_n hX dX6_findHeights_102 rfl ?_
          first | with_reducible refine z_imulN hX dX6_findHeights_103 ?_ | refine z_imul hX dX6_findHeights_103 ?_
          refine z_iload_n hX dX6_findHeights_104 rfl ?_
          first | with_reducible refine z_iaddN hX dX6_findHeights_105 ?_ | refine z_iadd hX dX6_findHeights_105 ?_
          refine z_ldc2 hX dX6_findHeights_106 k_6_99 ?_
          refine z_last (w' := [_, _, _, _, _, _, _, _, _, _, _, _, _, _, _, _, _, _, _, _]) hX dX6_findHeights_109 rfl (by omega) (by decide) rfl ?_
          refine z_aload_n hX dX6_findHeights_110 rfl ?_
          refine z_get hX dX6_findHeights_111 f_6_13 rfl rfl ?_
          refine z_bipush (v := nI 10) hX dX6_findHeights_114 rfl ?_
          refine z_iload_n hX dX6_findHeights_116 rfl ?_
          first | with_reducible refine z_imulN hX dX6_findHeights_117 ?_ | refine z_imul hX dX6_findHeights_117 ?_
          refine z_iload_n hX dX6_findHeights_118 rfl ?_
          first | with_reducible refine z_iaddN hX dX6_findHeights_119 ?_ | refine z_iadd hX dX6_findHeights_119 ?_
          refine z_ldc2 hX dX6_findHeights_120 k_6_99 ?_
          refine z_last (w' := [_, _, _, _, _, _, _, _, _, _, _, _, _, _, _, _, _, _, _, _]) hX dX6_findHeights_123 rfl (by omega) (by decide) rfl ?_
          first | refine z_iincN (b := 1) (ls' := [_, _, _, _, _, _, _, _, _, _]) hX dX6_findHeights_124 rfl rfl rfl ?_ | refine z_iinc (ls' := [_, _, _, _, _, _, _, _, _, _]) hX dX6_findHeights_124 rfl rfl ?_
          refine z_goto (tgt := 68) hX dX6_findHeights_127 (by decide) ?_
          refine z_forget (ls' := [some (.ref 0), some (.int (nI (k + 1))), none, none, none, none, none, none, none, none]) ⟨rfl, rfl, trivial⟩ ?_
          first | exact ih (k + 1) _ (by omega) (by omega) (fun r hr q hq => by rw [ph3_no (by omega)]; exact hm r hr q hq) | exact ih (k + 1) _ (by omega) (by omega) (ph3_put (by omega) (by omega) hm)
set_option maxHeartbeats 4000000 in
set_option maxRecDepth 100000 in
theorem lp_fh_23 {X : ZX} {post : Option Value → ZW → Prop} (hX : ZOK X 6 cX6_findHeights 4) (hR : ZRet X none post) (a : Nat → Nat → Int32) (b : Nat → Nat → Int64) (c : Nat → Int32) (hw : ∀ k, k < 24 → zB (a 1 k) (-100) 100) (h : Nat → Int64) (hpost : ∀ m h1, (∀ q, h1 q = if q < 9 then zV (gG (a 1)) 9 q 9 else h q) → post none (WH a b c m h1)) : ∀ (n k : Nat) (m : Nat → Int64), k ≤ 9 → 9 < k + n → (∀ r, r < 9 → ∀ q, q < 10 → m (10 * r + q) = ph2 (a 1) k r q) → ZG X 23 [some (.ref 0), some (.int (nI k)), none, none, none, none, none, none, none, none] [] (WH a b c m h) := by
  intro n
  induction n with
  | zero => intro k m z1 z2; omega
  | succ n ih =>
    intro k m hk1 hk2 hm
    refine z_iload_n hX dX6_findHeights_23 rfl ?_
    refine z_bipush (v := nI 9) hX dX6_findHeights_24 rfl ?_
    first | with_reducible refine z_icmp_geN (tgt := 66) hX dX6_findHeights_26 (by decide) (by omega) (by omega) (fun c_26 => ?_) (fun c_26 => ?_) | refine z_icmp_ge (tgt := 66) hX dX6_findHeights_26 (by decide) (fun c_26 => ?_) (fun c_26 => ?_)
    · -- 26 t
      refine z_iconst (v := nI 0) hX dX6_findHeights_66 rfl ?_
      refine z_istore_n (ls' := [_, _, _, _, _, _, _, _, _, _]) hX dX6_findHeights_67 (Nat.le_of_ble_eq_true rfl) rfl ?_
      have zk : k = 9 := by omega
      subst zk
      exact lp_fh_68 hX hR a b c hw h hpost 25 0 m (by omega) (by omega) (fun r hr q hq => by rw [hm r hr q hq]; rfl)
    · -- 26 f
      refine z_aload_n hX dX6_findHeights_29 rfl ?_
      refine z_get hX dX6_findHeights_30 f_6_13 rfl rfl ?_
      refine z_bipush (v := nI 11) hX dX6_findHeights_33 rfl ?_
      refine z_iload_n hX dX6_findHeights_35 rfl ?_
      first | with_reducible refine z_imulN hX dX6_findHeights_36 ?_ | refine z_imul hX dX6_findHeights_36 ?_
      refine z_ldc2 hX dX6_findHeights_37 k_6_97 ?_
      refine z_last (w' := [_, _, _, _, _, _, _, _, _, _, _, _, _, _, _, _, _, _, _, _]) hX dX6_findHeights_40 rfl (by omega) (by decide) rfl ?_
      refine z_aload_n hX dX6_findHeights_41 rfl ?_
      refine z_get hX dX6_findHeights_42 f_6_13 rfl rfl ?_
      refine z_bipush (v := nI 10) hX dX6_findHeights_45 rfl ?_
      refine z_iload_n hX dX6_findHeights_47 rfl ?_
      first | with_reducible refine z_imulN hX dX6_findHeights_48 ?_ | refine z_imul hX dX6_findHeights_48 ?_
      refine z_bipush (v := nI 9) hX dX6_findHeights_49 rfl ?_
      first | with_reducible refine z_iaddN hX dX6_findHeights_51 ?_ | refine z_iadd hX dX6_findHeights_51 ?_
      refine z_aload_n hX dX6_findHeights_52 rfl ?_
      refine z_iload_n hX dX6_findHeights_53 rfl ?_
      refine z_callV0 hX dX6_findHeights_54 mv_6_94 (c_X6_given a (va_up (va_up b 2 (vp_updL m (11 * k) 4)) 3 h) c k (by omega)) (by decide) rfl rfl rfl rfl (Nat.le_of_ble_eq_true rfl) (fun r w1 hp _ => ?_)
      obtain ⟨rfl, rfl⟩ := hp
      refine z_ineg hX dX6_findHeights_57 ?_
      first | with_reducible refine z_i2lN hX dX6_findHeights_58 (by omega) ?_ | refine z_i2l hX dX6_findHeights_58 ?_
      refine z_last (w' := [_, _, _, _, _, _, _, _, _, _, _, _, _, _, _, _, _, _, _, _]) hX dX6_findHeights_59 rfl (by omega) (by decide) rfl ?_
      first | refine z_iincN (b := 1) (ls' := [_, _, _, _, _, _, _, _, _, _]) hX dX6_findHeights_60 rfl rfl rfl ?_ | refine z_iinc (ls' := [_, _, _, _, _, _, _, _, _, _]) hX dX6_findHeights_60 rfl rfl ?_
      refine z_goto (tgt := 23) hX dX6_findHeights_63 (by decide) ?_
      exact ih (k + 1) _ (by omega) (by omega) (ph2_put (by omega) hm)
set_option maxHeartbeats 4000000 in
set_option maxRecDepth 100000 in
theorem lp_fh_2 {X : ZX} {post : Option Value → ZW → Prop} (hX : ZOK X 6 cX6_findHeights 4) (hR : ZRet X none post) (a : Nat → Nat → Int32) (b : Nat → Nat → Int64) (c : Nat → Int32) (hw : ∀ k, k < 24 → zB (a 1 k) (-100) 100) (h : Nat → Int64) (hpost : ∀ m h1, (∀ q, h1 q = if q < 9 then zV (gG (a 1)) 9 q 9 else h q) → post none (WH a b c m h1)) : ∀ (n k : Nat) (m : Nat → Int64), k ≤ 90 → 90 < k + n → (∀ p, p < k → m p = 0) → ZG X 2 [some (.ref 0), some (.int (nI k)), none, none, none, none, none, none, none, none] [] (WH a b c m h) := by
  intro n
  induction n with
  | zero => intro k m z1 z2; omega
  | succ n ih =>
    intro k m hk1 hk2 hm
    refine z_iload_n hX dX6_findHeights_2 rfl ?_
    refine z_bipush (v := nI 90) hX dX6_findHeights_3 rfl ?_
    first | with_reducible refine z_icmp_geN (tgt := 21) hX dX6_findHeights_5 (by decide) (by omega) (by omega) (fun c_5 => ?_) (fun c_5 => ?_) | refine z_icmp_ge (tgt := 21) hX dX6_findHeights_5 (by decide) (fun c_5 => ?_) (fun c_5 => ?_)
    · -- 5 t
      refine z_iconst (v := nI 0) hX dX6_findHeights_21 rfl ?_
      refine z_istore_n (ls' := [_, _, _, _, _, _, _, _, _, _]) hX dX6_findHeights_22 (Nat.le_of_ble_eq_true rfl) rfl ?_
      exact lp_fh_23 hX hR a b c hw h hpost 10 0 m (by omega) (by omega) (fun r hr q hq => by rw [hm _ (by omega)]; rfl)
    · -- 5 f
      refine z_aload_n hX dX6_findHeights_8 rfl ?_
      refine z_get hX dX6_findHeights_9 f_6_13 rfl rfl ?_
      refine z_iload_n hX dX6_findHeights_12 rfl ?_
      refine z_lconst (v := 0) hX dX6_findHeights_13 rfl ?_
      refine z_last (w' := [_, _, _, _, _, _, _, _, _, _, _, _, _, _, _, _, _, _, _, _]) hX dX6_findHeights_14 rfl (by omega) (by decide) rfl ?_
      first | refine z_iincN (b := 1) (ls' := [_, _, _, _, _, _, _, _, _, _]) hX dX6_findHeights_15 rfl rfl rfl ?_ | refine z_iinc (ls' := [_, _, _, _, _, _, _, _, _, _]) hX dX6_findHeights_15 rfl rfl ?_
      refine z_goto (tgt := 2) hX dX6_findHeights_18 (by decide) ?_
      refine ih (k + 1) _ (by omega) (by omega) (fun p hp => ?_)
      by_cases e : p = k
      · rw [e, pk_uLs]
      · rw [pk_uLn e]
        exact hm p (by omega)
set_option maxHeartbeats 4000000 in
set_option maxRecDepth 100000 in
theorem c_X6_findHeights (a : Nat → Nat → Int32) (b : Nat → Nat → Int64) (c : Nat → Int32) (hw : ∀ k, k < 24 → zB (a 1 k) (-100) 100) : ∀ l, ZC l yX6_findHeights cX6_findHeights 10 none 4 [.ref 0] (WM a b c) (fun r w' => r = none ∧ ∃ m h1, w' = WH a b c m h1 ∧ ∀ q, h1 q = if q < 9 then zV (gG (a 1)) 9 q 9 else b 3 q) := by
  intro l
  refine zc_intro (oc := 6) (by decide +kernel) rfl (Nat.le_of_ble_eq_true rfl) ?_
  intro X hX hR
  refine z_norm (ls' := [_, _, _, _, _, _, _, _, _, _]) rfl rfl rfl ?_
  refine z_iconst (v := nI 0) hX dX6_findHeights_0 rfl ?_
  refine z_istore_n (ls' := [_, _, _, _, _, _, _, _, _, _]) hX dX6_findHeights_1 (Nat.le_of_ble_eq_true rfl) rfl ?_
  exact lp_fh_2 hX hR a b c hw (b 3) (fun m h1 e => ⟨rfl, m, h1, rfl, e⟩) 91 0 (b 2) (by omega) (by omega) (fun p hp => by omega)
end
section
/-! ===== the reference: the still net, sheets ===== -/
def HT (wn : Nat → Int32) (q : Nat) : Int64 := if q < 9 then zV (gG wn) 9 q 9 else 0
def stillF (wn : Nat → Int32) (h : Nat → Int64) (k : Nat) : Int64 := 100352 * (wn k).toInt64 + h (zFROM.getD k 0) - h (zTO.getD k 0)
theorem stillF_congr {wn : Nat → Int32} {h h1 : Nat → Int64} (e : ∀ q, q < 10 → h q = h1 q) (k : Nat) : stillF wn h k = stillF wn h1 k := by
  unfold stillF
  rw [e _ (by have := zFROM_le k; omega), e _ (by have := zTO_le k; omega)]
def chF (h : Nat → Int64) (n : Nat) : Int64 := zfold (fun k s => s + (h (zFROM.getD k 0) - h (zTO.getD k 0)) * (h (zFROM.getD k 0) - h (zTO.getD k 0))) n 0
theorem chF_s (h : Nat → Int64) (n : Nat) : chF h (n + 1) = chF h n + (h (zFROM.getD n 0) - h (zTO.getD n 0)) * (h (zFROM.getD n 0) - h (zTO.getD n 0)) := rfl
theorem chF_congr {h h1 : Nat → Int64} (e : ∀ q, q < 10 → h q = h1 q) : ∀ n, chF h n = chF h1 n
  | 0 => rfl
  | n + 1 => by
    have h1 := zFROM_le n
    have h2 := zTO_le n
    rw [chF_s, chF_s, chF_congr e n, e _ (by omega), e _ (by omega)]
set_option maxHeartbeats 4000000 in
set_option maxRecDepth 100000 in
theorem c_X6_stillAt (a : Nat → Nat → Int32) (b : Nat → Nat → Int64) (c : Nat → Int32) (k : Nat) (hk : k < 24) : ∀ l, ZC l yX6_stillAt cX6_stillAt 2 (some .long) 3 [.ref 0, .int (nI k)] (WM a b c) (fun r w' => w' = WM a b c ∧ r = some (.long (stillF (a 1) (b 3) k))) := by
  intro l
  refine zc_intro (oc := 6) (by decide +kernel) rfl (Nat.le_of_ble_eq_true rfl) ?_
  intro X hX hR
  refine z_norm (ls' := [_, _]) rfl rfl rfl ?_
  have hF := zFROM_le k
  have hT := zTO_le k
  refine z_ldc2 hX dX6_stillAt_0 k_6_101 ?_
  refine z_aload_n hX dX6_stillAt_3 rfl ?_
  refine z_get hX dX6_stillAt_4 f_6_7 rfl rfl ?_
  refine z_iload_n hX dX6_stillAt_7 rfl ?_
  first | refine z_iald hX dX6_stillAt_8 rfl (by omega) (by decide) ?_ | refine z_stld (nm := "FROM") (xs := zFROM) hX dX6_stillAt_8 (fun _ _ _ _ h => h.1) (by show _ < 24; omega) (by decide) ?_ | refine z_stld (nm := "TO") (xs := zTO) hX dX6_stillAt_8 (fun _ _ _ _ h => h.2.1) (by show _ < 24; omega) (by decide) ?_ | refine z_stld (nm := "FALL") (xs := zFALL) hX dX6_stillAt_8 (fun _ _ _ _ h => h.2.2.1) (by show _ < 81; omega) (by decide) ?_
  first | with_reducible refine z_i2lN hX dX6_stillAt_9 (by omega) ?_ | refine z_i2l hX dX6_stillAt_9 ?_
  refine z_lmul hX dX6_stillAt_10 ?_
  refine z_aload_n hX dX6_stillAt_11 rfl ?_
  refine z_get hX dX6_stillAt_12 f_6_17 rfl rfl ?_
  refine z_iload_n hX dX6_stillAt_15 rfl ?_
  refine z_callS0 hX dX6_stillAt_16 ms_6_85 (c_X6_fromOf k hk _) (by decide) rfl rfl (Nat.le_of_ble_eq_true rfl) (fun r w1 hp _ => ?_)
  obtain ⟨rfl, rfl⟩ := hp
  refine z_lald hX dX6_stillAt_19 rfl (by omega) (by decide) ?_
  refine z_ladd hX dX6_stillAt_20 ?_
  refine z_aload_n hX dX6_stillAt_21 rfl ?_
  refine z_get hX dX6_stillAt_22 f_6_17 rfl rfl ?_
  refine z_iload_n hX dX6_stillAt_25 rfl ?_
  refine z_callS0 hX dX6_stillAt_26 ms_6_89 (c_X6_toOf k hk _) (by decide) rfl rfl (Nat.le_of_ble_eq_true rfl) (fun r w1 hp _ => ?_)
  obtain ⟨rfl, rfl⟩ := hp
  refine z_lald hX dX6_stillAt_29 rfl (by omega) (by decide) ?_
  refine z_lsub hX dX6_stillAt_30 ?_
  refine z_lret hX hR dX6_stillAt_31 ?_
  exact ⟨rfl, rfl⟩
set_option maxHeartbeats 4000000 in
set_option maxRecDepth 100000 in
theorem c_X6_still (a : Nat → Nat → Int32) (b : Nat → Nat → Int64) (c : Nat → Int32) (hw : ∀ k, k < 24 → zB (a 1 k) (-100) 100) (hb9 : b 3 9 = 0) (x : Int32) : ∀ l, ZC l yX6_still cX6_still 2 (some .long) 5 [.ref 0, .int x] (WM a b c) (fun r w' => (¬ zJ x 24 ∧ r = some (.long (-1000000001)) ∧ w' = WM a b c) ∨ ∃ j m h1, j < 24 ∧ x = nI j ∧ (∀ q, q < 10 → h1 q = HT (a 1) q) ∧ w' = WH a b c m h1 ∧ r = some (.long (stillF (a 1) (HT (a 1)) j))) := by
  intro l
  refine zc_intro (oc := 6) (by decide +kernel) rfl (Nat.le_of_ble_eq_true rfl) ?_
  intro X hX hR
  refine z_norm (ls' := [_, _]) rfl rfl rfl ?_
  refine z_iload_n hX dX6_still_0 rfl ?_
  first | with_reducible refine z_i2lN hX dX6_still_1 (by omega) ?_ | refine z_i2l hX dX6_still_1 ?_
  refine z_lconst (v := 0) hX dX6_still_2 rfl ?_
  refine z_ldc2 hX dX6_still_3 k_6_69 ?_
  refine z_callS0 hX dX6_still_6 ms_6_71 (c_X6_in _ _ _ _) (by decide) rfl rfl (Nat.le_of_ble_eq_true rfl) (fun r w1 hp _ => ?_)
  obtain ⟨rfl, hp⟩ := hp
  rcases zinJ (n := 24) rfl (by decide) hp with ⟨⟨j, hj, rfl⟩, rfl⟩ | ⟨hn_j, rfl⟩
  · -- 6 T
    refine z_if_ne (tgt := 16) hX dX6_still_9 (by decide) (fun _ => ?_) (fun c => absurd c (by decide))
    refine z_aload_n hX dX6_still_16 rfl ?_
    refine z_callV0 hX dX6_still_17 mv_6_105 (c_X6_findHeights a b c hw) (by decide) rfl rfl rfl rfl (Nat.le_of_ble_eq_true rfl) (fun r w1 hp _ => ?_)
    obtain ⟨rfl, m, h1, rfl, e1⟩ := hp
    have e2 : ∀ q, q < 10 → h1 q = HT (a 1) q := fun q hq => by
      rw [e1 q]
      unfold HT
      by_cases e : q < 9
      · rw [if_pos e, if_pos e]
      · rw [if_neg e, if_neg e, show q = 9 by omega, hb9]
    refine z_aload_n hX dX6_still_20 rfl ?_
    refine z_iload_n hX dX6_still_21 rfl ?_
    refine z_callV0 hX dX6_still_22 mv_6_108 (c_X6_stillAt a (va_up (va_up b 2 m) 3 h1) c j hj) (by decide) rfl rfl rfl rfl (Nat.le_of_ble_eq_true rfl) (fun r w1 hp _ => ?_)
    obtain ⟨rfl, rfl⟩ := hp
    refine z_lret hX hR dX6_still_25 ?_
    first | exact Or.inl ⟨hn_j, rfl, rfl⟩ | exact Or.inr ⟨j, m, h1, hj, rfl, e2, rfl, congrArg (fun z => some (Value.long z)) (stillF_congr e2 j)⟩
  · -- 6 F
    refine z_if_ne (tgt := 16) hX dX6_still_9 (by decide) (fun c => absurd c (by decide)) (fun _ => ?_)
    refine z_ldc2 hX dX6_still_12 k_6_103 ?_
    refine z_lret hX hR dX6_still_15 ?_
    first | exact Or.inl ⟨hn_j, rfl, rfl⟩ | exact Or.inr ⟨j, m, h1, hj, rfl, e2, rfl, congrArg (fun z => some (Value.long z)) (stillF_congr e2 j)⟩
set_option maxHeartbeats 4000000 in
set_option maxRecDepth 100000 in
theorem lp_X6_change_8 {X : ZX} {post : Option Value → ZW → Prop} (hX : ZOK X 6 cX6_change 5) (hR : ZRet X (some .long) post) (a : Nat → Nat → Int32) (b : Nat → Nat → Int64) (c : Nat → Int32) (m h : Nat → Int64) (hpost : post (some (.long (chF h 24))) (WH a b c m h)) : ∀ (n k : Nat), k ≤ 24 → 24 < k + n → ZG X 8 [some (.ref 0), some (.long (chF h k)), none, some (.int (nI k)), none, none] [] (WH a b c m h) := by
  intro n
  induction n with
  | zero => intro k z1 z2; omega
  | succ n ih =>
    intro k hk1 hk2
    refine z_iload_n hX dX6_change_8 rfl ?_
    refine z_bipush (v := nI 24) hX dX6_change_9 rfl ?_
    first | with_reducible refine z_icmp_geN (tgt := 49) hX dX6_change_11 (by decide) (by omega) (by omega) (fun c_11 => ?_) (fun c_11 => ?_) | refine z_icmp_ge (tgt := 49) hX dX6_change_11 (by decide) (fun c_11 => ?_) (fun c_11 => ?_)
    · -- 11 t
      have zk : k = 24 := by omega
      subst zk
      refine z_lload_n hX dX6_change_49 rfl ?_
      refine z_lret hX hR dX6_change_50 ?_
      exact hpost
    · -- 11 f
      have hF := zFROM_le k
      have hT := zTO_le k
      refine z_aload_n hX dX6_change_14 rfl ?_
      refine z_get hX dX6_change_15 f_6_17 rfl rfl ?_
      refine z_iload_n hX dX6_change_18 rfl ?_
      refine z_callS0 hX dX6_change_19 ms_6_85 (c_X6_fromOf k (by omega) _) (by decide) rfl rfl (Nat.le_of_ble_eq_true rfl) (fun r w1 hp _ => ?_)
      obtain ⟨rfl, rfl⟩ := hp
      refine z_lald hX dX6_change_22 rfl (by omega) (by decide) ?_
      refine z_aload_n hX dX6_change_23 rfl ?_
      refine z_get hX dX6_change_24 f_6_17 rfl rfl ?_
      refine z_iload_n hX dX6_change_27 rfl ?_
      refine z_callS0 hX dX6_change_28 ms_6_89 (c_X6_toOf k (by omega) _) (by decide) rfl rfl (Nat.le_of_ble_eq_true rfl) (fun r w1 hp _ => ?_)
      obtain ⟨rfl, rfl⟩ := hp
      refine z_lald hX dX6_change_31 rfl (by omega) (by decide) ?_
      refine z_lsub hX dX6_change_32 ?_
      refine z_lstore (ls' := [_, _, _, _, _, _]) hX dX6_change_33 (Nat.le_of_ble_eq_true rfl) rfl ?_
      refine z_lload_n hX dX6_change_35 rfl ?_
      refine z_lload hX dX6_change_36 rfl ?_
      refine z_lload hX dX6_change_38 rfl ?_
      refine z_lmul hX dX6_change_40 ?_
      refine z_ladd hX dX6_change_41 ?_
      refine z_lstore_n (ls' := [_, _, _, _, _, _]) hX dX6_change_42 (Nat.le_of_ble_eq_true rfl) rfl ?_
      first | refine z_iincN (b := 1) (ls' := [_, _, _, _, _, _]) hX dX6_change_43 rfl rfl rfl ?_ | refine z_iinc (ls' := [_, _, _, _, _, _]) hX dX6_change_43 rfl rfl ?_
      refine z_goto (tgt := 8) hX dX6_change_46 (by decide) ?_
      refine z_forget (ls' := [some (.ref 0), some (.long (chF h (k + 1))), none, some (.int (nI (k + 1))), none, none]) ⟨rfl, rfl, rfl, trivial⟩ ?_
      exact ih (k + 1) (by omega) (by omega)
set_option maxHeartbeats 4000000 in
set_option maxRecDepth 100000 in
theorem c_X6_change (a : Nat → Nat → Int32) (b : Nat → Nat → Int64) (c : Nat → Int32) (hw : ∀ k, k < 24 → zB (a 1 k) (-100) 100) (hb9 : b 3 9 = 0) : ∀ l, ZC l yX6_change cX6_change 6 (some .long) 5 [.ref 0] (WM a b c) (fun r w' => ∃ m h1, (∀ q, q < 10 → h1 q = HT (a 1) q) ∧ w' = WH a b c m h1 ∧ r = some (.long (chF (HT (a 1)) 24))) := by
  intro l
  refine zc_intro (oc := 6) (by decide +kernel) rfl (Nat.le_of_ble_eq_true rfl) ?_
  intro X hX hR
  refine z_norm (ls' := [_, _, _, _, _, _]) rfl rfl rfl ?_
  refine z_aload_n hX dX6_change_0 rfl ?_
  refine z_callV0 hX dX6_change_1 mv_6_105 (c_X6_findHeights a b c hw) (by decide) rfl rfl rfl rfl (Nat.le_of_ble_eq_true rfl) (fun r w1 hp _ => ?_)
  obtain ⟨rfl, m, h1, rfl, e1⟩ := hp
  have e2 : ∀ q, q < 10 → h1 q = HT (a 1) q := fun q hq => by
    rw [e1 q]
    unfold HT
    by_cases e : q < 9
    · rw [if_pos e, if_pos e]
    · rw [if_neg e, if_neg e, show q = 9 by omega, hb9]
  refine z_lconst (v := 0) hX dX6_change_4 rfl ?_
  refine z_lstore_n (ls' := [_, _, _, _, _, _]) hX dX6_change_5 (Nat.le_of_ble_eq_true rfl) rfl ?_
  refine z_iconst (v := nI 0) hX dX6_change_6 rfl ?_
  refine z_istore_n (ls' := [_, _, _, _, _, _]) hX dX6_change_7 (Nat.le_of_ble_eq_true rfl) rfl ?_
  exact lp_X6_change_8 hX hR a b c m h1 ⟨m, h1, e2, rfl, congrArg (fun z => some (Value.long z)) (chF_congr e2 24)⟩ 25 0 (by omega) (by omega)
set_option maxHeartbeats 4000000 in
set_option maxRecDepth 100000 in
theorem c_X6_isSheet (x y : Int32) (w : ZW) : ∀ l, ZC l yX6_isSheet cX6_isSheet 2 (some .boolean) 1 [.int x, .int y] w (fun r w' => w' = w ∧ ((zJ x 4 ∧ zJ y 2 ∧ r = some (.int (nI 1))) ∨ (¬ (zJ x 4 ∧ zJ y 2) ∧ r = some (.int (nI 0))))) := by
  intro l
  refine zc_intro (oc := 6) (by decide +kernel) rfl (Nat.le_of_ble_eq_true rfl) ?_
  intro X hX hR
  refine z_norm (ls' := [_, _]) rfl rfl rfl ?_
  refine z_iload_n hX dX6_isSheet_0 rfl ?_
  first | with_reducible refine z_i2lN hX dX6_isSheet_1 (by omega) ?_ | refine z_i2l hX dX6_isSheet_1 ?_
  refine z_lconst (v := 0) hX dX6_isSheet_2 rfl ?_
  refine z_ldc2 hX dX6_isSheet_3 k_6_112 ?_
  refine z_callS0 hX dX6_isSheet_6 ms_6_71 (c_X6_in _ _ _ _) (by decide) rfl rfl (Nat.le_of_ble_eq_true rfl) (fun r w1 hp _ => ?_)
  obtain ⟨rfl, hp⟩ := hp
  rcases zinJ (n := 4) rfl (by decide) hp with ⟨hy_j, rfl⟩ | ⟨hn_j, rfl⟩
  · -- 6 T
    refine z_if_eq (tgt := 26) hX dX6_isSheet_9 (by decide) (fun c => absurd c (by decide)) (fun _ => ?_)
    refine z_iload_n hX dX6_isSheet_12 rfl ?_
    first | with_reducible refine z_i2lN hX dX6_isSheet_13 (by omega) ?_ | refine z_i2l hX dX6_isSheet_13 ?_
    refine z_lconst (v := 0) hX dX6_isSheet_14 rfl ?_
    refine z_lconst (v := 1) hX dX6_isSheet_15 rfl ?_
    refine z_callS0 hX dX6_isSheet_16 ms_6_71 (c_X6_in _ _ _ _) (by decide) rfl rfl (Nat.le_of_ble_eq_true rfl) (fun r w1 hp _ => ?_)
    obtain ⟨rfl, hp⟩ := hp
    rcases zinJ (n := 2) rfl (by decide) hp with ⟨hy_l, rfl⟩ | ⟨hn_l, rfl⟩
    · -- 16 T
      refine z_if_eq (tgt := 26) hX dX6_isSheet_19 (by decide) (fun c => absurd c (by decide)) (fun _ => ?_)
      refine z_iconst (v := nI 1) hX dX6_isSheet_22 rfl ?_
      refine z_goto (tgt := 27) hX dX6_isSheet_23 (by decide) ?_
      refine z_zret hX hR dX6_isSheet_27 (by first | exact Or.inl rfl | exact Or.inr rfl | assumption) ?_
      first | exact ⟨rfl, Or.inl ⟨hy_j, hy_l, rfl⟩⟩ | exact ⟨rfl, Or.inr ⟨fun q => hn_j q.1, rfl⟩⟩ | exact ⟨rfl, Or.inr ⟨fun q => hn_l q.2, rfl⟩⟩
    · -- 16 F
      refine z_if_eq (tgt := 26) hX dX6_isSheet_19 (by decide) (fun _ => ?_) (fun c => absurd c (by decide))
      refine z_iconst (v := nI 0) hX dX6_isSheet_26 rfl ?_
      refine z_zret hX hR dX6_isSheet_27 (by first | exact Or.inl rfl | exact Or.inr rfl | assumption) ?_
      first | exact ⟨rfl, Or.inl ⟨hy_j, hy_l, rfl⟩⟩ | exact ⟨rfl, Or.inr ⟨fun q => hn_j q.1, rfl⟩⟩ | exact ⟨rfl, Or.inr ⟨fun q => hn_l q.2, rfl⟩⟩
  · -- 6 F
    refine z_if_eq (tgt := 26) hX dX6_isSheet_9 (by decide) (fun _ => ?_) (fun c => absurd c (by decide))
    refine z_iconst (v := nI 0) hX dX6_isSheet_26 rfl ?_
    refine z_zret hX hR dX6_isSheet_27 (by first | exact Or.inl rfl | exact Or.inr rfl | assumption) ?_
    first | exact ⟨rfl, Or.inl ⟨hy_j, hy_l, rfl⟩⟩ | exact ⟨rfl, Or.inr ⟨fun q => hn_j q.1, rfl⟩⟩ | exact ⟨rfl, Or.inr ⟨fun q => hn_l q.2, rfl⟩⟩
set_option maxHeartbeats 4000000 in
set_option maxRecDepth 100000 in
theorem c_X6_isDoor (x : Int32) (w : ZW) : ∀ l, ZC l yX6_isDoor cX6_isDoor 1 (some .boolean) 1 [.int x] w (fun r w' => w' = w ∧ ((zJ x 4 ∧ r = some (.int (nI 1))) ∨ (¬ zJ x 4 ∧ r = some (.int (nI 0))))) := by
  intro l
  refine zc_intro (oc := 6) (by decide +kernel) rfl (Nat.le_of_ble_eq_true rfl) ?_
  intro X hX hR
  refine z_norm (ls' := [_]) rfl rfl rfl ?_
  refine z_iload_n hX dX6_isDoor_0 rfl ?_
  first | with_reducible refine z_i2lN hX dX6_isDoor_1 (by omega) ?_ | refine z_i2l hX dX6_isDoor_1 ?_
  refine z_lconst (v := 0) hX dX6_isDoor_2 rfl ?_
  refine z_ldc2 hX dX6_isDoor_3 k_6_112 ?_
  refine z_callS0 hX dX6_isDoor_6 ms_6_71 (c_X6_in _ _ _ _) (by decide) rfl rfl (Nat.le_of_ble_eq_true rfl) (fun r w1 hp _ => ?_)
  obtain ⟨rfl, hp⟩ := hp
  rcases zinJ (n := 4) rfl (by decide) hp with ⟨hy_j, rfl⟩ | ⟨hn_j, rfl⟩
  · -- 6 T
    refine z_zret hX hR dX6_isDoor_9 (by first | exact Or.inl rfl | exact Or.inr rfl | assumption) ?_
    first | exact ⟨rfl, Or.inl ⟨hy_j, rfl⟩⟩ | exact ⟨rfl, Or.inr ⟨hn_j, rfl⟩⟩
  · -- 6 F
    refine z_zret hX hR dX6_isDoor_9 (by first | exact Or.inl rfl | exact Or.inr rfl | assumption) ?_
    first | exact ⟨rfl, Or.inl ⟨hy_j, rfl⟩⟩ | exact ⟨rfl, Or.inr ⟨hn_j, rfl⟩⟩
theorem zJ_of_le {x : Int32} {m : Nat} (h1 : 0 ≤ x) (h2 : x ≤ nI m) (hm : m < 2147483647) : zJ x (m + 1) := by
  rw [zJ_iff (by omega)]
  rw [Int32.le_iff_toInt_le] at h1 h2
  rw [nI_toInt (by omega)] at h2
  have h3 : (0 : Int32).toInt = 0 := rfl
  omega
set_option maxHeartbeats 4000000 in
set_option maxRecDepth 100000 in
theorem lp_X6_sheet_40 {X : ZX} {post : Option Value → ZW → Prop} (hX : ZOK X 6 cX6_sheet 2) (hR : ZRet X (some .int) post) (a : Nat → Nat → Int32) (b : Nat → Nat → Int64) (c : Nat → Int32) (a4 a5 it0 : Nat → Int32) (sn : Nat) (hs : sn < 4) (lv nv : Int32) (hpost : ∀ it, (∀ p, it p = if 24 * sn ≤ p ∧ p < 24 * sn + 24 then 0 else it0 p) → post (some (.int nv)) (WM (va_up (va_up (va_up a 4 a4) 5 a5) 6 it) b c)) : ∀ (n k : Nat) (it : Nat → Int32), k ≤ 24 → 24 < k + n → (∀ p, it p = if 24 * sn ≤ p ∧ p < 24 * sn + k then 0 else it0 p) → ZG X 40 [some (.ref 0), some (.int (nI sn)), some (.int lv), some (.int nv), some (.int (nI k))] [] (WM (va_up (va_up (va_up a 4 a4) 5 a5) 6 it) b c) := by
  intro n
  induction n with
  | zero => intro k it z1 z2; omega
  | succ n ih =>
    intro k it hk1 hk2 hit
    refine z_iload hX dX6_sheet_40 rfl ?_
    refine z_bipush (v := nI 24) hX dX6_sheet_42 rfl ?_
    first | with_reducible refine z_icmp_geN (tgt := 66) hX dX6_sheet_44 (by decide) (by omega) (by omega) (fun c_44 => ?_) (fun c_44 => ?_) | refine z_icmp_ge (tgt := 66) hX dX6_sheet_44 (by decide) (fun c_44 => ?_) (fun c_44 => ?_)
    · -- 44 t
      have zk : k = 24 := by omega
      subst zk
      refine z_iload_n hX dX6_sheet_66 rfl ?_
      refine z_iret hX hR dX6_sheet_67 ?_
      exact hpost it hit
    · -- 44 f
      refine z_aload_n hX dX6_sheet_47 rfl ?_
      refine z_get hX dX6_sheet_48 f_6_26 rfl rfl ?_
      refine z_bipush (v := nI 24) hX dX6_sheet_51 rfl ?_
      refine z_iload_n hX dX6_sheet_53 rfl ?_
      first | with_reducible refine z_imulN hX dX6_sheet_54 ?_ | refine z_imul hX dX6_sheet_54 ?_
      refine z_iload hX dX6_sheet_55 rfl ?_
      first | with_reducible refine z_iaddN hX dX6_sheet_57 ?_ | refine z_iadd hX dX6_sheet_57 ?_
      refine z_iconst (v := nI 0) hX dX6_sheet_58 rfl ?_
      refine z_iast (w' := [_, _, _, _, _, _, _, _, _, _, _, _, _, _, _, _, _, _, _, _]) hX dX6_sheet_59 rfl (by omega) (by decide) rfl ?_
      first | refine z_iincN (b := 1) (ls' := [_, _, _, _, _]) hX dX6_sheet_60 rfl rfl rfl ?_ | refine z_iinc (ls' := [_, _, _, _, _]) hX dX6_sheet_60 rfl rfl ?_
      refine z_goto (tgt := 40) hX dX6_sheet_63 (by decide) ?_
      refine ih (k + 1) (upd it (24 * sn + k) 0) (by omega) (by omega) (fun p => ?_)
      by_cases e : p = 24 * sn + k
      · rw [e, pk_us, if_pos (by omega)]
      · rw [pk_un e, hit p]
        by_cases e2 : 24 * sn ≤ p ∧ p < 24 * sn + k
        · rw [if_pos e2, if_pos (by omega)]
        · rw [if_neg e2, if_neg (by omega)]
set_option maxHeartbeats 4000000 in
set_option maxRecDepth 100000 in
theorem c_X6_sheet (a : Nat → Nat → Int32) (b : Nat → Nat → Int64) (c : Nat → Int32) (x y z : Int32) : ∀ l, ZC l yX6_sheet cX6_sheet 5 (some .int) 2 [.ref 0, .int x, .int y, .int z] (WM a b c) (fun r w' => ((¬ (zJ x 4 ∧ zJ y 2) ∨ ¬ z ≤ nI 24) ∧ r = some (.int (-1)) ∧ w' = WM a b c) ∨ ((zJ x 4 ∧ zJ y 2) ∧ z ≤ nI 24 ∧ ¬ 0 ≤ z ∧ r = some (.int (-14)) ∧ w' = WM a b c) ∨ ∃ s l k it, s < 4 ∧ l < 2 ∧ k < 25 ∧ x = nI s ∧ y = nI l ∧ z = nI k ∧ r = some (.int (nI k)) ∧ (∀ p, it p = if 24 * s ≤ p ∧ p < 24 * s + 24 then 0 else a 6 p) ∧ w' = WM (va_up (va_up (va_up a 4 (upd (a 4) s (nI l))) 5 (upd (a 5) s (nI k))) 6 it) b c) := by
  intro l
  refine zc_intro (oc := 6) (by decide +kernel) rfl (Nat.le_of_ble_eq_true rfl) ?_
  intro X hX hR
  refine z_norm (ls' := [_, _, _, _, _]) rfl rfl rfl ?_
  refine z_iload_n hX dX6_sheet_0 rfl ?_
  refine z_iload_n hX dX6_sheet_1 rfl ?_
  refine z_callS0 hX dX6_sheet_2 ms_6_114 (c_X6_isSheet _ _ _) (by decide) rfl rfl (Nat.le_of_ble_eq_true rfl) (fun r w1 hp _ => ?_)
  obtain ⟨rfl, hp⟩ := hp
  rcases hp with ⟨⟨sn, hs, rfl⟩, ⟨ln, hl, rfl⟩, rfl⟩ | ⟨hnS, rfl⟩
  · -- 2 T
    refine z_if_eq (tgt := 14) hX dX6_sheet_5 (by decide) (fun c => absurd c (by decide)) (fun _ => ?_)
    refine z_iload_n hX dX6_sheet_8 rfl ?_
    refine z_bipush (v := nI 24) hX dX6_sheet_9 rfl ?_
    first | with_reducible refine z_icmp_leN (tgt := 16) hX dX6_sheet_11 (by decide) (by omega) (by omega) (fun c_11 => ?_) (fun c_11 => ?_) | refine z_icmp_le (tgt := 16) hX dX6_sheet_11 (by decide) (fun c_11 => ?_) (fun c_11 => ?_)
    · -- 11 t
      refine z_iload_n hX dX6_sheet_16 rfl ?_
      refine z_if_ge (tgt := 23) hX dX6_sheet_17 (by decide) (fun c_17 => ?_) (fun c_17 => ?_)
      · -- 17 t
        obtain ⟨kn, hkn, rfl⟩ := zJ_of_le c_17 c_11 (by omega)
        refine z_aload_n hX dX6_sheet_23 rfl ?_
        refine z_get hX dX6_sheet_24 f_6_20 rfl rfl ?_
        refine z_iload_n hX dX6_sheet_27 rfl ?_
        refine z_iload_n hX dX6_sheet_28 rfl ?_
        refine z_iast (w' := [_, _, _, _, _, _, _, _, _, _, _, _, _, _, _, _, _, _, _, _]) hX dX6_sheet_29 rfl (by omega) (by decide) rfl ?_
        refine z_aload_n hX dX6_sheet_30 rfl ?_
        refine z_get hX dX6_sheet_31 f_6_23 rfl rfl ?_
        refine z_iload_n hX dX6_sheet_34 rfl ?_
        refine z_iload_n hX dX6_sheet_35 rfl ?_
        refine z_iast (w' := [_, _, _, _, _, _, _, _, _, _, _, _, _, _, _, _, _, _, _, _]) hX dX6_sheet_36 rfl (by omega) (by decide) rfl ?_
        refine z_iconst (v := nI 0) hX dX6_sheet_37 rfl ?_
        refine z_istore (ls' := [_, _, _, _, _]) hX dX6_sheet_38 (Nat.le_of_ble_eq_true rfl) rfl ?_
        exact lp_X6_sheet_40 hX hR a b c _ _ (a 6) sn hs _ _ (fun it e => Or.inr (Or.inr ⟨sn, ln, kn, it, hs, hl, hkn, rfl, rfl, rfl, rfl, e, rfl⟩)) 25 0 (a 6) (by omega) (by omega) (fun p => by rw [if_neg (by omega)])
      · -- 17 f
        refine z_bipush (v := -14) hX dX6_sheet_20 rfl ?_
        refine z_iret hX hR dX6_sheet_22 ?_
        first | exact Or.inl ⟨Or.inl hnS, rfl, rfl⟩ | exact Or.inl ⟨Or.inr c_11, rfl, rfl⟩ | exact Or.inr (Or.inl ⟨⟨⟨sn, hs, rfl⟩, ln, hl, rfl⟩, c_11, c_17, rfl, rfl⟩)
    · -- 11 f
      refine z_iconst (v := -1) hX dX6_sheet_14 rfl ?_
      refine z_iret hX hR dX6_sheet_15 ?_
      first | exact Or.inl ⟨Or.inl hnS, rfl, rfl⟩ | exact Or.inl ⟨Or.inr c_11, rfl, rfl⟩ | exact Or.inr (Or.inl ⟨⟨⟨sn, hs, rfl⟩, ln, hl, rfl⟩, c_11, c_17, rfl, rfl⟩)
  · -- 2 F
    refine z_if_eq (tgt := 14) hX dX6_sheet_5 (by decide) (fun _ => ?_) (fun c => absurd c (by decide))
    refine z_iconst (v := -1) hX dX6_sheet_14 rfl ?_
    refine z_iret hX hR dX6_sheet_15 ?_
    first | exact Or.inl ⟨Or.inl hnS, rfl, rfl⟩ | exact Or.inl ⟨Or.inr c_11, rfl, rfl⟩ | exact Or.inr (Or.inl ⟨⟨⟨sn, hs, rfl⟩, ln, hl, rfl⟩, c_11, c_17, rfl, rfl⟩)
set_option maxHeartbeats 4000000 in
set_option maxRecDepth 100000 in
theorem c_X6_drop (a : Nat → Nat → Int32) (b : Nat → Nat → Int64) (c : Nat → Int32) (x : Int32) : ∀ l, ZC l yX6_drop cX6_drop 2 (some .int) 1 [.ref 0, .int x] (WM a b c) (fun r w' => (¬ zJ x 4 ∧ r = some (.int (-1)) ∧ w' = WM a b c) ∨ ∃ s, s < 4 ∧ x = nI s ∧ ((¬ 0 ≤ a 4 s ∧ r = some (.int (-11)) ∧ w' = WM a b c) ∨ (0 ≤ a 4 s ∧ r = some (.int (a 5 s)) ∧ w' = WM (va_up a 4 (upd (a 4) s (-1))) b c))) := by
  intro l
  refine zc_intro (oc := 6) (by decide +kernel) rfl (Nat.le_of_ble_eq_true rfl) ?_
  intro X hX hR
  refine z_norm (ls' := [_, _]) rfl rfl rfl ?_
  refine z_iload_n hX dX6_drop_0 rfl ?_
  first | with_reducible refine z_i2lN hX dX6_drop_1 (by omega) ?_ | refine z_i2l hX dX6_drop_1 ?_
  refine z_lconst (v := 0) hX dX6_drop_2 rfl ?_
  refine z_ldc2 hX dX6_drop_3 k_6_112 ?_
  refine z_callS0 hX dX6_drop_6 ms_6_71 (c_X6_in _ _ _ _) (by decide) rfl rfl (Nat.le_of_ble_eq_true rfl) (fun r w1 hp _ => ?_)
  obtain ⟨rfl, hp⟩ := hp
  rcases zinJ (n := 4) rfl (by decide) hp with ⟨⟨j, hj, rfl⟩, rfl⟩ | ⟨hn_j, rfl⟩
  · -- 6 T
    refine z_if_ne (tgt := 14) hX dX6_drop_9 (by decide) (fun _ => ?_) (fun c => absurd c (by decide))
    refine z_aload_n hX dX6_drop_14 rfl ?_
    refine z_get hX dX6_drop_15 f_6_20 rfl rfl ?_
    refine z_iload_n hX dX6_drop_18 rfl ?_
    first | refine z_iald hX dX6_drop_19 rfl (by omega) (by decide) ?_ | refine z_stld (nm := "FROM") (xs := zFROM) hX dX6_drop_19 (fun _ _ _ _ h => h.1) (by show _ < 24; omega) (by decide) ?_ | refine z_stld (nm := "TO") (xs := zTO) hX dX6_drop_19 (fun _ _ _ _ h => h.2.1) (by show _ < 24; omega) (by decide) ?_ | refine z_stld (nm := "FALL") (xs := zFALL) hX dX6_drop_19 (fun _ _ _ _ h => h.2.2.1) (by show _ < 81; omega) (by decide) ?_
    refine z_if_ge (tgt := 26) hX dX6_drop_20 (by decide) (fun c_20 => ?_) (fun c_20 => ?_)
    · -- 20 t
      refine z_aload_n hX dX6_drop_26 rfl ?_
      refine z_get hX dX6_drop_27 f_6_20 rfl rfl ?_
      refine z_iload_n hX dX6_drop_30 rfl ?_
      refine z_iconst (v := -1) hX dX6_drop_31 rfl ?_
      refine z_iast (w' := [_, _, _, _, _, _, _, _, _, _, _, _, _, _, _, _, _, _, _, _]) hX dX6_drop_32 rfl (by omega) (by decide) rfl ?_
      refine z_aload_n hX dX6_drop_33 rfl ?_
      refine z_get hX dX6_drop_34 f_6_23 rfl rfl ?_
      refine z_iload_n hX dX6_drop_37 rfl ?_
      first | refine z_iald hX dX6_drop_38 rfl (by omega) (by decide) ?_ | refine z_stld (nm := "FROM") (xs := zFROM) hX dX6_drop_38 (fun _ _ _ _ h => h.1) (by show _ < 24; omega) (by decide) ?_ | refine z_stld (nm := "TO") (xs := zTO) hX dX6_drop_38 (fun _ _ _ _ h => h.2.1) (by show _ < 24; omega) (by decide) ?_ | refine z_stld (nm := "FALL") (xs := zFALL) hX dX6_drop_38 (fun _ _ _ _ h => h.2.2.1) (by show _ < 81; omega) (by decide) ?_
      refine z_iret hX hR dX6_drop_39 ?_
      first | exact Or.inl ⟨hn_j, rfl, rfl⟩ | exact Or.inr ⟨j, hj, rfl, Or.inl ⟨c_20, rfl, rfl⟩⟩ | exact Or.inr ⟨j, hj, rfl, Or.inr ⟨c_20, rfl, rfl⟩⟩
    · -- 20 f
      refine z_bipush (v := -11) hX dX6_drop_23 rfl ?_
      refine z_iret hX hR dX6_drop_25 ?_
      first | exact Or.inl ⟨hn_j, rfl, rfl⟩ | exact Or.inr ⟨j, hj, rfl, Or.inl ⟨c_20, rfl, rfl⟩⟩ | exact Or.inr ⟨j, hj, rfl, Or.inr ⟨c_20, rfl, rfl⟩⟩
  · -- 6 F
    refine z_if_ne (tgt := 14) hX dX6_drop_9 (by decide) (fun c => absurd c (by decide)) (fun _ => ?_)
    refine z_iconst (v := -1) hX dX6_drop_12 rfl ?_
    refine z_iret hX hR dX6_drop_13 ?_
    first | exact Or.inl ⟨hn_j, rfl, rfl⟩ | exact Or.inr ⟨j, hj, rfl, Or.inl ⟨c_20, rfl, rfl⟩⟩ | exact Or.inr ⟨j, hj, rfl, Or.inr ⟨c_20, rfl, rfl⟩⟩
set_option maxHeartbeats 4000000 in
set_option maxRecDepth 100000 in
theorem c_X6_against (a : Nat → Nat → Int32) (b : Nat → Nat → Int64) (c : Nat → Int32) (s : Nat) (hs : s < 4) (y : Int32) : ∀ l, ZC l yX6_against cX6_against 3 (some .int) 1 [.ref 0, .int (nI s), .int y] (WM a b c) (fun r w' => w' = WM a b c ∧ ((a 4 s = y ∧ r = some (.int (nI 0))) ∨ (¬ a 4 s = y ∧ ¬ 0 ≤ a 4 s ∧ r = some (.int (-11))) ∨ (¬ a 4 s = y ∧ 0 ≤ a 4 s ∧ r = some (.int (-12))))) := by
  intro l
  refine zc_intro (oc := 6) (by decide +kernel) rfl (Nat.le_of_ble_eq_true rfl) ?_
  intro X hX hR
  refine z_norm (ls' := [_, _, _]) rfl rfl rfl ?_
  refine z_aload_n hX dX6_against_0 rfl ?_
  refine z_get hX dX6_against_1 f_6_20 rfl rfl ?_
  refine z_iload_n hX dX6_against_4 rfl ?_
  first | refine z_iald hX dX6_against_5 rfl (by omega) (by decide) ?_ | refine z_stld (nm := "FROM") (xs := zFROM) hX dX6_against_5 (fun _ _ _ _ h => h.1) (by show _ < 24; omega) (by decide) ?_ | refine z_stld (nm := "TO") (xs := zTO) hX dX6_against_5 (fun _ _ _ _ h => h.2.1) (by show _ < 24; omega) (by decide) ?_ | refine z_stld (nm := "FALL") (xs := zFALL) hX dX6_against_5 (fun _ _ _ _ h => h.2.2.1) (by show _ < 81; omega) (by decide) ?_
  refine z_iload_n hX dX6_against_6 rfl ?_
  first | with_reducible refine z_icmp_neN (tgt := 14) hX dX6_against_7 (by decide) (by omega) (by omega) (fun c_7 => ?_) (fun c_7 => ?_) | refine z_icmp_ne (tgt := 14) hX dX6_against_7 (by decide) (fun c_7 => ?_) (fun c_7 => ?_)
  · -- 7 t
    refine z_aload_n hX dX6_against_14 rfl ?_
    refine z_get hX dX6_against_15 f_6_20 rfl rfl ?_
    refine z_iload_n hX dX6_against_18 rfl ?_
    first | refine z_iald hX dX6_against_19 rfl (by omega) (by decide) ?_ | refine z_stld (nm := "FROM") (xs := zFROM) hX dX6_against_19 (fun _ _ _ _ h => h.1) (by show _ < 24; omega) (by decide) ?_ | refine z_stld (nm := "TO") (xs := zTO) hX dX6_against_19 (fun _ _ _ _ h => h.2.1) (by show _ < 24; omega) (by decide) ?_ | refine z_stld (nm := "FALL") (xs := zFALL) hX dX6_against_19 (fun _ _ _ _ h => h.2.2.1) (by show _ < 81; omega) (by decide) ?_
    refine z_if_ge (tgt := 28) hX dX6_against_20 (by decide) (fun c_20 => ?_) (fun c_20 => ?_)
    · -- 20 t
      refine z_bipush (v := -12) hX dX6_against_28 rfl ?_
      refine z_iret hX hR dX6_against_30 ?_
      first | exact ⟨rfl, Or.inl ⟨c_7, rfl⟩⟩ | exact ⟨rfl, Or.inr (Or.inl ⟨c_7, c_20, rfl⟩)⟩ | exact ⟨rfl, Or.inr (Or.inr ⟨c_7, c_20, rfl⟩)⟩
    · -- 20 f
      refine z_bipush (v := -11) hX dX6_against_23 rfl ?_
      refine z_goto (tgt := 30) hX dX6_against_25 (by decide) ?_
      refine z_iret hX hR dX6_against_30 ?_
      first | exact ⟨rfl, Or.inl ⟨c_7, rfl⟩⟩ | exact ⟨rfl, Or.inr (Or.inl ⟨c_7, c_20, rfl⟩)⟩ | exact ⟨rfl, Or.inr (Or.inr ⟨c_7, c_20, rfl⟩)⟩
  · -- 7 f
    refine z_iconst (v := nI 0) hX dX6_against_10 rfl ?_
    refine z_goto (tgt := 30) hX dX6_against_11 (by decide) ?_
    refine z_iret hX hR dX6_against_30 ?_
    first | exact ⟨rfl, Or.inl ⟨c_7, rfl⟩⟩ | exact ⟨rfl, Or.inr (Or.inl ⟨c_7, c_20, rfl⟩)⟩ | exact ⟨rfl, Or.inr (Or.inr ⟨c_7, c_20, rfl⟩)⟩
theorem zinS {x : Int32} {n : Nat} {r : Option Value} (hn : n ≤ 24) (hp : (0 ≤ x.toInt64 ∧ x.toInt64 ≤ (nI n - nI 1).toInt64 ∧ r = some (.int (nI 1))) ∨ (¬ (0 ≤ x.toInt64 ∧ x.toInt64 ≤ (nI n - nI 1).toInt64) ∧ r = some (.int (nI 0)))) : (zJ x n ∧ r = some (.int (nI 1))) ∨ (¬ zJ x n ∧ r = some (.int (nI 0))) := by
  refine zinJ ?_ (by omega) hp
  rw [Int32.toInt_toInt64, pk_sub_toInt (by omega) (by omega)]
  omega
def shortF (v : Int32) : Int32 := (v <<< (nI 16 &&& 31)) >>> (nI 16 &&& 31)
set_option maxHeartbeats 4000000 in
set_option maxRecDepth 100000 in
theorem c_X6_item (a : Nat → Nat → Int32) (b : Nat → Nat → Int64) (c : Nat → Int32) (hsz : ∀ k, k < 4 → ∃ n, n ≤ 24 ∧ a 5 k = nI n) (x y i v : Int32) : ∀ l, ZC l yX6_item cX6_item 6 (some .int) 2 [.ref 0, .int x, .int y, .int i, .int v] (WM a b c) (fun r w' => (¬ (zJ x 4 ∧ zJ y 2) ∧ r = some (.int (-1)) ∧ w' = WM a b c) ∨ ∃ s l n, s < 4 ∧ l < 2 ∧ x = nI s ∧ y = nI l ∧ a 5 s = nI n ∧ n ≤ 24 ∧ ((¬ a 4 s = nI l ∧ ¬ 0 ≤ a 4 s ∧ r = some (.int (-11)) ∧ w' = WM a b c) ∨ (¬ a 4 s = nI l ∧ 0 ≤ a 4 s ∧ r = some (.int (-12)) ∧ w' = WM a b c) ∨ (a 4 s = nI l ∧ ¬ zJ i n ∧ r = some (.int (-13)) ∧ w' = WM a b c) ∨ ∃ q, a 4 s = nI l ∧ q < n ∧ i = nI q ∧ r = some (.int (nI 1)) ∧ w' = WM (va_up a 6 (upd (a 6) (24 * s + q) (if l = 0 then shortF v else v))) b c)) := by
  intro l
  refine zc_intro (oc := 6) (by decide +kernel) rfl (Nat.le_of_ble_eq_true rfl) ?_
  intro X hX hR
  refine z_norm (ls' := [_, _, _, _, _, _]) rfl rfl rfl ?_
  refine z_iload_n hX dX6_item_0 rfl ?_
  refine z_iload_n hX dX6_item_1 rfl ?_
  refine z_callS0 hX dX6_item_2 ms_6_114 (c_X6_isSheet _ _ _) (by decide) rfl rfl (Nat.le_of_ble_eq_true rfl) (fun r w1 hp _ => ?_)
  obtain ⟨rfl, hp⟩ := hp
  rcases hp with ⟨⟨sn, hs, rfl⟩, ⟨ln, hl, rfl⟩, rfl⟩ | ⟨hnS, rfl⟩
  · -- 2 T
    obtain ⟨zn, hz1, hz2⟩ := hsz sn hs
    refine z_if_ne (tgt := 10) hX dX6_item_5 (by decide) (fun _ => ?_) (fun c => absurd c (by decide))
    refine z_aload_n hX dX6_item_10 rfl ?_
    refine z_iload_n hX dX6_item_11 rfl ?_
    refine z_iload_n hX dX6_item_12 rfl ?_
    refine z_callV0 hX dX6_item_13 mv_6_118 (c_X6_against a b c sn hs _) (by decide) rfl rfl rfl rfl (Nat.le_of_ble_eq_true rfl) (fun r w1 hp _ => ?_)
    obtain ⟨rfl, ⟨hA, rfl⟩ | ⟨hA, hA2, rfl⟩ | ⟨hA, hA2, rfl⟩⟩ := hp
    · -- 13 case 0
      refine z_istore (ls' := [_, _, _, _, _, _]) hX dX6_item_16 (Nat.le_of_ble_eq_true rfl) rfl ?_
      refine z_iload hX dX6_item_18 rfl ?_
      refine z_if_ge (tgt := 26) hX dX6_item_20 (by decide) (fun c_20 => ?_) (fun c_20 => ?_)
      · -- 20 t
        refine z_iload_n hX dX6_item_26 rfl ?_
        first | with_reducible refine z_i2lN hX dX6_item_27 (by omega) ?_ | refine z_i2l hX dX6_item_27 ?_
        refine z_lconst (v := 0) hX dX6_item_28 rfl ?_
        refine z_aload_n hX dX6_item_29 rfl ?_
        refine z_get hX dX6_item_30 f_6_23 rfl rfl ?_
        refine z_iload_n hX dX6_item_33 rfl ?_
        refine z_iald hX dX6_item_34 rfl (by omega) (by decide) ?_
        rw [hz2]
        refine z_iconst (v := nI 1) hX dX6_item_35 rfl ?_
        refine z_isub hX dX6_item_36 ?_
        refine z_i2l hX dX6_item_37 ?_
        refine z_callS0 hX dX6_item_38 ms_6_71 (c_X6_in _ _ _ _) (by decide) rfl rfl (Nat.le_of_ble_eq_true rfl) (fun r w1 hp _ => ?_)
        obtain ⟨rfl, hp⟩ := hp
        rcases zinS hz1 hp with ⟨⟨qn, hq, rfl⟩, rfl⟩ | ⟨hnq, rfl⟩
        · -- 38 T
          refine z_if_ne (tgt := 47) hX dX6_item_41 (by decide) (fun _ => ?_) (fun c => absurd c (by decide))
          refine z_aload_n hX dX6_item_47 rfl ?_
          refine z_get hX dX6_item_48 f_6_26 rfl rfl ?_
          refine z_bipush (v := nI 24) hX dX6_item_51 rfl ?_
          refine z_iload_n hX dX6_item_53 rfl ?_
          first | with_reducible refine z_imulN hX dX6_item_54 ?_ | refine z_imul hX dX6_item_54 ?_
          refine z_iload_n hX dX6_item_55 rfl ?_
          first | with_reducible refine z_iaddN hX dX6_item_56 ?_ | refine z_iadd hX dX6_item_56 ?_
          refine z_iload_n hX dX6_item_57 rfl ?_
          refine z_if_ne (tgt := 72) hX dX6_item_58 (by decide) (fun c_58 => ?_) (fun c_58 => ?_)
          · -- 58 t
            have c_58 : ¬ ln = 0 := fun q => c_58 (by rw [q]; rfl)
            refine z_iload hX dX6_item_72 rfl ?_
            refine z_iast (w' := [_, _, _, _, _, _, _, _, _, _, _, _, _, _, _, _, _, _, _, _]) hX dX6_item_74 rfl (by omega) (by decide) rfl ?_
            refine z_iconst (v := nI 1) hX dX6_item_75 rfl ?_
            refine z_iret hX hR dX6_item_76 ?_
            first | exact Or.inl ⟨hnS, rfl, rfl⟩ | exact Or.inr ⟨sn, ln, zn, hs, hl, rfl, rfl, hz2, hz1, Or.inl ⟨hA, hA2, rfl, rfl⟩⟩ | exact Or.inr ⟨sn, ln, zn, hs, hl, rfl, rfl, hz2, hz1, Or.inr (Or.inl ⟨hA, hA2, rfl, rfl⟩)⟩ | exact Or.inr ⟨sn, ln, zn, hs, hl, rfl, rfl, hz2, hz1, Or.inr (Or.inr (Or.inl ⟨hA, hnq, rfl, rfl⟩))⟩ | exact Or.inr ⟨sn, ln, zn, hs, hl, rfl, rfl, hz2, hz1, Or.inr (Or.inr (Or.inr ⟨qn, hA, hq, rfl, rfl, by rw [if_pos c_58]; rfl⟩))⟩ | exact Or.inr ⟨sn, ln, zn, hs, hl, rfl, rfl, hz2, hz1, Or.inr (Or.inr (Or.inr ⟨qn, hA, hq, rfl, rfl, by rw [if_neg c_58]; rfl⟩))⟩
          · -- 58 f
            have c_58 : ln = 0 := (nI_eq (by omega) (by omega)).mp c_58
            refine z_iload hX dX6_item_61 rfl ?_
            refine z_bipush (v := nI 16) hX dX6_item_63 rfl ?_
            refine z_ishl hX dX6_item_65 ?_
            refine z_bipush (v := nI 16) hX dX6_item_66 rfl ?_
            refine z_ishr hX dX6_item_68 ?_
            refine z_goto (tgt := 74) hX dX6_item_69 (by decide) ?_
            refine z_iast (w' := [_, _, _, _, _, _, _, _, _, _, _, _, _, _, _, _, _, _, _, _]) hX dX6_item_74 rfl (by omega) (by decide) rfl ?_
            refine z_iconst (v := nI 1) hX dX6_item_75 rfl ?_
            refine z_iret hX hR dX6_item_76 ?_
            first | exact Or.inl ⟨hnS, rfl, rfl⟩ | exact Or.inr ⟨sn, ln, zn, hs, hl, rfl, rfl, hz2, hz1, Or.inl ⟨hA, hA2, rfl, rfl⟩⟩ | exact Or.inr ⟨sn, ln, zn, hs, hl, rfl, rfl, hz2, hz1, Or.inr (Or.inl ⟨hA, hA2, rfl, rfl⟩)⟩ | exact Or.inr ⟨sn, ln, zn, hs, hl, rfl, rfl, hz2, hz1, Or.inr (Or.inr (Or.inl ⟨hA, hnq, rfl, rfl⟩))⟩ | exact Or.inr ⟨sn, ln, zn, hs, hl, rfl, rfl, hz2, hz1, Or.inr (Or.inr (Or.inr ⟨qn, hA, hq, rfl, rfl, by rw [if_pos c_58]; rfl⟩))⟩ | exact Or.inr ⟨sn, ln, zn, hs, hl, rfl, rfl, hz2, hz1, Or.inr (Or.inr (Or.inr ⟨qn, hA, hq, rfl, rfl, by rw [if_neg c_58]; rfl⟩))⟩
        · -- 38 F
          refine z_if_ne (tgt := 47) hX dX6_item_41 (by decide) (fun c => absurd c (by decide)) (fun _ => ?_)
          refine z_bipush (v := -13) hX dX6_item_44 rfl ?_
          refine z_iret hX hR dX6_item_46 ?_
          first | exact Or.inl ⟨hnS, rfl, rfl⟩ | exact Or.inr ⟨sn, ln, zn, hs, hl, rfl, rfl, hz2, hz1, Or.inl ⟨hA, hA2, rfl, rfl⟩⟩ | exact Or.inr ⟨sn, ln, zn, hs, hl, rfl, rfl, hz2, hz1, Or.inr (Or.inl ⟨hA, hA2, rfl, rfl⟩)⟩ | exact Or.inr ⟨sn, ln, zn, hs, hl, rfl, rfl, hz2, hz1, Or.inr (Or.inr (Or.inl ⟨hA, hnq, rfl, rfl⟩))⟩ | exact Or.inr ⟨sn, ln, zn, hs, hl, rfl, rfl, hz2, hz1, Or.inr (Or.inr (Or.inr ⟨qn, hA, hq, rfl, rfl, by rw [if_pos c_58]; rfl⟩))⟩ | exact Or.inr ⟨sn, ln, zn, hs, hl, rfl, rfl, hz2, hz1, Or.inr (Or.inr (Or.inr ⟨qn, hA, hq, rfl, rfl, by rw [if_neg c_58]; rfl⟩))⟩
      · -- 20 f
        exact absurd (by decide) c_20
    · -- 13 case 1
      refine z_istore (ls' := [_, _, _, _, _, _]) hX dX6_item_16 (Nat.le_of_ble_eq_true rfl) rfl ?_
      refine z_iload hX dX6_item_18 rfl ?_
      refine z_if_ge (tgt := 26) hX dX6_item_20 (by decide) (fun c_20 => ?_) (fun c_20 => ?_)
      · -- 20 t
        exact absurd c_20 (by decide)
      · -- 20 f
        refine z_iload hX dX6_item_23 rfl ?_
        refine z_iret hX hR dX6_item_25 ?_
        first | exact Or.inl ⟨hnS, rfl, rfl⟩ | exact Or.inr ⟨sn, ln, zn, hs, hl, rfl, rfl, hz2, hz1, Or.inl ⟨hA, hA2, rfl, rfl⟩⟩ | exact Or.inr ⟨sn, ln, zn, hs, hl, rfl, rfl, hz2, hz1, Or.inr (Or.inl ⟨hA, hA2, rfl, rfl⟩)⟩ | exact Or.inr ⟨sn, ln, zn, hs, hl, rfl, rfl, hz2, hz1, Or.inr (Or.inr (Or.inl ⟨hA, hnq, rfl, rfl⟩))⟩ | exact Or.inr ⟨sn, ln, zn, hs, hl, rfl, rfl, hz2, hz1, Or.inr (Or.inr (Or.inr ⟨qn, hA, hq, rfl, rfl, by rw [if_pos c_58]; rfl⟩))⟩ | exact Or.inr ⟨sn, ln, zn, hs, hl, rfl, rfl, hz2, hz1, Or.inr (Or.inr (Or.inr ⟨qn, hA, hq, rfl, rfl, by rw [if_neg c_58]; rfl⟩))⟩
    · -- 13 case 2
      refine z_istore (ls' := [_, _, _, _, _, _]) hX dX6_item_16 (Nat.le_of_ble_eq_true rfl) rfl ?_
      refine z_iload hX dX6_item_18 rfl ?_
      refine z_if_ge (tgt := 26) hX dX6_item_20 (by decide) (fun c_20 => ?_) (fun c_20 => ?_)
      · -- 20 t
        exact absurd c_20 (by decide)
      · -- 20 f
        refine z_iload hX dX6_item_23 rfl ?_
        refine z_iret hX hR dX6_item_25 ?_
        first | exact Or.inl ⟨hnS, rfl, rfl⟩ | exact Or.inr ⟨sn, ln, zn, hs, hl, rfl, rfl, hz2, hz1, Or.inl ⟨hA, hA2, rfl, rfl⟩⟩ | exact Or.inr ⟨sn, ln, zn, hs, hl, rfl, rfl, hz2, hz1, Or.inr (Or.inl ⟨hA, hA2, rfl, rfl⟩)⟩ | exact Or.inr ⟨sn, ln, zn, hs, hl, rfl, rfl, hz2, hz1, Or.inr (Or.inr (Or.inl ⟨hA, hnq, rfl, rfl⟩))⟩ | exact Or.inr ⟨sn, ln, zn, hs, hl, rfl, rfl, hz2, hz1, Or.inr (Or.inr (Or.inr ⟨qn, hA, hq, rfl, rfl, by rw [if_pos c_58]; rfl⟩))⟩ | exact Or.inr ⟨sn, ln, zn, hs, hl, rfl, rfl, hz2, hz1, Or.inr (Or.inr (Or.inr ⟨qn, hA, hq, rfl, rfl, by rw [if_neg c_58]; rfl⟩))⟩
  · -- 2 F
    refine z_if_ne (tgt := 10) hX dX6_item_5 (by decide) (fun c => absurd c (by decide)) (fun _ => ?_)
    refine z_iconst (v := -1) hX dX6_item_8 rfl ?_
    refine z_iret hX hR dX6_item_9 ?_
    first | exact Or.inl ⟨hnS, rfl, rfl⟩ | exact Or.inr ⟨sn, ln, zn, hs, hl, rfl, rfl, hz2, hz1, Or.inl ⟨hA, hA2, rfl, rfl⟩⟩ | exact Or.inr ⟨sn, ln, zn, hs, hl, rfl, rfl, hz2, hz1, Or.inr (Or.inl ⟨hA, hA2, rfl, rfl⟩)⟩ | exact Or.inr ⟨sn, ln, zn, hs, hl, rfl, rfl, hz2, hz1, Or.inr (Or.inr (Or.inl ⟨hA, hnq, rfl, rfl⟩))⟩ | exact Or.inr ⟨sn, ln, zn, hs, hl, rfl, rfl, hz2, hz1, Or.inr (Or.inr (Or.inr ⟨qn, hA, hq, rfl, rfl, by rw [if_pos c_58]; rfl⟩))⟩ | exact Or.inr ⟨sn, ln, zn, hs, hl, rfl, rfl, hz2, hz1, Or.inr (Or.inr (Or.inr ⟨qn, hA, hq, rfl, rfl, by rw [if_neg c_58]; rfl⟩))⟩
end
section
/-! ===== the reference: sources, doors, totals ===== -/
def srcF (it : Nat → Int32) (s : Nat) (n : Nat) : Int32 := zfold (fun k t => t + it (24 * s + k)) n (nI 0)
theorem srcF_s (it : Nat → Int32) (s n : Nat) : srcF it s (n + 1) = srcF it s n + it (24 * s + n) := rfl
set_option maxHeartbeats 4000000 in
set_option maxRecDepth 100000 in
theorem lp_X6_source_138 {X : ZX} {post : Option Value → ZW → Prop} (hX : ZOK X 6 cX6_source 2) (hR : ZRet X (some .int) post) (a : Nat → Nat → Int32) (b : Nat → Nat → Int64) (c : Nat → Int32) (f g s : Nat) (hf : f < 3) (hg : g < 9) (hs : s < 4) (y sv : Int32) (a7 rt0 : Nat → Int32) (hpost : ∀ rt, (∀ p, rt p = if 24 * f ≤ p ∧ p < 24 * f + 24 then a 6 (24 * s + (p - 24 * f)) else rt0 p) → post (some (.int sv)) (WM (va_up (va_up a 7 a7) 8 rt) b c)) : ∀ (n k : Nat) (rt : Nat → Int32), k ≤ 24 → 24 < k + n → (∀ p, rt p = if 24 * f ≤ p ∧ p < 24 * f + k then a 6 (24 * s + (p - 24 * f)) else rt0 p) → ZG X 138 [some (.ref 0), some (.int (nI f)), some (.int (nI g)), some (.int (nI s)), some (.int y), some (.int (nI 0)), some (.int sv), some (.int (nI k))] [] (WM (va_up (va_up a 7 a7) 8 rt) b c) := by
  intro n
  induction n with
  | zero => intro k rt z1 z2; omega
  | succ n ih =>
    intro k rt hk1 hk2 hrt
    refine z_iload hX dX6_source_138 rfl ?_
    refine z_bipush (v := nI 24) hX dX6_source_140 rfl ?_
    first | with_reducible refine z_icmp_geN (tgt := 175) hX dX6_source_142 (by decide) (by omega) (by omega) (fun c_142 => ?_) (fun c_142 => ?_) | refine z_icmp_ge (tgt := 175) hX dX6_source_142 (by decide) (fun c_142 => ?_) (fun c_142 => ?_)
    · -- 142 t
      have zk : k = 24 := by omega
      subst zk
      refine z_iload hX dX6_source_175 rfl ?_
      refine z_iret hX hR dX6_source_177 ?_
      exact hpost rt hrt
    · -- 142 f
      refine z_aload_n hX dX6_source_145 rfl ?_
      refine z_get hX dX6_source_146 f_6_32 rfl rfl ?_
      refine z_bipush (v := nI 24) hX dX6_source_149 rfl ?_
      refine z_iload_n hX dX6_source_151 rfl ?_
      first | with_reducible refine z_imulN hX dX6_source_152 ?_ | refine z_imul hX dX6_source_152 ?_
      refine z_iload hX dX6_source_153 rfl ?_
      first | with_reducible refine z_iaddN hX dX6_source_155 ?_ | refine z_iadd hX dX6_source_155 ?_
      refine z_aload_n hX dX6_source_156 rfl ?_
      refine z_get hX dX6_source_157 f_6_26 rfl rfl ?_
      refine z_bipush (v := nI 24) hX dX6_source_160 rfl ?_
      refine z_iload_n hX dX6_source_162 rfl ?_
      first | with_reducible refine z_imulN hX dX6_source_163 ?_ | refine z_imul hX dX6_source_163 ?_
      refine z_iload hX dX6_source_164 rfl ?_
      first | with_reducible refine z_iaddN hX dX6_source_166 ?_ | refine z_iadd hX dX6_source_166 ?_
      first | refine z_iald hX dX6_source_167 rfl (by omega) (by decide) ?_ | refine z_stld (nm := "FROM") (xs := zFROM) hX dX6_source_167 (fun _ _ _ _ h => h.1) (by show _ < 24; omega) (by decide) ?_ | refine z_stld (nm := "TO") (xs := zTO) hX dX6_source_167 (fun _ _ _ _ h => h.2.1) (by show _ < 24; omega) (by decide) ?_ | refine z_stld (nm := "FALL") (xs := zFALL) hX dX6_source_167 (fun _ _ _ _ h => h.2.2.1) (by show _ < 81; omega) (by decide) ?_
      refine z_iast (w' := [_, _, _, _, _, _, _, _, _, _, _, _, _, _, _, _, _, _, _, _]) hX dX6_source_168 rfl (by omega) (by decide) rfl ?_
      first | refine z_iincN (b := 1) (ls' := [_, _, _, _, _, _, _, _]) hX dX6_source_169 rfl rfl rfl ?_ | refine z_iinc (ls' := [_, _, _, _, _, _, _, _]) hX dX6_source_169 rfl rfl ?_
      refine z_goto (tgt := 138) hX dX6_source_172 (by decide) ?_
      refine ih (k + 1) (upd rt (24 * f + k) (a 6 (24 * s + k))) (by omega) (by omega) (fun p => ?_)
      by_cases e : p = 24 * f + k
      · rw [e, pk_us, if_pos (by omega), show 24 * f + k - 24 * f = k by omega]
      · rw [pk_un e, hrt p]
        by_cases e2 : 24 * f ≤ p ∧ p < 24 * f + k
        · rw [if_pos e2, if_pos (by omega)]
        · rw [if_neg e2, if_neg (by omega)]
set_option maxHeartbeats 4000000 in
set_option maxRecDepth 100000 in
theorem lp_X6_source_72 {X : ZX} {post : Option Value → ZW → Prop} (hX : ZOK X 6 cX6_source 2) (hR : ZRet X (some .int) post) (a : Nat → Nat → Int32) (b : Nat → Nat → Int64) (c : Nat → Int32) (f g s : Nat) (hf : f < 3) (hg : g < 9) (hs : s < 4) (y : Int32) (hpost1 : ¬ (∀ k, k < 24 → zB (a 6 (24 * s + k)) 0 1000000) → post (some (.int (-2))) (WM a b c)) (hpost2 : (∀ k, k < 24 → zB (a 6 (24 * s + k)) 0 1000000) → ∀ rt, (∀ p, rt p = if 24 * f ≤ p ∧ p < 24 * f + 24 then a 6 (24 * s + (p - 24 * f)) else a 8 p) → post (some (.int (srcF (a 6) s 24))) (WM (va_up (va_up a 7 (upd (a 7) f (nI g))) 8 rt) b c)) : ∀ (n k : Nat), k ≤ 24 → 24 < k + n → (∀ q, q < k → zB (a 6 (24 * s + q)) 0 1000000) → ZG X 72 [some (.ref 0), some (.int (nI f)), some (.int (nI g)), some (.int (nI s)), some (.int y), some (.int (nI 0)), some (.int (srcF (a 6) s k)), some (.int (nI k))] [] (WM a b c) := by
  intro n
  induction n with
  | zero => intro k z1 z2; omega
  | succ n ih =>
    intro k hk1 hk2 hin
    refine z_iload hX dX6_source_72 rfl ?_
    refine z_bipush (v := nI 24) hX dX6_source_74 rfl ?_
    first | with_reducible refine z_icmp_geN (tgt := 128) hX dX6_source_76 (by decide) (by omega) (by omega) (fun c_76 => ?_) (fun c_76 => ?_) | refine z_icmp_ge (tgt := 128) hX dX6_source_76 (by decide) (fun c_76 => ?_) (fun c_76 => ?_)
    · -- 76 t
      have zk : k = 24 := by omega
      subst zk
      refine z_aload_n hX dX6_source_128 rfl ?_
      refine z_get hX dX6_source_129 f_6_29 rfl rfl ?_
      refine z_iload_n hX dX6_source_132 rfl ?_
      refine z_iload_n hX dX6_source_133 rfl ?_
      refine z_iast (w' := [_, _, _, _, _, _, _, _, _, _, _, _, _, _, _, _, _, _, _, _]) hX dX6_source_134 rfl (by omega) (by decide) rfl ?_
      refine z_iconst (v := nI 0) hX dX6_source_135 rfl ?_
      refine z_istore (ls' := [_, _, _, _, _, _, _, _]) hX dX6_source_136 (Nat.le_of_ble_eq_true rfl) rfl ?_
      exact lp_X6_source_138 hX hR a b c f g s hf hg hs y _ _ (a 8) (fun rt e => hpost2 hin rt e) 25 0 (a 8) (by omega) (by omega) (fun p => by rw [if_neg (by omega)])
    · -- 76 f
      refine z_aload_n hX dX6_source_79 rfl ?_
      refine z_get hX dX6_source_80 f_6_26 rfl rfl ?_
      refine z_bipush (v := nI 24) hX dX6_source_83 rfl ?_
      refine z_iload_n hX dX6_source_85 rfl ?_
      first | with_reducible refine z_imulN hX dX6_source_86 ?_ | refine z_imul hX dX6_source_86 ?_
      refine z_iload hX dX6_source_87 rfl ?_
      first | with_reducible refine z_iaddN hX dX6_source_89 ?_ | refine z_iadd hX dX6_source_89 ?_
      first | refine z_iald hX dX6_source_90 rfl (by omega) (by decide) ?_ | refine z_stld (nm := "FROM") (xs := zFROM) hX dX6_source_90 (fun _ _ _ _ h => h.1) (by show _ < 24; omega) (by decide) ?_ | refine z_stld (nm := "TO") (xs := zTO) hX dX6_source_90 (fun _ _ _ _ h => h.2.1) (by show _ < 24; omega) (by decide) ?_ | refine z_stld (nm := "FALL") (xs := zFALL) hX dX6_source_90 (fun _ _ _ _ h => h.2.2.1) (by show _ < 81; omega) (by decide) ?_
      refine z_i2l hX dX6_source_91 ?_
      refine z_lconst (v := 0) hX dX6_source_92 rfl ?_
      refine z_ldc2 hX dX6_source_93 k_6_121 ?_
      refine z_callS0 hX dX6_source_96 ms_6_71 (c_X6_in _ _ _ _) (by decide) rfl rfl (Nat.le_of_ble_eq_true rfl) (fun r w1 hp _ => ?_)
      obtain ⟨rfl, hp⟩ := hp
      rcases zinB (a := 0) (b := 1000000) rfl rfl hp with ⟨hB, rfl⟩ | ⟨hnB, rfl⟩
      · -- 96 T
        refine z_if_ne (tgt := 105) hX dX6_source_99 (by decide) (fun _ => ?_) (fun c => absurd c (by decide))
        refine z_iload hX dX6_source_105 rfl ?_
        refine z_aload_n hX dX6_source_107 rfl ?_
        refine z_get hX dX6_source_108 f_6_26 rfl rfl ?_
        refine z_bipush (v := nI 24) hX dX6_source_111 rfl ?_
        refine z_iload_n hX dX6_source_113 rfl ?_
        first | with_reducible refine z_imulN hX dX6_source_114 ?_ | refine z_imul hX dX6_source_114 ?_
        refine z_iload hX dX6_source_115 rfl ?_
        first | with_reducible refine z_iaddN hX dX6_source_117 ?_ | refine z_iadd hX dX6_source_117 ?_
        first | refine z_iald hX dX6_source_118 rfl (by omega) (by decide) ?_ | refine z_stld (nm := "FROM") (xs := zFROM) hX dX6_source_118 (fun _ _ _ _ h => h.1) (by show _ < 24; omega) (by decide) ?_ | refine z_stld (nm := "TO") (xs := zTO) hX dX6_source_118 (fun _ _ _ _ h => h.2.1) (by show _ < 24; omega) (by decide) ?_ | refine z_stld (nm := "FALL") (xs := zFALL) hX dX6_source_118 (fun _ _ _ _ h => h.2.2.1) (by show _ < 81; omega) (by decide) ?_
        first | with_reducible refine z_iaddN hX dX6_source_119 ?_ | refine z_iadd hX dX6_source_119 ?_
        refine z_istore (ls' := [_, _, _, _, _, _, _, _]) hX dX6_source_120 (Nat.le_of_ble_eq_true rfl) rfl ?_
        first | refine z_iincN (b := 1) (ls' := [_, _, _, _, _, _, _, _]) hX dX6_source_122 rfl rfl rfl ?_ | refine z_iinc (ls' := [_, _, _, _, _, _, _, _]) hX dX6_source_122 rfl rfl ?_
        refine z_goto (tgt := 72) hX dX6_source_125 (by decide) ?_
        exact ih (k + 1) (by omega) (by omega) (fun q hq => by rcases (show q < k ∨ q = k by omega) with e | e; exact hin q e; rw [e]; exact hB)
      · -- 96 F
        refine z_if_ne (tgt := 105) hX dX6_source_99 (by decide) (fun c => absurd c (by decide)) (fun _ => ?_)
        refine z_bipush (v := -2) hX dX6_source_102 rfl ?_
        refine z_iret hX hR dX6_source_104 ?_
        exact hpost1 (fun q => hnB (q k (by omega)))
set_option maxHeartbeats 4000000 in
set_option maxRecDepth 100000 in
theorem c_X6_source (a : Nat → Nat → Int32) (b : Nat → Nat → Int64) (c : Nat → Int32) (hsz : ∀ k, k < 4 → ∃ n, n ≤ 24 ∧ a 5 k = nI n) (x y z u : Int32) : ∀ l, ZC l yX6_source cX6_source 8 (some .int) 2 [.ref 0, .int x, .int y, .int z, .int u] (WM a b c) (fun r w' => (¬ (zJ x 3 ∧ zJ y 9 ∧ zJ z 4 ∧ zJ u 2) ∧ r = some (.int (-1)) ∧ w' = WM a b c) ∨ ∃ f g s l n, f < 3 ∧ g < 9 ∧ s < 4 ∧ l < 2 ∧ x = nI f ∧ y = nI g ∧ z = nI s ∧ u = nI l ∧ a 5 s = nI n ∧ n ≤ 24 ∧ ((¬ a 4 s = nI l ∧ ¬ 0 ≤ a 4 s ∧ r = some (.int (-11)) ∧ w' = WM a b c) ∨ (¬ a 4 s = nI l ∧ 0 ≤ a 4 s ∧ r = some (.int (-12)) ∧ w' = WM a b c) ∨ (a 4 s = nI l ∧ n < 24 ∧ r = some (.int (-13)) ∧ w' = WM a b c) ∨ (a 4 s = nI l ∧ 24 ≤ n ∧ ¬ (∀ k, k < 24 → zB (a 6 (24 * s + k)) 0 1000000) ∧ r = some (.int (-2)) ∧ w' = WM a b c) ∨ ∃ rt, a 4 s = nI l ∧ 24 ≤ n ∧ (∀ k, k < 24 → zB (a 6 (24 * s + k)) 0 1000000) ∧ r = some (.int (srcF (a 6) s 24)) ∧ (∀ p, rt p = if 24 * f ≤ p ∧ p < 24 * f + 24 then a 6 (24 * s + (p - 24 * f)) else a 8 p) ∧ w' = WM (va_up (va_up a 7 (upd (a 7) f (nI g))) 8 rt) b c)) := by
  intro l
  refine zc_intro (oc := 6) (by decide +kernel) rfl (Nat.le_of_ble_eq_true rfl) ?_
  intro X hX hR
  refine z_norm (ls' := [_, _, _, _, _, _, _, _]) rfl rfl rfl ?_
  refine z_iload_n hX dX6_source_0 rfl ?_
  first | with_reducible refine z_i2lN hX dX6_source_1 (by omega) ?_ | refine z_i2l hX dX6_source_1 ?_
  refine z_lconst (v := 0) hX dX6_source_2 rfl ?_
  refine z_ldc2 hX dX6_source_3 k_6_79 ?_
  refine z_callS0 hX dX6_source_6 ms_6_71 (c_X6_in _ _ _ _) (by decide) rfl rfl (Nat.le_of_ble_eq_true rfl) (fun r w1 hp _ => ?_)
  obtain ⟨rfl, hp⟩ := hp
  rcases zinJ (n := 3) rfl (by decide) hp with ⟨⟨f, hf, rfl⟩, rfl⟩ | ⟨hn_f, rfl⟩
  · -- 6 T
    refine z_if_eq (tgt := 33) hX dX6_source_9 (by decide) (fun c => absurd c (by decide)) (fun _ => ?_)
    refine z_iload_n hX dX6_source_12 rfl ?_
    first | with_reducible refine z_i2lN hX dX6_source_13 (by omega) ?_ | refine z_i2l hX dX6_source_13 ?_
    refine z_lconst (v := 0) hX dX6_source_14 rfl ?_
    refine z_ldc2 hX dX6_source_15 k_6_92 ?_
    refine z_callS0 hX dX6_source_18 ms_6_71 (c_X6_in _ _ _ _) (by decide) rfl rfl (Nat.le_of_ble_eq_true rfl) (fun r w1 hp _ => ?_)
    obtain ⟨rfl, hp⟩ := hp
    rcases zinJ (n := 9) rfl (by decide) hp with ⟨⟨g, hg, rfl⟩, rfl⟩ | ⟨hn_g, rfl⟩
    · -- 18 T
      refine z_if_eq (tgt := 33) hX dX6_source_21 (by decide) (fun c => absurd c (by decide)) (fun _ => ?_)
      refine z_iload_n hX dX6_source_24 rfl ?_
      refine z_iload hX dX6_source_25 rfl ?_
      refine z_callS0 hX dX6_source_27 ms_6_114 (c_X6_isSheet _ _ _) (by decide) rfl rfl (Nat.le_of_ble_eq_true rfl) (fun r w1 hp _ => ?_)
      obtain ⟨rfl, hp⟩ := hp
      rcases hp with ⟨⟨sn, hs, rfl⟩, ⟨ln, hl, rfl⟩, rfl⟩ | ⟨hnS, rfl⟩
      · -- 27 T
        obtain ⟨zn, hz1, hz2⟩ := hsz sn hs
        refine z_if_ne (tgt := 35) hX dX6_source_30 (by decide) (fun _ => ?_) (fun c => absurd c (by decide))
        refine z_aload_n hX dX6_source_35 rfl ?_
        refine z_iload_n hX dX6_source_36 rfl ?_
        refine z_iload hX dX6_source_37 rfl ?_
        refine z_callV0 hX dX6_source_39 mv_6_118 (c_X6_against a b c sn hs _) (by decide) rfl rfl rfl rfl (Nat.le_of_ble_eq_true rfl) (fun r w1 hp _ => ?_)
        obtain ⟨rfl, ⟨hA, rfl⟩ | ⟨hA, hA2, rfl⟩ | ⟨hA, hA2, rfl⟩⟩ := hp
        · -- 39 case 0
          refine z_istore (ls' := [_, _, _, _, _, _, _, _]) hX dX6_source_42 (Nat.le_of_ble_eq_true rfl) rfl ?_
          refine z_iload hX dX6_source_44 rfl ?_
          refine z_if_ge (tgt := 52) hX dX6_source_46 (by decide) (fun c_46 => ?_) (fun c_46 => ?_)
          · -- 46 t
            refine z_aload_n hX dX6_source_52 rfl ?_
            refine z_get hX dX6_source_53 f_6_23 rfl rfl ?_
            refine z_iload_n hX dX6_source_56 rfl ?_
            refine z_iald hX dX6_source_57 rfl (by omega) (by decide) ?_
            rw [hz2]
            refine z_bipush (v := nI 24) hX dX6_source_58 rfl ?_
            first | with_reducible refine z_icmp_geN (tgt := 66) hX dX6_source_60 (by decide) (by omega) (by omega) (fun c_60 => ?_) (fun c_60 => ?_) | refine z_icmp_ge (tgt := 66) hX dX6_source_60 (by decide) (fun c_60 => ?_) (fun c_60 => ?_)
            · -- 60 t
              refine z_iconst (v := nI 0) hX dX6_source_66 rfl ?_
              refine z_istore (ls' := [_, _, _, _, _, _, _, _]) hX dX6_source_67 (Nat.le_of_ble_eq_true rfl) rfl ?_
              refine z_iconst (v := nI 0) hX dX6_source_69 rfl ?_
              refine z_istore (ls' := [_, _, _, _, _, _, _, _]) hX dX6_source_70 (Nat.le_of_ble_eq_true rfl) rfl ?_
              exact lp_X6_source_72 hX hR a b c f g sn hf hg hs _ (fun e => Or.inr ⟨f, g, sn, ln, zn, hf, hg, hs, hl, rfl, rfl, rfl, rfl, hz2, hz1, Or.inr (Or.inr (Or.inr (Or.inl ⟨hA, c_60, e, rfl, rfl⟩)))⟩) (fun e rt e2 => Or.inr ⟨f, g, sn, ln, zn, hf, hg, hs, hl, rfl, rfl, rfl, rfl, hz2, hz1, Or.inr (Or.inr (Or.inr (Or.inr ⟨rt, hA, c_60, e, rfl, e2, rfl⟩)))⟩) 25 0 (by omega) (by omega) (fun q hq => by omega)
            · -- 60 f
              refine z_bipush (v := -13) hX dX6_source_63 rfl ?_
              refine z_iret hX hR dX6_source_65 ?_
              first | exact Or.inl ⟨fun q => hn_f q.1, rfl, rfl⟩ | exact Or.inl ⟨fun q => hn_g q.2.1, rfl, rfl⟩ | exact Or.inl ⟨fun q => hnS q.2.2, rfl, rfl⟩ | exact Or.inr ⟨f, g, sn, ln, zn, hf, hg, hs, hl, rfl, rfl, rfl, rfl, hz2, hz1, Or.inl ⟨hA, hA2, rfl, rfl⟩⟩ | exact Or.inr ⟨f, g, sn, ln, zn, hf, hg, hs, hl, rfl, rfl, rfl, rfl, hz2, hz1, Or.inr (Or.inl ⟨hA, hA2, rfl, rfl⟩)⟩ | exact Or.inr ⟨f, g, sn, ln, zn, hf, hg, hs, hl, rfl, rfl, rfl, rfl, hz2, hz1, Or.inr (Or.inr (Or.inl ⟨hA, c_60, rfl, rfl⟩))⟩
          · -- 46 f
            exact absurd (by decide) c_46
        · -- 39 case 1
          refine z_istore (ls' := [_, _, _, _, _, _, _, _]) hX dX6_source_42 (Nat.le_of_ble_eq_true rfl) rfl ?_
          refine z_iload hX dX6_source_44 rfl ?_
          refine z_if_ge (tgt := 52) hX dX6_source_46 (by decide) (fun c_46 => ?_) (fun c_46 => ?_)
          · -- 46 t
            exact absurd c_46 (by decide)
          · -- 46 f
            refine z_iload hX dX6_source_49 rfl ?_
            refine z_iret hX hR dX6_source_51 ?_
            first | exact Or.inl ⟨fun q => hn_f q.1, rfl, rfl⟩ | exact Or.inl ⟨fun q => hn_g q.2.1, rfl, rfl⟩ | exact Or.inl ⟨fun q => hnS q.2.2, rfl, rfl⟩ | exact Or.inr ⟨f, g, sn, ln, zn, hf, hg, hs, hl, rfl, rfl, rfl, rfl, hz2, hz1, Or.inl ⟨hA, hA2, rfl, rfl⟩⟩ | exact Or.inr ⟨f, g, sn, ln, zn, hf, hg, hs, hl, rfl, rfl, rfl, rfl, hz2, hz1, Or.inr (Or.inl ⟨hA, hA2, rfl, rfl⟩)⟩ | exact Or.inr ⟨f, g, sn, ln, zn, hf, hg, hs, hl, rfl, rfl, rfl, rfl, hz2, hz1, Or.inr (Or.inr (Or.inl ⟨hA, c_60, rfl, rfl⟩))⟩
        · -- 39 case 2
          refine z_istore (ls' := [_, _, _, _, _, _, _, _]) hX dX6_source_42 (Nat.le_of_ble_eq_true rfl) rfl ?_
          refine z_iload hX dX6_source_44 rfl ?_
          refine z_if_ge (tgt := 52) hX dX6_source_46 (by decide) (fun c_46 => ?_) (fun c_46 => ?_)
          · -- 46 t
            exact absurd c_46 (by decide)
          · -- 46 f
            refine z_iload hX dX6_source_49 rfl ?_
            refine z_iret hX hR dX6_source_51 ?_
            first | exact Or.inl ⟨fun q => hn_f q.1, rfl, rfl⟩ | exact Or.inl ⟨fun q => hn_g q.2.1, rfl, rfl⟩ | exact Or.inl ⟨fun q => hnS q.2.2, rfl, rfl⟩ | exact Or.inr ⟨f, g, sn, ln, zn, hf, hg, hs, hl, rfl, rfl, rfl, rfl, hz2, hz1, Or.inl ⟨hA, hA2, rfl, rfl⟩⟩ | exact Or.inr ⟨f, g, sn, ln, zn, hf, hg, hs, hl, rfl, rfl, rfl, rfl, hz2, hz1, Or.inr (Or.inl ⟨hA, hA2, rfl, rfl⟩)⟩ | exact Or.inr ⟨f, g, sn, ln, zn, hf, hg, hs, hl, rfl, rfl, rfl, rfl, hz2, hz1, Or.inr (Or.inr (Or.inl ⟨hA, c_60, rfl, rfl⟩))⟩
      · -- 27 F
        refine z_if_ne (tgt := 35) hX dX6_source_30 (by decide) (fun c => absurd c (by decide)) (fun _ => ?_)
        refine z_iconst (v := -1) hX dX6_source_33 rfl ?_
        refine z_iret hX hR dX6_source_34 ?_
        first | exact Or.inl ⟨fun q => hn_f q.1, rfl, rfl⟩ | exact Or.inl ⟨fun q => hn_g q.2.1, rfl, rfl⟩ | exact Or.inl ⟨fun q => hnS q.2.2, rfl, rfl⟩ | exact Or.inr ⟨f, g, sn, ln, zn, hf, hg, hs, hl, rfl, rfl, rfl, rfl, hz2, hz1, Or.inl ⟨hA, hA2, rfl, rfl⟩⟩ | exact Or.inr ⟨f, g, sn, ln, zn, hf, hg, hs, hl, rfl, rfl, rfl, rfl, hz2, hz1, Or.inr (Or.inl ⟨hA, hA2, rfl, rfl⟩)⟩ | exact Or.inr ⟨f, g, sn, ln, zn, hf, hg, hs, hl, rfl, rfl, rfl, rfl, hz2, hz1, Or.inr (Or.inr (Or.inl ⟨hA, c_60, rfl, rfl⟩))⟩
    · -- 18 F
      refine z_if_eq (tgt := 33) hX dX6_source_21 (by decide) (fun _ => ?_) (fun c => absurd c (by decide))
      refine z_iconst (v := -1) hX dX6_source_33 rfl ?_
      refine z_iret hX hR dX6_source_34 ?_
      first | exact Or.inl ⟨fun q => hn_f q.1, rfl, rfl⟩ | exact Or.inl ⟨fun q => hn_g q.2.1, rfl, rfl⟩ | exact Or.inl ⟨fun q => hnS q.2.2, rfl, rfl⟩ | exact Or.inr ⟨f, g, sn, ln, zn, hf, hg, hs, hl, rfl, rfl, rfl, rfl, hz2, hz1, Or.inl ⟨hA, hA2, rfl, rfl⟩⟩ | exact Or.inr ⟨f, g, sn, ln, zn, hf, hg, hs, hl, rfl, rfl, rfl, rfl, hz2, hz1, Or.inr (Or.inl ⟨hA, hA2, rfl, rfl⟩)⟩ | exact Or.inr ⟨f, g, sn, ln, zn, hf, hg, hs, hl, rfl, rfl, rfl, rfl, hz2, hz1, Or.inr (Or.inr (Or.inl ⟨hA, c_60, rfl, rfl⟩))⟩
  · -- 6 F
    refine z_if_eq (tgt := 33) hX dX6_source_9 (by decide) (fun _ => ?_) (fun c => absurd c (by decide))
    refine z_iconst (v := -1) hX dX6_source_33 rfl ?_
    refine z_iret hX hR dX6_source_34 ?_
    first | exact Or.inl ⟨fun q => hn_f q.1, rfl, rfl⟩ | exact Or.inl ⟨fun q => hn_g q.2.1, rfl, rfl⟩ | exact Or.inl ⟨fun q => hnS q.2.2, rfl, rfl⟩ | exact Or.inr ⟨f, g, sn, ln, zn, hf, hg, hs, hl, rfl, rfl, rfl, rfl, hz2, hz1, Or.inl ⟨hA, hA2, rfl, rfl⟩⟩ | exact Or.inr ⟨f, g, sn, ln, zn, hf, hg, hs, hl, rfl, rfl, rfl, rfl, hz2, hz1, Or.inr (Or.inl ⟨hA, hA2, rfl, rfl⟩)⟩ | exact Or.inr ⟨f, g, sn, ln, zn, hf, hg, hs, hl, rfl, rfl, rfl, rfl, hz2, hz1, Or.inr (Or.inr (Or.inl ⟨hA, c_60, rfl, rfl⟩))⟩
set_option maxHeartbeats 4000000 in
set_option maxRecDepth 100000 in
theorem c_X6_grains (a : Nat → Nat → Int32) (b : Nat → Nat → Int64) (c : Nat → Int32) (x y : Int32) : ∀ l, ZC l yX6_grains cX6_grains 3 (some .long) 1 [.ref 0, .int x, .int y] (WM a b c) (fun r w' => w' = WM a b c ∧ ((¬ (zJ x 3 ∧ zJ y 9) ∧ r = some (.long (-1))) ∨ ∃ f g, f < 3 ∧ g < 9 ∧ x = nI f ∧ y = nI g ∧ r = some (.long (b 9 (9 * f + g))))) := by
  intro l
  refine zc_intro (oc := 6) (by decide +kernel) rfl (Nat.le_of_ble_eq_true rfl) ?_
  intro X hX hR
  refine z_norm (ls' := [_, _, _]) rfl rfl rfl ?_
  refine z_iload_n hX dX6_grains_0 rfl ?_
  first | with_reducible refine z_i2lN hX dX6_grains_1 (by omega) ?_ | refine z_i2l hX dX6_grains_1 ?_
  refine z_lconst (v := 0) hX dX6_grains_2 rfl ?_
  refine z_ldc2 hX dX6_grains_3 k_6_79 ?_
  refine z_callS0 hX dX6_grains_6 ms_6_71 (c_X6_in _ _ _ _) (by decide) rfl rfl (Nat.le_of_ble_eq_true rfl) (fun r w1 hp _ => ?_)
  obtain ⟨rfl, hp⟩ := hp
  rcases zinJ (n := 3) rfl (by decide) hp with ⟨⟨f, hf, rfl⟩, rfl⟩ | ⟨hn_f, rfl⟩
  · -- 6 T
    refine z_if_eq (tgt := 38) hX dX6_grains_9 (by decide) (fun c => absurd c (by decide)) (fun _ => ?_)
    refine z_iload_n hX dX6_grains_12 rfl ?_
    first | with_reducible refine z_i2lN hX dX6_grains_13 (by omega) ?_ | refine z_i2l hX dX6_grains_13 ?_
    refine z_lconst (v := 0) hX dX6_grains_14 rfl ?_
    refine z_ldc2 hX dX6_grains_15 k_6_92 ?_
    refine z_callS0 hX dX6_grains_18 ms_6_71 (c_X6_in _ _ _ _) (by decide) rfl rfl (Nat.le_of_ble_eq_true rfl) (fun r w1 hp _ => ?_)
    obtain ⟨rfl, hp⟩ := hp
    rcases zinJ (n := 9) rfl (by decide) hp with ⟨⟨g, hg, rfl⟩, rfl⟩ | ⟨hn_g, rfl⟩
    · -- 18 T
      refine z_if_eq (tgt := 38) hX dX6_grains_21 (by decide) (fun c => absurd c (by decide)) (fun _ => ?_)
      refine z_aload_n hX dX6_grains_24 rfl ?_
      refine z_get hX dX6_grains_25 f_6_35 rfl rfl ?_
      refine z_bipush (v := nI 9) hX dX6_grains_28 rfl ?_
      refine z_iload_n hX dX6_grains_30 rfl ?_
      first | with_reducible refine z_imulN hX dX6_grains_31 ?_ | refine z_imul hX dX6_grains_31 ?_
      refine z_iload_n hX dX6_grains_32 rfl ?_
      first | with_reducible refine z_iaddN hX dX6_grains_33 ?_ | refine z_iadd hX dX6_grains_33 ?_
      refine z_lald hX dX6_grains_34 rfl (by omega) (by decide) ?_
      refine z_goto (tgt := 41) hX dX6_grains_35 (by decide) ?_
      refine z_lret hX hR dX6_grains_41 ?_
      first | exact ⟨rfl, Or.inl ⟨fun q => hn_f q.1, rfl⟩⟩ | exact ⟨rfl, Or.inl ⟨fun q => hn_g q.2, rfl⟩⟩ | exact ⟨rfl, Or.inr ⟨f, g, hf, hg, rfl, rfl, rfl⟩⟩
    · -- 18 F
      refine z_if_eq (tgt := 38) hX dX6_grains_21 (by decide) (fun _ => ?_) (fun c => absurd c (by decide))
      refine z_ldc2 hX dX6_grains_38 k_6_99 ?_
      refine z_lret hX hR dX6_grains_41 ?_
      first | exact ⟨rfl, Or.inl ⟨fun q => hn_f q.1, rfl⟩⟩ | exact ⟨rfl, Or.inl ⟨fun q => hn_g q.2, rfl⟩⟩ | exact ⟨rfl, Or.inr ⟨f, g, hf, hg, rfl, rfl, rfl⟩⟩
  · -- 6 F
    refine z_if_eq (tgt := 38) hX dX6_grains_9 (by decide) (fun _ => ?_) (fun c => absurd c (by decide))
    refine z_ldc2 hX dX6_grains_38 k_6_99 ?_
    refine z_lret hX hR dX6_grains_41 ?_
    first | exact ⟨rfl, Or.inl ⟨fun q => hn_f q.1, rfl⟩⟩ | exact ⟨rfl, Or.inl ⟨fun q => hn_g q.2, rfl⟩⟩ | exact ⟨rfl, Or.inr ⟨f, g, hf, hg, rfl, rfl, rfl⟩⟩
def sum9 (g : Nat → Int64) (n : Nat) : Int64 := zfold (fun k t => t + g k) n 0
theorem sum9_s (g : Nat → Int64) (n : Nat) : sum9 g (n + 1) = sum9 g n + g n := rfl
set_option maxHeartbeats 4000000 in
set_option maxRecDepth 100000 in
theorem lp_X6_total_49 {X : ZX} {post : Option Value → ZW → Prop} (hX : ZOK X 6 cX6_total 1) (hR : ZRet X (some .long) post) (a : Nat → Nat → Int32) (b : Nat → Nat → Int64) (c : Nat → Int32) (f : Nat) (hf : f < 3) (y : Int32) (hpost : post (some (.long (sum9 (fun k => b 9 (9 * f + k)) 9))) (WM a b c)) : ∀ (n k : Nat), k ≤ 9 → 9 < k + n → ZG X 49 [some (.ref 0), some (.int (nI f)), some (.int y), some (.long (sum9 (fun k => b 9 (9 * f + k)) k)), none, some (.int (nI k))] [] (WM a b c) := by
  intro n
  induction n with
  | zero => intro k z1 z2; omega
  | succ n ih =>
    intro k hk1 hk2
    refine z_iload hX dX6_total_49 rfl ?_
    refine z_bipush (v := nI 9) hX dX6_total_51 rfl ?_
    first | with_reducible refine z_icmp_geN (tgt := 77) hX dX6_total_53 (by decide) (by omega) (by omega) (fun c_53 => ?_) (fun c_53 => ?_) | refine z_icmp_ge (tgt := 77) hX dX6_total_53 (by decide) (fun c_53 => ?_) (fun c_53 => ?_)
    · -- 53 t
      have zk : k = 9 := by omega
      subst zk
      refine z_lload_n hX dX6_total_77 rfl ?_
      refine z_lret hX hR dX6_total_78 ?_
      exact hpost
    · -- 53 f
      refine z_lload_n hX dX6_total_56 rfl ?_
      refine z_aload_n hX dX6_total_57 rfl ?_
      refine z_get hX dX6_total_58 f_6_35 rfl rfl ?_
      refine z_bipush (v := nI 9) hX dX6_total_61 rfl ?_
      refine z_iload_n hX dX6_total_63 rfl ?_
      first | with_reducible refine z_imulN hX dX6_total_64 ?_ | refine z_imul hX dX6_total_64 ?_
      refine z_iload hX dX6_total_65 rfl ?_
      first | with_reducible refine z_iaddN hX dX6_total_67 ?_ | refine z_iadd hX dX6_total_67 ?_
      refine z_lald hX dX6_total_68 rfl (by omega) (by decide) ?_
      refine z_ladd hX dX6_total_69 ?_
      refine z_lstore_n (ls' := [_, _, _, _, _, _]) hX dX6_total_70 (Nat.le_of_ble_eq_true rfl) rfl ?_
      first | refine z_iincN (b := 1) (ls' := [_, _, _, _, _, _]) hX dX6_total_71 rfl rfl rfl ?_ | refine z_iinc (ls' := [_, _, _, _, _, _]) hX dX6_total_71 rfl rfl ?_
      refine z_goto (tgt := 49) hX dX6_total_74 (by decide) ?_
      exact ih (k + 1) (by omega) (by omega)
set_option maxHeartbeats 4000000 in
set_option maxRecDepth 100000 in
theorem c_X6_total (a : Nat → Nat → Int32) (b : Nat → Nat → Int64) (c : Nat → Int32) (x y : Int32) : ∀ l, ZC l yX6_total cX6_total 6 (some .long) 1 [.ref 0, .int x, .int y] (WM a b c) (fun r w' => w' = WM a b c ∧ ((¬ (zJ x 3 ∧ zJ y 5) ∧ r = some (.long (-1))) ∨ ∃ f g, f < 3 ∧ g < 5 ∧ x = nI f ∧ y = nI g ∧ r = some (.long (if g < 4 then b 10 (4 * f + g) else sum9 (fun k => b 9 (9 * f + k)) 9)))) := by
  intro l
  refine zc_intro (oc := 6) (by decide +kernel) rfl (Nat.le_of_ble_eq_true rfl) ?_
  intro X hX hR
  refine z_norm (ls' := [_, _, _, _, _, _]) rfl rfl rfl ?_
  refine z_iload_n hX dX6_total_0 rfl ?_
  first | with_reducible refine z_i2lN hX dX6_total_1 (by omega) ?_ | refine z_i2l hX dX6_total_1 ?_
  refine z_lconst (v := 0) hX dX6_total_2 rfl ?_
  refine z_ldc2 hX dX6_total_3 k_6_79 ?_
  refine z_callS0 hX dX6_total_6 ms_6_71 (c_X6_in _ _ _ _) (by decide) rfl rfl (Nat.le_of_ble_eq_true rfl) (fun r w1 hp _ => ?_)
  obtain ⟨rfl, hp⟩ := hp
  rcases zinJ (n := 3) rfl (by decide) hp with ⟨⟨f, hf, rfl⟩, rfl⟩ | ⟨hn_f, rfl⟩
  · -- 6 T
    refine z_if_eq (tgt := 24) hX dX6_total_9 (by decide) (fun c => absurd c (by decide)) (fun _ => ?_)
    refine z_iload_n hX dX6_total_12 rfl ?_
    first | with_reducible refine z_i2lN hX dX6_total_13 (by omega) ?_ | refine z_i2l hX dX6_total_13 ?_
    refine z_lconst (v := 0) hX dX6_total_14 rfl ?_
    refine z_ldc2 hX dX6_total_15 k_6_97 ?_
    refine z_callS0 hX dX6_total_18 ms_6_71 (c_X6_in _ _ _ _) (by decide) rfl rfl (Nat.le_of_ble_eq_true rfl) (fun r w1 hp _ => ?_)
    obtain ⟨rfl, hp⟩ := hp
    rcases zinJ (n := 5) rfl (by decide) hp with ⟨⟨g, hg, rfl⟩, rfl⟩ | ⟨hn_g, rfl⟩
    · -- 18 T
      refine z_if_ne (tgt := 28) hX dX6_total_21 (by decide) (fun _ => ?_) (fun c => absurd c (by decide))
      refine z_iload_n hX dX6_total_28 rfl ?_
      refine z_iconst (v := nI 4) hX dX6_total_29 rfl ?_
      first | with_reducible refine z_icmp_geN (tgt := 44) hX dX6_total_30 (by decide) (by omega) (by omega) (fun c_30 => ?_) (fun c_30 => ?_) | refine z_icmp_ge (tgt := 44) hX dX6_total_30 (by decide) (fun c_30 => ?_) (fun c_30 => ?_)
      · -- 30 t
        refine z_lconst (v := 0) hX dX6_total_44 rfl ?_
        refine z_lstore_n (ls' := [_, _, _, _, _, _]) hX dX6_total_45 (Nat.le_of_ble_eq_true rfl) rfl ?_
        refine z_iconst (v := nI 0) hX dX6_total_46 rfl ?_
        refine z_istore (ls' := [_, _, _, _, _, _]) hX dX6_total_47 (Nat.le_of_ble_eq_true rfl) rfl ?_
        exact lp_X6_total_49 hX hR a b c f hf _ ⟨rfl, Or.inr ⟨f, g, hf, hg, rfl, rfl, by rw [if_neg (by omega)]⟩⟩ 10 0 (by omega) (by omega)
      · -- 30 f
        refine z_aload_n hX dX6_total_33 rfl ?_
        refine z_get hX dX6_total_34 f_6_38 rfl rfl ?_
        refine z_iconst (v := nI 4) hX dX6_total_37 rfl ?_
        refine z_iload_n hX dX6_total_38 rfl ?_
        first | with_reducible refine z_imulN hX dX6_total_39 ?_ | refine z_imul hX dX6_total_39 ?_
        refine z_iload_n hX dX6_total_40 rfl ?_
        first | with_reducible refine z_iaddN hX dX6_total_41 ?_ | refine z_iadd hX dX6_total_41 ?_
        refine z_lald hX dX6_total_42 rfl (by omega) (by decide) ?_
        refine z_lret hX hR dX6_total_43 ?_
        first | exact ⟨rfl, Or.inl ⟨fun q => hn_f q.1, rfl⟩⟩ | exact ⟨rfl, Or.inl ⟨fun q => hn_g q.2, rfl⟩⟩ | exact ⟨rfl, Or.inr ⟨f, g, hf, hg, rfl, rfl, by rw [if_pos c_30]⟩⟩
    · -- 18 F
      refine z_if_ne (tgt := 28) hX dX6_total_21 (by decide) (fun c => absurd c (by decide)) (fun _ => ?_)
      refine z_ldc2 hX dX6_total_24 k_6_99 ?_
      refine z_lret hX hR dX6_total_27 ?_
      first | exact ⟨rfl, Or.inl ⟨fun q => hn_f q.1, rfl⟩⟩ | exact ⟨rfl, Or.inl ⟨fun q => hn_g q.2, rfl⟩⟩ | exact ⟨rfl, Or.inr ⟨f, g, hf, hg, rfl, rfl, by rw [if_pos c_30]⟩⟩
  · -- 6 F
    refine z_if_eq (tgt := 24) hX dX6_total_9 (by decide) (fun _ => ?_) (fun c => absurd c (by decide))
    refine z_ldc2 hX dX6_total_24 k_6_99 ?_
    refine z_lret hX hR dX6_total_27 ?_
    first | exact ⟨rfl, Or.inl ⟨fun q => hn_f q.1, rfl⟩⟩ | exact ⟨rfl, Or.inl ⟨fun q => hn_g q.2, rfl⟩⟩ | exact ⟨rfl, Or.inr ⟨f, g, hf, hg, rfl, rfl, by rw [if_pos c_30]⟩⟩
set_option maxHeartbeats 4000000 in
set_option maxRecDepth 100000 in
theorem c_X6_door (a : Nat → Nat → Int32) (b : Nat → Nat → Int64) (c : Nat → Int32) (x y : Int32) : ∀ l, ZC l yX6_door cX6_door 4 (some .int) 2 [.ref 0, .int x, .int y] (WM a b c) (fun r w' => (¬ (zJ x 4 ∧ zJ y 9) ∧ r = some (.int (-1)) ∧ w' = WM a b c) ∨ ∃ d g, d < 4 ∧ g < 9 ∧ x = nI d ∧ y = nI g ∧ r = some (.int (a 15 d)) ∧ w' = WM (va_up (va_up a 12 (upd (a 12) d (nI g))) 15 (upd (a 15) d (nI 0))) b c) := by
  intro l
  refine zc_intro (oc := 6) (by decide +kernel) rfl (Nat.le_of_ble_eq_true rfl) ?_
  intro X hX hR
  refine z_norm (ls' := [_, _, _, _]) rfl rfl rfl ?_
  refine z_iload_n hX dX6_door_0 rfl ?_
  refine z_callS0 hX dX6_door_1 ms_6_131 (c_X6_isDoor _ _) (by decide) rfl rfl (Nat.le_of_ble_eq_true rfl) (fun r w1 hp _ => ?_)
  obtain ⟨rfl, ⟨⟨d, hd, rfl⟩, rfl⟩ | ⟨hn_d, rfl⟩⟩ := hp
  · -- 1 T
    refine z_if_eq (tgt := 19) hX dX6_door_4 (by decide) (fun c => absurd c (by decide)) (fun _ => ?_)
    refine z_iload_n hX dX6_door_7 rfl ?_
    first | with_reducible refine z_i2lN hX dX6_door_8 (by omega) ?_ | refine z_i2l hX dX6_door_8 ?_
    refine z_lconst (v := 0) hX dX6_door_9 rfl ?_
    refine z_ldc2 hX dX6_door_10 k_6_92 ?_
    refine z_callS0 hX dX6_door_13 ms_6_71 (c_X6_in _ _ _ _) (by decide) rfl rfl (Nat.le_of_ble_eq_true rfl) (fun r w1 hp _ => ?_)
    obtain ⟨rfl, hp⟩ := hp
    rcases zinJ (n := 9) rfl (by decide) hp with ⟨⟨g, hg, rfl⟩, rfl⟩ | ⟨hn_g, rfl⟩
    · -- 13 T
      refine z_if_ne (tgt := 21) hX dX6_door_16 (by decide) (fun _ => ?_) (fun c => absurd c (by decide))
      refine z_aload_n hX dX6_door_21 rfl ?_
      refine z_get hX dX6_door_22 f_6_54 rfl rfl ?_
      refine z_iload_n hX dX6_door_25 rfl ?_
      first | refine z_iald hX dX6_door_26 rfl (by omega) (by decide) ?_ | refine z_stld (nm := "FROM") (xs := zFROM) hX dX6_door_26 (fun _ _ _ _ h => h.1) (by show _ < 24; omega) (by decide) ?_ | refine z_stld (nm := "TO") (xs := zTO) hX dX6_door_26 (fun _ _ _ _ h => h.2.1) (by show _ < 24; omega) (by decide) ?_ | refine z_stld (nm := "FALL") (xs := zFALL) hX dX6_door_26 (fun _ _ _ _ h => h.2.2.1) (by show _ < 81; omega) (by decide) ?_
      refine z_istore_n (ls' := [_, _, _, _]) hX dX6_door_27 (Nat.le_of_ble_eq_true rfl) rfl ?_
      refine z_aload_n hX dX6_door_28 rfl ?_
      refine z_get hX dX6_door_29 f_6_44 rfl rfl ?_
      refine z_iload_n hX dX6_door_32 rfl ?_
      refine z_iload_n hX dX6_door_33 rfl ?_
      refine z_iast (w' := [_, _, _, _, _, _, _, _, _, _, _, _, _, _, _, _, _, _, _, _]) hX dX6_door_34 rfl (by omega) (by decide) rfl ?_
      refine z_aload_n hX dX6_door_35 rfl ?_
      refine z_get hX dX6_door_36 f_6_54 rfl rfl ?_
      refine z_iload_n hX dX6_door_39 rfl ?_
      refine z_iconst (v := nI 0) hX dX6_door_40 rfl ?_
      refine z_iast (w' := [_, _, _, _, _, _, _, _, _, _, _, _, _, _, _, _, _, _, _, _]) hX dX6_door_41 rfl (by omega) (by decide) rfl ?_
      refine z_iload_n hX dX6_door_42 rfl ?_
      refine z_iret hX hR dX6_door_43 ?_
      first | exact Or.inl ⟨fun q => hn_d q.1, rfl, rfl⟩ | exact Or.inl ⟨fun q => hn_g q.2, rfl, rfl⟩ | exact Or.inr ⟨d, g, hd, hg, rfl, rfl, rfl, rfl⟩
    · -- 13 F
      refine z_if_ne (tgt := 21) hX dX6_door_16 (by decide) (fun c => absurd c (by decide)) (fun _ => ?_)
      refine z_iconst (v := -1) hX dX6_door_19 rfl ?_
      refine z_iret hX hR dX6_door_20 ?_
      first | exact Or.inl ⟨fun q => hn_d q.1, rfl, rfl⟩ | exact Or.inl ⟨fun q => hn_g q.2, rfl, rfl⟩ | exact Or.inr ⟨d, g, hd, hg, rfl, rfl, rfl, rfl⟩
  · -- 1 F
    refine z_if_eq (tgt := 19) hX dX6_door_4 (by decide) (fun _ => ?_) (fun c => absurd c (by decide))
    refine z_iconst (v := -1) hX dX6_door_19 rfl ?_
    refine z_iret hX hR dX6_door_20 ?_
    first | exact Or.inl ⟨fun q => hn_d q.1, rfl, rfl⟩ | exact Or.inl ⟨fun q => hn_g q.2, rfl, rfl⟩ | exact Or.inr ⟨d, g, hd, hg, rfl, rfl, rfl, rfl⟩
set_option maxHeartbeats 4000000 in
set_option maxRecDepth 100000 in
theorem c_X6_lose (a : Nat → Nat → Int32) (b : Nat → Nat → Int64) (c : Nat → Int32) (x y : Int32) (hy : y = 0 ∨ y = 1) : ∀ l, ZC l yX6_lose cX6_lose 4 (some .int) 2 [.ref 0, .int x, .int y] (WM a b c) (fun r w' => (¬ zJ x 4 ∧ r = some (.int (-1)) ∧ w' = WM a b c) ∨ ∃ d, d < 4 ∧ x = nI d ∧ r = some (.int (if a 13 d = 0 then nI 0 else nI 1)) ∧ w' = WM (va_up a 13 (upd (a 13) d y)) b c) := by
  intro l
  refine zc_intro (oc := 6) (by decide +kernel) rfl (Nat.le_of_ble_eq_true rfl) ?_
  intro X hX hR
  refine z_norm (ls' := [_, _, _, _]) rfl rfl rfl ?_
  refine z_iload_n hX dX6_lose_0 rfl ?_
  refine z_callS0 hX dX6_lose_1 ms_6_131 (c_X6_isDoor _ _) (by decide) rfl rfl (Nat.le_of_ble_eq_true rfl) (fun r w1 hp _ => ?_)
  obtain ⟨rfl, ⟨⟨d, hd, rfl⟩, rfl⟩ | ⟨hn_d, rfl⟩⟩ := hp
  · -- 1 T
    refine z_if_ne (tgt := 9) hX dX6_lose_4 (by decide) (fun _ => ?_) (fun c => absurd c (by decide))
    refine z_aload_n hX dX6_lose_9 rfl ?_
    refine z_get hX dX6_lose_10 f_6_47 rfl rfl ?_
    refine z_iload_n hX dX6_lose_13 rfl ?_
    refine z_zald hX dX6_lose_14 rfl (by omega) (by decide) ?_
    refine z_if_eq (tgt := 22) hX dX6_lose_15 (by decide) (fun c_15 => ?_) (fun c_15 => ?_)
    · -- 15 t
      refine z_iconst (v := nI 0) hX dX6_lose_22 rfl ?_
      refine z_istore_n (ls' := [_, _, _, _]) hX dX6_lose_23 (Nat.le_of_ble_eq_true rfl) rfl ?_
      refine z_aload_n hX dX6_lose_24 rfl ?_
      refine z_get hX dX6_lose_25 f_6_47 rfl rfl ?_
      refine z_iload_n hX dX6_lose_28 rfl ?_
      refine z_iload_n hX dX6_lose_29 rfl ?_
      refine z_zast (w' := [_, _, _, _, _, _, _, _, _, _, _, _, _, _, _, _, _, _, _, _]) hX dX6_lose_30 rfl (by omega) (by decide) (by first | exact Or.inl rfl | exact Or.inr rfl | assumption) rfl ?_
      refine z_iload_n hX dX6_lose_31 rfl ?_
      refine z_iret hX hR dX6_lose_32 ?_
      first | exact Or.inl ⟨hn_d, rfl, rfl⟩ | exact Or.inr ⟨d, hd, rfl, by rw [if_pos c_15], rfl⟩ | exact Or.inr ⟨d, hd, rfl, by rw [if_neg c_15], rfl⟩
    · -- 15 f
      refine z_iconst (v := nI 1) hX dX6_lose_18 rfl ?_
      refine z_goto (tgt := 23) hX dX6_lose_19 (by decide) ?_
      refine z_istore_n (ls' := [_, _, _, _]) hX dX6_lose_23 (Nat.le_of_ble_eq_true rfl) rfl ?_
      refine z_aload_n hX dX6_lose_24 rfl ?_
      refine z_get hX dX6_lose_25 f_6_47 rfl rfl ?_
      refine z_iload_n hX dX6_lose_28 rfl ?_
      refine z_iload_n hX dX6_lose_29 rfl ?_
      refine z_zast (w' := [_, _, _, _, _, _, _, _, _, _, _, _, _, _, _, _, _, _, _, _]) hX dX6_lose_30 rfl (by omega) (by decide) (by first | exact Or.inl rfl | exact Or.inr rfl | assumption) rfl ?_
      refine z_iload_n hX dX6_lose_31 rfl ?_
      refine z_iret hX hR dX6_lose_32 ?_
      first | exact Or.inl ⟨hn_d, rfl, rfl⟩ | exact Or.inr ⟨d, hd, rfl, by rw [if_pos c_15], rfl⟩ | exact Or.inr ⟨d, hd, rfl, by rw [if_neg c_15], rfl⟩
  · -- 1 F
    refine z_if_ne (tgt := 9) hX dX6_lose_4 (by decide) (fun c => absurd c (by decide)) (fun _ => ?_)
    refine z_iconst (v := -1) hX dX6_lose_7 rfl ?_
    refine z_iret hX hR dX6_lose_8 ?_
    first | exact Or.inl ⟨hn_d, rfl, rfl⟩ | exact Or.inr ⟨d, hd, rfl, by rw [if_pos c_15], rfl⟩ | exact Or.inr ⟨d, hd, rfl, by rw [if_neg c_15], rfl⟩
end
section
/-! ===== the reference: an hour's carrying ===== -/
theorem z_top {X : ZX} {pc : Nat} {ls : List (Option Value)} {st : List Value} {w : ZW} {x y : Int32} (h : x = y) (k : ZG X pc ls (.int y :: st) w) : ZG X pc ls (.int x :: st) w := h ▸ k
theorem z_topl {X : ZX} {pc : Nat} {ls : List (Option Value)} {st : List Value} {w : ZW} {x y : Int64} (h : x = y) (k : ZG X pc ls (.long y :: st) w) : ZG X pc ls (.long x :: st) w := h ▸ k
def washF (m : Int64) (r : Int32) : Int64 := m * r.toInt64 / 1000
def laidF (m : Int64) (r : Int32) : Int64 := (m - washF m r) / 1000
def leftF (m : Int64) (r : Int32) : Int64 := m - washF m r - laidF m r
def goF (n f : Int64) : Int64 := n * f / 100352000
/-- what box bx's turn at wall w adds at place q (9: outside) -/
def mW (nn st : Nat → Int64) (bx w q : Nat) : Int64 :=
  if zFROM.getD w 0 = bx then (if 0 < st w then (if q = bx then -(goF (nn bx) (st w)) else if q = zTO.getD w 0 then goF (nn bx) (st w) else 0) else 0)
  else if zTO.getD w 0 = bx then (if 0 < -(st w) then (if q = bx then -(goF (nn bx) (-(st w))) else if q = zFROM.getD w 0 then goF (nn bx) (-(st w)) else 0) else 0) else 0
def accW (nn st : Nat → Int64) (bx q k : Nat) (x : Int64) : Int64 := zfold (fun w s => s + mW nn st bx w q) k x
theorem accW_s (nn st : Nat → Int64) (bx q k : Nat) (x : Int64) : accW nn st bx q (k + 1) x = accW nn st bx q k x + mW nn st bx k q := rfl
def accM (nn st : Nat → Int64) (q k : Nat) : Int64 := zfold (fun bx s => accW nn st bx q 24 (s + if q = bx then nn bx else 0)) k 0
theorem accM_s (nn st : Nat → Int64) (q k : Nat) : accM nn st q (k + 1) = accW nn st k q 24 (accM nn st q k + if q = k then nn k else 0) := rfl
def accO (nn st : Nat → Int64) (k : Nat) (x : Int64) : Int64 := zfold (fun bx s => accW nn st bx 9 24 s) k x
theorem accO_s (nn st : Nat → Int64) (k : Nat) (x : Int64) : accO nn st (k + 1) x = accW nn st k 9 24 (accO nn st k x) := rfl
def accA (f : Nat → Int64) (k : Nat) (x : Int64) : Int64 := zfold (fun bx s => s + f bx) k x
theorem accA_s (f : Nat → Int64) (k : Nat) (x : Int64) : accA f (k + 1) x = accA f k x + f k := rfl
def wInv (nn st : Nat → Int64) (bx s k : Nat) (n0 t0 n t : Nat → Int64) : Prop := (∀ q, q < 9 → n q = accW nn st bx q k (n0 q)) ∧ ∀ p, t p = if p = 4 * s + 3 then accW nn st bx 9 k (t0 (4 * s + 3)) else t0 p
theorem wInv_0 (nn st : Nat → Int64) (bx s : Nat) (n0 t0 : Nat → Int64) : wInv nn st bx s 0 n0 t0 n0 t0 := by
  refine ⟨fun q _ => rfl, fun p => ?_⟩
  split
  · rename_i e
    rw [e]
    rfl
  · rfl
theorem wInv_none {nn st : Nat → Int64} {bx s k : Nat} {n0 t0 n t : Nat → Int64} (h : wInv nn st bx s k n0 t0 n t) (hz : ∀ q, q < 10 → mW nn st bx k q = 0) : wInv nn st bx s (k + 1) n0 t0 n t := by
  refine ⟨fun q hq => ?_, fun p => ?_⟩
  · rw [accW_s, hz q (by omega), Int64.add_zero]
    exact h.1 q hq
  · rw [accW_s, hz 9 (by omega), Int64.add_zero]
    exact h.2 p
theorem wInv_in {nn st : Nat → Int64} {bx s k to : Nat} {go : Int64} {n0 t0 n t : Nat → Int64} (h : wInv nn st bx s k n0 t0 n t) (hb : bx < 9) (ht : to < 9) (hne : to ≠ bx) (hm : ∀ q, mW nn st bx k q = if q = bx then -go else if q = to then go else 0) : wInv nn st bx s (k + 1) n0 t0 (vp_updL (vp_updL n bx (n bx - go)) to (vp_updL n bx (n bx - go) to + go)) t := by
  refine ⟨fun q hq => ?_, fun p => ?_⟩
  · rw [accW_s, hm q, ← h.1 q hq]
    by_cases e : q = to
    · subst e
      rw [pk_uLs, pk_uLn hne, if_neg hne, if_pos rfl]
    · rw [pk_uLn e]
      by_cases e2 : q = bx
      · subst e2
        rw [pk_uLs, if_pos rfl, Int64.sub_eq_add_neg]
      · rw [pk_uLn e2, if_neg e2, if_neg e, Int64.add_zero]
  · rw [accW_s, hm 9, if_neg (show ¬ 9 = bx by omega), if_neg (show ¬ 9 = to by omega), Int64.add_zero]
    exact h.2 p
theorem wInv_out {nn st : Nat → Int64} {bx s k : Nat} {go : Int64} {n0 t0 n t : Nat → Int64} (h : wInv nn st bx s k n0 t0 n t) (hb : bx < 9) (hm : ∀ q, mW nn st bx k q = if q = bx then -go else if q = 9 then go else 0) : wInv nn st bx s (k + 1) n0 t0 (vp_updL n bx (n bx - go)) (vp_updL t (4 * s + 3) (t (4 * s + 3) + go)) := by
  refine ⟨fun q hq => ?_, fun p => ?_⟩
  · rw [accW_s, hm q, ← h.1 q hq]
    by_cases e2 : q = bx
    · subst e2
      rw [pk_uLs, if_pos rfl, Int64.sub_eq_add_neg]
    · rw [pk_uLn e2, if_neg e2, if_neg (by omega), Int64.add_zero]
  · rw [accW_s, hm 9, if_neg (show ¬ 9 = bx by omega), if_pos (show 9 = 9 from rfl)]
    by_cases e : p = 4 * s + 3
    · subst e
      rw [pk_uLs, h.2, if_pos rfl, if_pos rfl]
    · rw [pk_uLn e, h.2 p, if_neg e, if_neg e]
theorem mW_F {nn st : Nat → Int64} {bx w : Nat} (h : zFROM.getD w 0 = bx) (hp : 0 < st w) (q : Nat) : mW nn st bx w q = if q = bx then -(goF (nn bx) (st w)) else if q = zTO.getD w 0 then goF (nn bx) (st w) else 0 := by
  unfold mW
  rw [if_pos h, if_pos hp]
theorem mW_F0 {nn st : Nat → Int64} {bx w : Nat} (h : zFROM.getD w 0 = bx) (hp : st w ≤ 0) (q : Nat) : mW nn st bx w q = 0 := by
  unfold mW
  rw [if_pos h, if_neg (Int64.not_lt.mpr hp)]
theorem mW_T {nn st : Nat → Int64} {bx w : Nat} (h : ¬ zFROM.getD w 0 = bx) (h2 : zTO.getD w 0 = bx) (hp : 0 < -(st w)) (q : Nat) : mW nn st bx w q = if q = bx then -(goF (nn bx) (-(st w))) else if q = zFROM.getD w 0 then goF (nn bx) (-(st w)) else 0 := by
  unfold mW
  rw [if_neg h, if_pos h2, if_pos hp]
theorem mW_T0 {nn st : Nat → Int64} {bx w : Nat} (h : ¬ zFROM.getD w 0 = bx) (h2 : zTO.getD w 0 = bx) (hp : -(st w) ≤ 0) (q : Nat) : mW nn st bx w q = 0 := by
  unfold mW
  rw [if_neg h, if_pos h2, if_neg (Int64.not_lt.mpr hp)]
theorem mW_no {nn st : Nat → Int64} {bx w : Nat} (h : ¬ zFROM.getD w 0 = bx) (h2 : ¬ zTO.getD w 0 = bx) (q : Nat) : mW nn st bx w q = 0 := by
  unfold mW
  rw [if_neg h, if_neg h2]
theorem zFT : ∀ k, k < 24 → zFROM.getD k 0 ≠ zTO.getD k 0 := by decide +kernel
set_option maxHeartbeats 4000000 in
set_option maxRecDepth 100000 in
theorem lp_cy_177 {X : ZX} {post : Option Value → ZW → Prop} (hX : ZOK X 6 cX6_carry 4) (hR : ZRet X none post) (a : Nat → Nat → Int32) (b : Nat → Nat → Int64) (c : Nat → Int32) (nn : Nat → Int64) (s : Nat) (hs : s < 3) (r : Int32) (g n0 t0 : Nat → Int64) (bx : Nat) (hbx : bx < 9) (K : ∀ n t, wInv nn (stillF (a 1) (b 3)) bx s 24 n0 t0 n t → ZG X 335 [some (.ref 0), some (.int (nI s)), some (.int r), none, some (.int (nI bx)), none, none, none, none, none, none, some (.long (nn bx)), none, none, none, none, none, none, none, none] [] (WM a (va_up (va_up (va_up b 9 g) 10 t) 11 n) c)) : ∀ (m k : Nat) (n t : Nat → Int64), k ≤ 24 → 24 < k + m → wInv nn (stillF (a 1) (b 3)) bx s k n0 t0 n t → ZG X 177 [some (.ref 0), some (.int (nI s)), some (.int r), none, some (.int (nI bx)), none, none, none, none, none, none, some (.long (nn bx)), none, some (.int (nI k)), none, none, none, none, none, none] [] (WM a (va_up (va_up (va_up b 9 g) 10 t) 11 n) c) := by
  intro m
  induction m with
  | zero => intro k n t z1 z2; omega
  | succ m ih =>
    intro k n t hk1 hk2 hI
    refine z_iload hX dX6_carry_177 rfl ?_
    refine z_bipush (v := nI 24) hX dX6_carry_179 rfl ?_
    first | with_reducible refine z_icmp_geN (tgt := 335) hX dX6_carry_181 (by decide) (by omega) (by omega) (fun c_181 => ?_) (fun c_181 => ?_) | refine z_icmp_ge (tgt := 335) hX dX6_carry_181 (by decide) (fun c_181 => ?_) (fun c_181 => ?_)
    · -- 181 t
      refine z_forget (ls' := [some (.ref 0), some (.int (nI s)), some (.int r), none, some (.int (nI bx)), none, none, none, none, none, none, some (.long (nn bx)), none, none, none, none, none, none, none, none]) ⟨rfl, rfl, rfl, rfl, rfl, trivial⟩ ?_
      have zk : k = 24 := by omega
      subst zk
      exact K n t hI
    · -- 181 f
      have hF := zFROM_le k
      have hT := zTO_le k
      have hFT := zFT k (by omega)
      refine z_iload hX dX6_carry_184 rfl ?_
      refine z_callS0 hX dX6_carry_186 ms_6_85 (c_X6_fromOf k (by omega) _) (by decide) rfl rfl (Nat.le_of_ble_eq_true rfl) (fun r w1 hp _ => ?_)
      obtain ⟨rfl, rfl⟩ := hp
      refine z_iload hX dX6_carry_189 rfl ?_
      first | with_reducible refine z_icmp_neN (tgt := 198) hX dX6_carry_191 (by decide) (by omega) (by omega) (fun c_191 => ?_) (fun c_191 => ?_) | refine z_icmp_ne (tgt := 198) hX dX6_carry_191 (by decide) (fun c_191 => ?_) (fun c_191 => ?_)
      · -- 191 t
        refine z_iconst (v := nI 0) hX dX6_carry_198 rfl ?_
        refine z_istore (ls' := [_, _, _, _, _, _, _, _, _, _, _, _, _, _, _, _, _, _, _, _]) hX dX6_carry_199 (Nat.le_of_ble_eq_true rfl) rfl ?_
        refine z_iload hX dX6_carry_201 rfl ?_
        refine z_if_ne (tgt := 219) hX dX6_carry_203 (by decide) (fun c => absurd c (by decide)) (fun _ => ?_)
        refine z_iload hX dX6_carry_206 rfl ?_
        refine z_callS0 hX dX6_carry_208 ms_6_89 (c_X6_toOf k (by omega) _) (by decide) rfl rfl (Nat.le_of_ble_eq_true rfl) (fun r w1 hp _ => ?_)
        obtain ⟨rfl, rfl⟩ := hp
        refine z_iload hX dX6_carry_211 rfl ?_
        first | with_reducible refine z_icmp_eqN (tgt := 219) hX dX6_carry_213 (by decide) (by omega) (by omega) (fun c_213 => ?_) (fun c_213 => ?_) | refine z_icmp_eq (tgt := 219) hX dX6_carry_213 (by decide) (fun c_213 => ?_) (fun c_213 => ?_)
        · -- 213 t
          refine z_iload hX dX6_carry_219 rfl ?_
          refine z_if_eq (tgt := 233) hX dX6_carry_221 (by decide) (fun _ => ?_) (fun c => absurd c (by decide))
          refine z_aload_n hX dX6_carry_233 rfl ?_
          refine z_iload hX dX6_carry_234 rfl ?_
          refine z_callV0 hX dX6_carry_236 mv_6_108 (c_X6_stillAt a (va_up (va_up (va_up b 9 g) 10 t) 11 n) c k (by omega)) (by decide) rfl rfl rfl rfl (Nat.le_of_ble_eq_true rfl) (fun r w1 hp _ => ?_)
          have hp : _ ∧ r = some (.long (stillF (a 1) (b 3) k)) := hp
          obtain ⟨rfl, rfl⟩ := hp
          refine z_lneg hX dX6_carry_239 ?_
          refine z_lstore (ls' := [_, _, _, _, _, _, _, _, _, _, _, _, _, _, _, _, _, _, _, _]) hX dX6_carry_240 (Nat.le_of_ble_eq_true rfl) rfl ?_
          refine z_lload hX dX6_carry_242 rfl ?_
          refine z_lconst (v := 0) hX dX6_carry_244 rfl ?_
          refine z_lcmp hX dX6_carry_245 ?_
          refine z_lif_le (tgt := 329) hX dX6_carry_246 (by decide) (fun c_246 => ?_) (fun c_246 => ?_)
          · -- 246 t
            first | refine z_iincN (b := 1) (ls' := [_, _, _, _, _, _, _, _, _, _, _, _, _, _, _, _, _, _, _, _]) hX dX6_carry_329 rfl rfl rfl ?_ | refine z_iinc (ls' := [_, _, _, _, _, _, _, _, _, _, _, _, _, _, _, _, _, _, _, _]) hX dX6_carry_329 rfl rfl ?_
            refine z_goto (tgt := 177) hX dX6_carry_332 (by decide) ?_
            refine z_forget (ls' := [some (.ref 0), some (.int (nI s)), some (.int r), none, some (.int (nI bx)), none, none, none, none, none, none, some (.long (nn bx)), none, some (.int (nI (k + 1))), none, none, none, none, none, none]) ⟨rfl, rfl, rfl, rfl, rfl, rfl, trivial⟩ ?_
            exact ih (k + 1) _ _ (by omega) (by omega) (wInv_none hI (fun q _ => mW_T0 c_191 c_213 c_246 q))
          · -- 246 f
            refine z_lload hX dX6_carry_249 rfl ?_
            refine z_lload hX dX6_carry_251 rfl ?_
            refine z_lmul hX dX6_carry_253 ?_
            refine z_ldc2 hX dX6_carry_254 k_6_129 ?_
            refine z_ldiv hX dX6_carry_257 (by decide) ?_
            refine z_lstore (ls' := [_, _, _, _, _, _, _, _, _, _, _, _, _, _, _, _, _, _, _, _]) hX dX6_carry_258 (Nat.le_of_ble_eq_true rfl) rfl ?_
            refine z_iload hX dX6_carry_260 rfl ?_
            refine z_if_eq (tgt := 273) hX dX6_carry_262 (by decide) (fun _ => ?_) (fun c => absurd c (by decide))
            refine z_iload hX dX6_carry_273 rfl ?_
            refine z_callS0 hX dX6_carry_275 ms_6_85 (c_X6_fromOf k (by omega) _) (by decide) rfl rfl (Nat.le_of_ble_eq_true rfl) (fun r w1 hp _ => ?_)
            obtain ⟨rfl, rfl⟩ := hp
            refine z_istore (ls' := [_, _, _, _, _, _, _, _, _, _, _, _, _, _, _, _, _, _, _, _]) hX dX6_carry_278 (Nat.le_of_ble_eq_true rfl) rfl ?_
            refine z_aload_n hX dX6_carry_280 rfl ?_
            refine z_get hX dX6_carry_281 f_6_41 rfl rfl ?_
            refine z_iload hX dX6_carry_284 rfl ?_
            first | refine z_dup2_2 hX dX6_carry_286 rfl ?_ | refine z_dup2_11 hX dX6_carry_286 rfl rfl ?_
            refine z_lald hX dX6_carry_287 rfl (by omega) (by decide) ?_
            refine z_lload hX dX6_carry_288 rfl ?_
            refine z_lsub hX dX6_carry_290 ?_
            refine z_last (w' := [_, _, _, _, _, _, _, _, _, _, _, _, _, _, _, _, _, _, _, _]) hX dX6_carry_291 rfl (by omega) (by decide) rfl ?_
            refine z_iload hX dX6_carry_292 rfl ?_
            refine z_bipush (v := nI 9) hX dX6_carry_294 rfl ?_
            first | with_reducible refine z_icmp_geN (tgt := 314) hX dX6_carry_296 (by decide) (by omega) (by omega) (fun c_296 => ?_) (fun c_296 => ?_) | refine z_icmp_ge (tgt := 314) hX dX6_carry_296 (by decide) (fun c_296 => ?_) (fun c_296 => ?_)
            · -- 296 t
              refine z_aload_n hX dX6_carry_314 rfl ?_
              refine z_get hX dX6_carry_315 f_6_38 rfl rfl ?_
              refine z_iconst (v := nI 4) hX dX6_carry_318 rfl ?_
              refine z_iload_n hX dX6_carry_319 rfl ?_
              first | with_reducible refine z_imulN hX dX6_carry_320 ?_ | refine z_imul hX dX6_carry_320 ?_
              refine z_iconst (v := nI 3) hX dX6_carry_321 rfl ?_
              first | with_reducible refine z_iaddN hX dX6_carry_322 ?_ | refine z_iadd hX dX6_carry_322 ?_
              first | refine z_dup2_2 hX dX6_carry_323 rfl ?_ | refine z_dup2_11 hX dX6_carry_323 rfl rfl ?_
              refine z_lald hX dX6_carry_324 rfl (by omega) (by decide) ?_
              refine z_lload hX dX6_carry_325 rfl ?_
              refine z_ladd hX dX6_carry_327 ?_
              refine z_last (w' := [_, _, _, _, _, _, _, _, _, _, _, _, _, _, _, _, _, _, _, _]) hX dX6_carry_328 rfl (by omega) (by decide) rfl ?_
              first | refine z_iincN (b := 1) (ls' := [_, _, _, _, _, _, _, _, _, _, _, _, _, _, _, _, _, _, _, _]) hX dX6_carry_329 rfl rfl rfl ?_ | refine z_iinc (ls' := [_, _, _, _, _, _, _, _, _, _, _, _, _, _, _, _, _, _, _, _]) hX dX6_carry_329 rfl rfl ?_
              refine z_goto (tgt := 177) hX dX6_carry_332 (by decide) ?_
              refine z_forget (ls' := [some (.ref 0), some (.int (nI s)), some (.int r), none, some (.int (nI bx)), none, none, none, none, none, none, some (.long (nn bx)), none, some (.int (nI (k + 1))), none, none, none, none, none, none]) ⟨rfl, rfl, rfl, rfl, rfl, rfl, trivial⟩ ?_
              exact ih (k + 1) _ _ (by omega) (by omega) (wInv_out hI hbx (fun q => by rw [mW_T c_191 c_213 c_246 q, show zFROM.getD k 0 = 9 by omega]; rfl))
            · -- 296 f
              refine z_aload_n hX dX6_carry_299 rfl ?_
              refine z_get hX dX6_carry_300 f_6_41 rfl rfl ?_
              refine z_iload hX dX6_carry_303 rfl ?_
              first | refine z_dup2_2 hX dX6_carry_305 rfl ?_ | refine z_dup2_11 hX dX6_carry_305 rfl rfl ?_
              refine z_lald hX dX6_carry_306 rfl (by omega) (by decide) ?_
              refine z_lload hX dX6_carry_307 rfl ?_
              refine z_ladd hX dX6_carry_309 ?_
              refine z_last (w' := [_, _, _, _, _, _, _, _, _, _, _, _, _, _, _, _, _, _, _, _]) hX dX6_carry_310 rfl (by omega) (by decide) rfl ?_
              refine z_goto (tgt := 329) hX dX6_carry_311 (by decide) ?_
              first | refine z_iincN (b := 1) (ls' := [_, _, _, _, _, _, _, _, _, _, _, _, _, _, _, _, _, _, _, _]) hX dX6_carry_329 rfl rfl rfl ?_ | refine z_iinc (ls' := [_, _, _, _, _, _, _, _, _, _, _, _, _, _, _, _, _, _, _, _]) hX dX6_carry_329 rfl rfl ?_
              refine z_goto (tgt := 177) hX dX6_carry_332 (by decide) ?_
              refine z_forget (ls' := [some (.ref 0), some (.int (nI s)), some (.int r), none, some (.int (nI bx)), none, none, none, none, none, none, some (.long (nn bx)), none, some (.int (nI (k + 1))), none, none, none, none, none, none]) ⟨rfl, rfl, rfl, rfl, rfl, rfl, trivial⟩ ?_
              exact ih (k + 1) _ _ (by omega) (by omega) (wInv_in hI hbx c_296 (by omega) (fun q => mW_T c_191 c_213 c_246 q))
        · -- 213 f
          refine z_goto (tgt := 329) hX dX6_carry_216 (by decide) ?_
          first | refine z_iincN (b := 1) (ls' := [_, _, _, _, _, _, _, _, _, _, _, _, _, _, _, _, _, _, _, _]) hX dX6_carry_329 rfl rfl rfl ?_ | refine z_iinc (ls' := [_, _, _, _, _, _, _, _, _, _, _, _, _, _, _, _, _, _, _, _]) hX dX6_carry_329 rfl rfl ?_
          refine z_goto (tgt := 177) hX dX6_carry_332 (by decide) ?_
          refine z_forget (ls' := [some (.ref 0), some (.int (nI s)), some (.int r), none, some (.int (nI bx)), none, none, none, none, none, none, some (.long (nn bx)), none, some (.int (nI (k + 1))), none, none, none, none, none, none]) ⟨rfl, rfl, rfl, rfl, rfl, rfl, trivial⟩ ?_
          exact ih (k + 1) _ _ (by omega) (by omega) (wInv_none hI (fun q _ => mW_no c_191 c_213 q))
      · -- 191 f
        refine z_iconst (v := nI 1) hX dX6_carry_194 rfl ?_
        refine z_goto (tgt := 199) hX dX6_carry_195 (by decide) ?_
        refine z_istore (ls' := [_, _, _, _, _, _, _, _, _, _, _, _, _, _, _, _, _, _, _, _]) hX dX6_carry_199 (Nat.le_of_ble_eq_true rfl) rfl ?_
        refine z_iload hX dX6_carry_201 rfl ?_
        refine z_if_ne (tgt := 219) hX dX6_carry_203 (by decide) (fun _ => ?_) (fun c => absurd c (by decide))
        refine z_iload hX dX6_carry_219 rfl ?_
        refine z_if_eq (tgt := 233) hX dX6_carry_221 (by decide) (fun c => absurd c (by decide)) (fun _ => ?_)
        refine z_aload_n hX dX6_carry_224 rfl ?_
        refine z_iload hX dX6_carry_225 rfl ?_
        refine z_callV0 hX dX6_carry_227 mv_6_108 (c_X6_stillAt a (va_up (va_up (va_up b 9 g) 10 t) 11 n) c k (by omega)) (by decide) rfl rfl rfl rfl (Nat.le_of_ble_eq_true rfl) (fun r w1 hp _ => ?_)
        have hp : _ ∧ r = some (.long (stillF (a 1) (b 3) k)) := hp
        obtain ⟨rfl, rfl⟩ := hp
        refine z_goto (tgt := 240) hX dX6_carry_230 (by decide) ?_
        refine z_lstore (ls' := [_, _, _, _, _, _, _, _, _, _, _, _, _, _, _, _, _, _, _, _]) hX dX6_carry_240 (Nat.le_of_ble_eq_true rfl) rfl ?_
        refine z_lload hX dX6_carry_242 rfl ?_
        refine z_lconst (v := 0) hX dX6_carry_244 rfl ?_
        refine z_lcmp hX dX6_carry_245 ?_
        refine z_lif_le (tgt := 329) hX dX6_carry_246 (by decide) (fun c_246 => ?_) (fun c_246 => ?_)
        · -- 246 t
          first | refine z_iincN (b := 1) (ls' := [_, _, _, _, _, _, _, _, _, _, _, _, _, _, _, _, _, _, _, _]) hX dX6_carry_329 rfl rfl rfl ?_ | refine z_iinc (ls' := [_, _, _, _, _, _, _, _, _, _, _, _, _, _, _, _, _, _, _, _]) hX dX6_carry_329 rfl rfl ?_
          refine z_goto (tgt := 177) hX dX6_carry_332 (by decide) ?_
          refine z_forget (ls' := [some (.ref 0), some (.int (nI s)), some (.int r), none, some (.int (nI bx)), none, none, none, none, none, none, some (.long (nn bx)), none, some (.int (nI (k + 1))), none, none, none, none, none, none]) ⟨rfl, rfl, rfl, rfl, rfl, rfl, trivial⟩ ?_
          exact ih (k + 1) _ _ (by omega) (by omega) (wInv_none hI (fun q _ => mW_F0 c_191 c_246 q))
        · -- 246 f
          refine z_lload hX dX6_carry_249 rfl ?_
          refine z_lload hX dX6_carry_251 rfl ?_
          refine z_lmul hX dX6_carry_253 ?_
          refine z_ldc2 hX dX6_carry_254 k_6_129 ?_
          refine z_ldiv hX dX6_carry_257 (by decide) ?_
          refine z_lstore (ls' := [_, _, _, _, _, _, _, _, _, _, _, _, _, _, _, _, _, _, _, _]) hX dX6_carry_258 (Nat.le_of_ble_eq_true rfl) rfl ?_
          refine z_iload hX dX6_carry_260 rfl ?_
          refine z_if_eq (tgt := 273) hX dX6_carry_262 (by decide) (fun c => absurd c (by decide)) (fun _ => ?_)
          refine z_iload hX dX6_carry_265 rfl ?_
          refine z_callS0 hX dX6_carry_267 ms_6_89 (c_X6_toOf k (by omega) _) (by decide) rfl rfl (Nat.le_of_ble_eq_true rfl) (fun r w1 hp _ => ?_)
          obtain ⟨rfl, rfl⟩ := hp
          refine z_goto (tgt := 278) hX dX6_carry_270 (by decide) ?_
          refine z_istore (ls' := [_, _, _, _, _, _, _, _, _, _, _, _, _, _, _, _, _, _, _, _]) hX dX6_carry_278 (Nat.le_of_ble_eq_true rfl) rfl ?_
          refine z_aload_n hX dX6_carry_280 rfl ?_
          refine z_get hX dX6_carry_281 f_6_41 rfl rfl ?_
          refine z_iload hX dX6_carry_284 rfl ?_
          first | refine z_dup2_2 hX dX6_carry_286 rfl ?_ | refine z_dup2_11 hX dX6_carry_286 rfl rfl ?_
          refine z_lald hX dX6_carry_287 rfl (by omega) (by decide) ?_
          refine z_lload hX dX6_carry_288 rfl ?_
          refine z_lsub hX dX6_carry_290 ?_
          refine z_last (w' := [_, _, _, _, _, _, _, _, _, _, _, _, _, _, _, _, _, _, _, _]) hX dX6_carry_291 rfl (by omega) (by decide) rfl ?_
          refine z_iload hX dX6_carry_292 rfl ?_
          refine z_bipush (v := nI 9) hX dX6_carry_294 rfl ?_
          first | with_reducible refine z_icmp_geN (tgt := 314) hX dX6_carry_296 (by decide) (by omega) (by omega) (fun c_296 => ?_) (fun c_296 => ?_) | refine z_icmp_ge (tgt := 314) hX dX6_carry_296 (by decide) (fun c_296 => ?_) (fun c_296 => ?_)
          · -- 296 t
            refine z_aload_n hX dX6_carry_314 rfl ?_
            refine z_get hX dX6_carry_315 f_6_38 rfl rfl ?_
            refine z_iconst (v := nI 4) hX dX6_carry_318 rfl ?_
            refine z_iload_n hX dX6_carry_319 rfl ?_
            first | with_reducible refine z_imulN hX dX6_carry_320 ?_ | refine z_imul hX dX6_carry_320 ?_
            refine z_iconst (v := nI 3) hX dX6_carry_321 rfl ?_
            first | with_reducible refine z_iaddN hX dX6_carry_322 ?_ | refine z_iadd hX dX6_carry_322 ?_
            first | refine z_dup2_2 hX dX6_carry_323 rfl ?_ | refine z_dup2_11 hX dX6_carry_323 rfl rfl ?_
            refine z_lald hX dX6_carry_324 rfl (by omega) (by decide) ?_
            refine z_lload hX dX6_carry_325 rfl ?_
            refine z_ladd hX dX6_carry_327 ?_
            refine z_last (w' := [_, _, _, _, _, _, _, _, _, _, _, _, _, _, _, _, _, _, _, _]) hX dX6_carry_328 rfl (by omega) (by decide) rfl ?_
            first | refine z_iincN (b := 1) (ls' := [_, _, _, _, _, _, _, _, _, _, _, _, _, _, _, _, _, _, _, _]) hX dX6_carry_329 rfl rfl rfl ?_ | refine z_iinc (ls' := [_, _, _, _, _, _, _, _, _, _, _, _, _, _, _, _, _, _, _, _]) hX dX6_carry_329 rfl rfl ?_
            refine z_goto (tgt := 177) hX dX6_carry_332 (by decide) ?_
            refine z_forget (ls' := [some (.ref 0), some (.int (nI s)), some (.int r), none, some (.int (nI bx)), none, none, none, none, none, none, some (.long (nn bx)), none, some (.int (nI (k + 1))), none, none, none, none, none, none]) ⟨rfl, rfl, rfl, rfl, rfl, rfl, trivial⟩ ?_
            exact ih (k + 1) _ _ (by omega) (by omega) (wInv_out hI hbx (fun q => by rw [mW_F c_191 c_246 q, show zTO.getD k 0 = 9 by omega]; rfl))
          · -- 296 f
            refine z_aload_n hX dX6_carry_299 rfl ?_
            refine z_get hX dX6_carry_300 f_6_41 rfl rfl ?_
            refine z_iload hX dX6_carry_303 rfl ?_
            first | refine z_dup2_2 hX dX6_carry_305 rfl ?_ | refine z_dup2_11 hX dX6_carry_305 rfl rfl ?_
            refine z_lald hX dX6_carry_306 rfl (by omega) (by decide) ?_
            refine z_lload hX dX6_carry_307 rfl ?_
            refine z_ladd hX dX6_carry_309 ?_
            refine z_last (w' := [_, _, _, _, _, _, _, _, _, _, _, _, _, _, _, _, _, _, _, _]) hX dX6_carry_310 rfl (by omega) (by decide) rfl ?_
            refine z_goto (tgt := 329) hX dX6_carry_311 (by decide) ?_
            first | refine z_iincN (b := 1) (ls' := [_, _, _, _, _, _, _, _, _, _, _, _, _, _, _, _, _, _, _, _]) hX dX6_carry_329 rfl rfl rfl ?_ | refine z_iinc (ls' := [_, _, _, _, _, _, _, _, _, _, _, _, _, _, _, _, _, _, _, _]) hX dX6_carry_329 rfl rfl ?_
            refine z_goto (tgt := 177) hX dX6_carry_332 (by decide) ?_
            refine z_forget (ls' := [some (.ref 0), some (.int (nI s)), some (.int r), none, some (.int (nI bx)), none, none, none, none, none, none, some (.long (nn bx)), none, some (.int (nI (k + 1))), none, none, none, none, none, none]) ⟨rfl, rfl, rfl, rfl, rfl, rfl, trivial⟩ ?_
            exact ih (k + 1) _ _ (by omega) (by omega) (wInv_in hI hbx c_296 (by omega) (fun q => mW_F c_191 c_246 q))
end
section
/-! ===== the reference: carry, write, hours ===== -/
def bInv (nn st : Nat → Int64) (s : Nat) (r : Int32) (g t0 : Nat → Int64) (k : Nat) (n t : Nat → Int64) : Prop := (∀ q, q < 9 → n q = accM nn st q k) ∧ ∀ p, t p = if p = 4 * s + 1 then accA (fun x => washF (g (9 * s + x)) r) k (t0 (4 * s + 1)) else if p = 4 * s + 2 then accA (fun x => laidF (g (9 * s + x)) r) k (t0 (4 * s + 2)) else if p = 4 * s + 3 then accO nn st k (t0 (4 * s + 3)) else t0 p
theorem bInv_0 {nn st : Nat → Int64} {s : Nat} {r : Int32} {g t0 n : Nat → Int64} (hn : ∀ q, q < 9 → n q = 0) : bInv nn st s r g t0 0 n t0 := by
  refine ⟨hn, fun p => ?_⟩
  by_cases h1 : p = 4 * s + 1
  · rw [if_pos h1, h1]
    rfl
  · rw [if_neg h1]
    by_cases h2 : p = 4 * s + 2
    · rw [if_pos h2, h2]
      rfl
    · rw [if_neg h2]
      by_cases h3 : p = 4 * s + 3
      · rw [if_pos h3, h3]
        rfl
      · rw [if_neg h3]
theorem bInv_s {nn st : Nat → Int64} {s : Nat} {r : Int32} {g t0 : Nat → Int64} {k : Nat} {n t n1 t1 : Nat → Int64} (h : bInv nn st s r g t0 k n t) (hw : wInv nn st k s 24 (vp_updL n k (n k + nn k)) (vp_updL (vp_updL t (4 * s + 1) (t (4 * s + 1) + washF (g (9 * s + k)) r)) (4 * s + 2) (vp_updL t (4 * s + 1) (t (4 * s + 1) + washF (g (9 * s + k)) r) (4 * s + 2) + laidF (g (9 * s + k)) r)) n1 t1) : bInv nn st s r g t0 (k + 1) n1 t1 := by
  refine ⟨fun q hq => ?_, fun p => ?_⟩
  · rw [hw.1 q hq, accM_s]
    congr 1
    by_cases e : q = k
    · subst e
      rw [pk_uLs, if_pos rfl, h.1 q hq]
    · rw [pk_uLn e, if_neg e, Int64.add_zero, h.1 q hq]
  · rw [hw.2 p]
    have h1 := h.2 (4 * s + 1)
    have h2 := h.2 (4 * s + 2)
    have h3 := h.2 (4 * s + 3)
    rw [if_pos rfl] at h1
    rw [if_neg (by omega), if_pos rfl] at h2
    rw [if_neg (by omega), if_neg (by omega), if_pos rfl] at h3
    by_cases e3 : p = 4 * s + 3
    · rw [if_pos e3, if_neg (show ¬ p = 4 * s + 1 by omega), if_neg (show ¬ p = 4 * s + 2 by omega), if_pos e3, accO_s, pk_uLn (by omega), pk_uLn (by omega), h3]
    · rw [if_neg e3]
      by_cases e2 : p = 4 * s + 2
      · rw [e2, pk_uLs, pk_uLn (by omega), if_neg (by omega), if_pos rfl, accA_s, h2]
      · rw [pk_uLn e2]
        by_cases e1 : p = 4 * s + 1
        · rw [e1, pk_uLs, if_pos rfl, accA_s, h1]
        · rw [pk_uLn e1, h.2 p, if_neg e1, if_neg e2, if_neg e3, if_neg e1, if_neg e2, if_neg e3]
set_option maxHeartbeats 4000000 in
set_option maxRecDepth 100000 in
theorem lp_cy_344 {X : ZX} {post : Option Value → ZW → Prop} (hX : ZOK X 6 cX6_carry 4) (hR : ZRet X none post) (a : Nat → Nat → Int32) (b : Nat → Nat → Int64) (c : Nat → Int32) (s : Nat) (hs : s < 3) (r : Int32) (g t n : Nat → Int64) (hpost : ∀ g1, (∀ p, g1 p = if 9 * s ≤ p ∧ p < 9 * s + 9 then n (p - 9 * s) else g p) → post none (WM a (va_up (va_up (va_up b 9 g1) 10 t) 11 n) c)) : ∀ (m k : Nat) (g1 : Nat → Int64), k ≤ 9 → 9 < k + m → (∀ p, g1 p = if 9 * s ≤ p ∧ p < 9 * s + k then n (p - 9 * s) else g p) → ZG X 344 [some (.ref 0), some (.int (nI s)), some (.int r), none, some (.int (nI k)), none, none, none, none, none, none, none, none, none, none, none, none, none, none, none] [] (WM a (va_up (va_up (va_up b 9 g1) 10 t) 11 n) c) := by
  intro m
  induction m with
  | zero => intro k g1 z1 z2; omega
  | succ m ih =>
    intro k g1 hk1 hk2 hg
    refine z_iload hX dX6_carry_344 rfl ?_
    refine z_bipush (v := nI 9) hX dX6_carry_346 rfl ?_
    first | with_reducible refine z_icmp_geN (tgt := 376) hX dX6_carry_348 (by decide) (by omega) (by omega) (fun c_348 => ?_) (fun c_348 => ?_) | refine z_icmp_ge (tgt := 376) hX dX6_carry_348 (by decide) (fun c_348 => ?_) (fun c_348 => ?_)
    · -- 348 t
      have zk : k = 9 := by omega
      subst zk
      refine z_vret hX hR dX6_carry_376 ?_
      exact hpost g1 hg
    · -- 348 f
      refine z_aload_n hX dX6_carry_351 rfl ?_
      refine z_get hX dX6_carry_352 f_6_35 rfl rfl ?_
      refine z_bipush (v := nI 9) hX dX6_carry_355 rfl ?_
      refine z_iload_n hX dX6_carry_357 rfl ?_
      first | with_reducible refine z_imulN hX dX6_carry_358 ?_ | refine z_imul hX dX6_carry_358 ?_
      refine z_iload hX dX6_carry_359 rfl ?_
      first | with_reducible refine z_iaddN hX dX6_carry_361 ?_ | refine z_iadd hX dX6_carry_361 ?_
      refine z_aload_n hX dX6_carry_362 rfl ?_
      refine z_get hX dX6_carry_363 f_6_41 rfl rfl ?_
      refine z_iload hX dX6_carry_366 rfl ?_
      refine z_lald hX dX6_carry_368 rfl (by omega) (by decide) ?_
      refine z_last (w' := [_, _, _, _, _, _, _, _, _, _, _, _, _, _, _, _, _, _, _, _]) hX dX6_carry_369 rfl (by omega) (by decide) rfl ?_
      first | refine z_iincN (b := 1) (ls' := [_, _, _, _, _, _, _, _, _, _, _, _, _, _, _, _, _, _, _, _]) hX dX6_carry_370 rfl rfl rfl ?_ | refine z_iinc (ls' := [_, _, _, _, _, _, _, _, _, _, _, _, _, _, _, _, _, _, _, _]) hX dX6_carry_370 rfl rfl ?_
      refine z_goto (tgt := 344) hX dX6_carry_373 (by decide) ?_
      refine ih (k + 1) (vp_updL g1 (9 * s + k) (n k)) (by omega) (by omega) (fun p => ?_)
      by_cases e : p = 9 * s + k
      · rw [e, pk_uLs, if_pos (by omega), show 9 * s + k - 9 * s = k by omega]
      · rw [pk_uLn e, hg p]
        by_cases e2 : 9 * s ≤ p ∧ p < 9 * s + k
        · rw [if_pos e2, if_pos (by omega)]
        · rw [if_neg e2, if_neg (by omega)]
set_option maxHeartbeats 4000000 in
set_option maxRecDepth 100000 in
theorem lp_cy_79 {X : ZX} {post : Option Value → ZW → Prop} (hX : ZOK X 6 cX6_carry 4) (hR : ZRet X none post) (a : Nat → Nat → Int32) (b : Nat → Nat → Int64) (c : Nat → Int32) (s : Nat) (hs : s < 3) (r : Int32) (g t0 : Nat → Int64) (hpost : ∀ n t, bInv (fun q => leftF (g (9 * s + q)) r) (stillF (a 1) (b 3)) s r g t0 9 n t → ∀ g1, (∀ p, g1 p = if 9 * s ≤ p ∧ p < 9 * s + 9 then n (p - 9 * s) else g p) → post none (WM a (va_up (va_up (va_up b 9 g1) 10 t) 11 n) c)) : ∀ (m k : Nat) (n t : Nat → Int64), k ≤ 9 → 9 < k + m → bInv (fun q => leftF (g (9 * s + q)) r) (stillF (a 1) (b 3)) s r g t0 k n t → ZG X 79 [some (.ref 0), some (.int (nI s)), some (.int r), none, some (.int (nI k)), none, none, none, none, none, none, none, none, none, none, none, none, none, none, none] [] (WM a (va_up (va_up (va_up b 9 g) 10 t) 11 n) c) := by
  intro m
  induction m with
  | zero => intro k n t z1 z2; omega
  | succ m ih =>
    intro k n t hk1 hk2 hI
    refine z_iload hX dX6_carry_79 rfl ?_
    refine z_bipush (v := nI 9) hX dX6_carry_81 rfl ?_
    first | with_reducible refine z_icmp_geN (tgt := 341) hX dX6_carry_83 (by decide) (by omega) (by omega) (fun c_83 => ?_) (fun c_83 => ?_) | refine z_icmp_ge (tgt := 341) hX dX6_carry_83 (by decide) (fun c_83 => ?_) (fun c_83 => ?_)
    · -- 83 t
      refine z_iconst (v := nI 0) hX dX6_carry_341 rfl ?_
      refine z_istore (ls' := [_, _, _, _, _, _, _, _, _, _, _, _, _, _, _, _, _, _, _, _]) hX dX6_carry_342 (Nat.le_of_ble_eq_true rfl) rfl ?_
      have zk : k = 9 := by omega
      subst zk
      refine z_forget (ls' := [some (.ref 0), some (.int (nI s)), some (.int r), none, some (.int (nI 0)), none, none, none, none, none, none, none, none, none, none, none, none, none, none, none]) ⟨rfl, rfl, rfl, rfl, trivial⟩ ?_
      exact lp_cy_344 hX hR a b c s hs r g t n (hpost n t hI) 10 0 g (by omega) (by omega) (fun p => by rw [if_neg (by omega)])
    · -- 83 f
      refine z_aload_n hX dX6_carry_86 rfl ?_
      refine z_get hX dX6_carry_87 f_6_35 rfl rfl ?_
      refine z_bipush (v := nI 9) hX dX6_carry_90 rfl ?_
      refine z_iload_n hX dX6_carry_92 rfl ?_
      first | with_reducible refine z_imulN hX dX6_carry_93 ?_ | refine z_imul hX dX6_carry_93 ?_
      refine z_iload hX dX6_carry_94 rfl ?_
      first | with_reducible refine z_iaddN hX dX6_carry_96 ?_ | refine z_iadd hX dX6_carry_96 ?_
      refine z_lald hX dX6_carry_97 rfl (by omega) (by decide) ?_
      refine z_lstore (ls' := [_, _, _, _, _, _, _, _, _, _, _, _, _, _, _, _, _, _, _, _]) hX dX6_carry_98 (Nat.le_of_ble_eq_true rfl) rfl ?_
      refine z_lload hX dX6_carry_100 rfl ?_
      refine z_iload_n hX dX6_carry_102 rfl ?_
      refine z_i2l hX dX6_carry_103 ?_
      refine z_lmul hX dX6_carry_104 ?_
      refine z_ldc2 hX dX6_carry_105 k_6_127 ?_
      refine z_ldiv hX dX6_carry_108 (by decide) ?_
      refine z_lstore (ls' := [_, _, _, _, _, _, _, _, _, _, _, _, _, _, _, _, _, _, _, _]) hX dX6_carry_109 (Nat.le_of_ble_eq_true rfl) rfl ?_
      refine z_lload hX dX6_carry_111 rfl ?_
      refine z_lload hX dX6_carry_113 rfl ?_
      refine z_lsub hX dX6_carry_115 ?_
      refine z_ldc2 hX dX6_carry_116 k_6_127 ?_
      refine z_ldiv hX dX6_carry_119 (by decide) ?_
      refine z_lstore (ls' := [_, _, _, _, _, _, _, _, _, _, _, _, _, _, _, _, _, _, _, _]) hX dX6_carry_120 (Nat.le_of_ble_eq_true rfl) rfl ?_
      refine z_lload hX dX6_carry_122 rfl ?_
      refine z_lload hX dX6_carry_124 rfl ?_
      refine z_lsub hX dX6_carry_126 ?_
      refine z_lload hX dX6_carry_127 rfl ?_
      refine z_lsub hX dX6_carry_129 ?_
      refine z_lstore (ls' := [_, _, _, _, _, _, _, _, _, _, _, _, _, _, _, _, _, _, _, _]) hX dX6_carry_130 (Nat.le_of_ble_eq_true rfl) rfl ?_
      refine z_aload_n hX dX6_carry_132 rfl ?_
      refine z_get hX dX6_carry_133 f_6_38 rfl rfl ?_
      refine z_iconst (v := nI 4) hX dX6_carry_136 rfl ?_
      refine z_iload_n hX dX6_carry_137 rfl ?_
      first | with_reducible refine z_imulN hX dX6_carry_138 ?_ | refine z_imul hX dX6_carry_138 ?_
      refine z_iconst (v := nI 1) hX dX6_carry_139 rfl ?_
      first | with_reducible refine z_iaddN hX dX6_carry_140 ?_ | refine z_iadd hX dX6_carry_140 ?_
      first | refine z_dup2_2 hX dX6_carry_141 rfl ?_ | refine z_dup2_11 hX dX6_carry_141 rfl rfl ?_
      refine z_lald hX dX6_carry_142 rfl (by omega) (by decide) ?_
      refine z_lload hX dX6_carry_143 rfl ?_
      refine z_ladd hX dX6_carry_145 ?_
      refine z_last (w' := [_, _, _, _, _, _, _, _, _, _, _, _, _, _, _, _, _, _, _, _]) hX dX6_carry_146 rfl (by omega) (by decide) rfl ?_
      refine z_aload_n hX dX6_carry_147 rfl ?_
      refine z_get hX dX6_carry_148 f_6_38 rfl rfl ?_
      refine z_iconst (v := nI 4) hX dX6_carry_151 rfl ?_
      refine z_iload_n hX dX6_carry_152 rfl ?_
      first | with_reducible refine z_imulN hX dX6_carry_153 ?_ | refine z_imul hX dX6_carry_153 ?_
      refine z_iconst (v := nI 2) hX dX6_carry_154 rfl ?_
      first | with_reducible refine z_iaddN hX dX6_carry_155 ?_ | refine z_iadd hX dX6_carry_155 ?_
      first | refine z_dup2_2 hX dX6_carry_156 rfl ?_ | refine z_dup2_11 hX dX6_carry_156 rfl rfl ?_
      refine z_lald hX dX6_carry_157 rfl (by omega) (by decide) ?_
      refine z_lload hX dX6_carry_158 rfl ?_
      refine z_ladd hX dX6_carry_160 ?_
      refine z_last (w' := [_, _, _, _, _, _, _, _, _, _, _, _, _, _, _, _, _, _, _, _]) hX dX6_carry_161 rfl (by omega) (by decide) rfl ?_
      refine z_aload_n hX dX6_carry_162 rfl ?_
      refine z_get hX dX6_carry_163 f_6_41 rfl rfl ?_
      refine z_iload hX dX6_carry_166 rfl ?_
      first | refine z_dup2_2 hX dX6_carry_168 rfl ?_ | refine z_dup2_11 hX dX6_carry_168 rfl rfl ?_
      refine z_lald hX dX6_carry_169 rfl (by omega) (by decide) ?_
      refine z_lload hX dX6_carry_170 rfl ?_
      refine z_ladd hX dX6_carry_172 ?_
      refine z_last (w' := [_, _, _, _, _, _, _, _, _, _, _, _, _, _, _, _, _, _, _, _]) hX dX6_carry_173 rfl (by omega) (by decide) rfl ?_
      refine z_iconst (v := nI 0) hX dX6_carry_174 rfl ?_
      refine z_istore (ls' := [_, _, _, _, _, _, _, _, _, _, _, _, _, _, _, _, _, _, _, _]) hX dX6_carry_175 (Nat.le_of_ble_eq_true rfl) rfl ?_
      refine z_forget (ls' := [some (.ref 0), some (.int (nI s)), some (.int r), none, some (.int (nI k)), none, none, none, none, none, none, some (.long ((fun q => leftF (g (9 * s + q)) r) k)), none, some (.int (nI 0)), none, none, none, none, none, none]) ⟨rfl, rfl, rfl, rfl, rfl, rfl, trivial⟩ ?_
      refine lp_cy_177 hX hR a b c (fun q => leftF (g (9 * s + q)) r) s hs r g _ _ k (by omega) (fun n1 t1 hJ => ?_) 25 0 _ _ (by omega) (by omega) (wInv_0 _ _ _ _ _ _)
      first | refine z_iincN (b := 1) (ls' := [_, _, _, _, _, _, _, _, _, _, _, _, _, _, _, _, _, _, _, _]) hX dX6_carry_335 rfl rfl rfl ?_ | refine z_iinc (ls' := [_, _, _, _, _, _, _, _, _, _, _, _, _, _, _, _, _, _, _, _]) hX dX6_carry_335 rfl rfl ?_
      refine z_goto (tgt := 79) hX dX6_carry_338 (by decide) ?_
      refine z_forget (ls' := [some (.ref 0), some (.int (nI s)), some (.int r), none, some (.int (nI (k + 1))), none, none, none, none, none, none, none, none, none, none, none, none, none, none, none]) ⟨rfl, rfl, rfl, rfl, trivial⟩ ?_
      exact ih (k + 1) n1 t1 (by omega) (by omega) (bInv_s hI hJ)
set_option maxHeartbeats 4000000 in
set_option maxRecDepth 100000 in
theorem lp_cy_55 {X : ZX} {post : Option Value → ZW → Prop} (hX : ZOK X 6 cX6_carry 4) (hR : ZRet X none post) (a : Nat → Nat → Int32) (b : Nat → Nat → Int64) (c : Nat → Int32) (s : Nat) (hs : s < 3) (r : Int32) (g t0 : Nat → Int64) (hpost : ∀ n t, bInv (fun q => leftF (g (9 * s + q)) r) (stillF (a 1) (b 3)) s r g t0 9 n t → ∀ g1, (∀ p, g1 p = if 9 * s ≤ p ∧ p < 9 * s + 9 then n (p - 9 * s) else g p) → post none (WM a (va_up (va_up (va_up b 9 g1) 10 t) 11 n) c)) : ∀ (m k : Nat) (n : Nat → Int64), k ≤ 9 → 9 < k + m → (∀ q, q < k → n q = 0) → ZG X 55 [some (.ref 0), some (.int (nI s)), some (.int r), none, some (.int (nI k)), none, none, none, none, none, none, none, none, none, none, none, none, none, none, none] [] (WM a (va_up (va_up (va_up b 9 g) 10 t0) 11 n) c) := by
  intro m
  induction m with
  | zero => intro k n z1 z2; omega
  | succ m ih =>
    intro k n hk1 hk2 hI
    refine z_iload hX dX6_carry_55 rfl ?_
    refine z_bipush (v := nI 9) hX dX6_carry_57 rfl ?_
    first | with_reducible refine z_icmp_geN (tgt := 76) hX dX6_carry_59 (by decide) (by omega) (by omega) (fun c_59 => ?_) (fun c_59 => ?_) | refine z_icmp_ge (tgt := 76) hX dX6_carry_59 (by decide) (fun c_59 => ?_) (fun c_59 => ?_)
    · -- 59 t
      refine z_iconst (v := nI 0) hX dX6_carry_76 rfl ?_
      refine z_istore (ls' := [_, _, _, _, _, _, _, _, _, _, _, _, _, _, _, _, _, _, _, _]) hX dX6_carry_77 (Nat.le_of_ble_eq_true rfl) rfl ?_
      have zk : k = 9 := by omega
      subst zk
      exact lp_cy_79 hX hR a b c s hs r g t0 hpost 10 0 n t0 (by omega) (by omega) (bInv_0 hI)
    · -- 59 f
      refine z_aload_n hX dX6_carry_62 rfl ?_
      refine z_get hX dX6_carry_63 f_6_41 rfl rfl ?_
      refine z_iload hX dX6_carry_66 rfl ?_
      refine z_lconst (v := 0) hX dX6_carry_68 rfl ?_
      refine z_last (w' := [_, _, _, _, _, _, _, _, _, _, _, _, _, _, _, _, _, _, _, _]) hX dX6_carry_69 rfl (by omega) (by decide) rfl ?_
      first | refine z_iincN (b := 1) (ls' := [_, _, _, _, _, _, _, _, _, _, _, _, _, _, _, _, _, _, _, _]) hX dX6_carry_70 rfl rfl rfl ?_ | refine z_iinc (ls' := [_, _, _, _, _, _, _, _, _, _, _, _, _, _, _, _, _, _, _, _]) hX dX6_carry_70 rfl rfl ?_
      refine z_goto (tgt := 55) hX dX6_carry_73 (by decide) ?_
      refine ih (k + 1) (vp_updL n k 0) (by omega) (by omega) (fun q hq => ?_)
      by_cases e : q = k
      · rw [e, pk_uLs]
      · rw [pk_uLn e]
        exact hI q (by omega)
/-- the grains and totals as the rate is given off -/
def offG (b9 : Nat → Int64) (s hm : Nat) (rt : Int32) : Nat → Int64 := vp_updL b9 (9 * s + hm) (b9 (9 * s + hm) + rt.toInt64)
def offT (b10 : Nat → Int64) (s : Nat) (rt : Int32) : Nat → Int64 := vp_updL b10 (4 * s) (b10 (4 * s) + rt.toInt64)
def nnF (g : Nat → Int64) (s : Nat) (r : Int32) (q : Nat) : Int64 := leftF (g (9 * s + q)) r
def cyG (st b9 : Nat → Int64) (s hm : Nat) (rt r : Int32) (p : Nat) : Int64 := if 9 * s ≤ p ∧ p < 9 * s + 9 then accM (nnF (offG b9 s hm rt) s r) st (p - 9 * s) 9 else b9 p
def cyT (st b9 b10 : Nat → Int64) (s hm : Nat) (rt r : Int32) (p : Nat) : Int64 := if p = 4 * s + 1 then accA (fun x => washF (offG b9 s hm rt (9 * s + x)) r) 9 (b10 (4 * s + 1)) else if p = 4 * s + 2 then accA (fun x => laidF (offG b9 s hm rt (9 * s + x)) r) 9 (b10 (4 * s + 2)) else if p = 4 * s + 3 then accO (nnF (offG b9 s hm rt) s r) st 9 (b10 (4 * s + 3)) else if p = 4 * s then b10 (4 * s) + rt.toInt64 else b10 p
theorem cy_end {st b9 b10 g1 n t : Nat → Int64} {s hm : Nat} {rt r : Int32} (hm9 : hm < 9) (hI : bInv (fun q => leftF (offG b9 s hm rt (9 * s + q)) r) st s r (offG b9 s hm rt) (offT b10 s rt) 9 n t) (hg : ∀ p, g1 p = if 9 * s ≤ p ∧ p < 9 * s + 9 then n (p - 9 * s) else offG b9 s hm rt p) : g1 = cyG st b9 s hm rt r ∧ t = cyT st b9 b10 s hm rt r := by
  constructor
  · funext p
    rw [hg p]
    unfold cyG
    by_cases e : 9 * s ≤ p ∧ p < 9 * s + 9
    · rw [if_pos e, if_pos e, hI.1 _ (by omega)]
      rfl
    · rw [if_neg e, if_neg e]
      exact pk_uLn (by omega)
  · funext p
    rw [hI.2 p]
    unfold cyT
    have o : ∀ q, q ≠ 4 * s → offT b10 s rt q = b10 q := fun q hq => pk_uLn hq
    rw [o (4 * s + 1) (by omega), o (4 * s + 2) (by omega), o (4 * s + 3) (by omega)]
    by_cases h1 : p = 4 * s + 1
    · rw [if_pos h1, if_pos h1]
    · rw [if_neg h1, if_neg h1]
      by_cases h2 : p = 4 * s + 2
      · rw [if_pos h2, if_pos h2]
      · rw [if_neg h2, if_neg h2]
        by_cases h3 : p = 4 * s + 3
        · rw [if_pos h3, if_pos h3]
          rfl
        · rw [if_neg h3, if_neg h3]
          by_cases h4 : p = 4 * s
          · rw [if_pos h4, h4]
            exact pk_uLs
          · rw [if_neg h4]
            exact o p h4
set_option maxHeartbeats 4000000 in
set_option maxRecDepth 100000 in
theorem c_X6_carry (a : Nat → Nat → Int32) (b : Nat → Nat → Int64) (c : Nat → Int32) (s hm tm : Nat) (hs : s < 3) (hm9 : hm < 9) (htm : tm < 2147483648) (hc : c 0 = nI tm) (h7 : a 7 s = nI hm) (r : Int32) : ∀ l, ZC l yX6_carry cX6_carry 20 none 4 [.ref 0, .int (nI s), .int r] (WM a b c) (fun r0 w' => r0 = none ∧ ∃ n, w' = WM a (va_up (va_up (va_up b 9 (cyG (stillF (a 1) (b 3)) (b 9) s hm (a 8 (24 * s + tm % 24)) r)) 10 (cyT (stillF (a 1) (b 3)) (b 9) (b 10) s hm (a 8 (24 * s + tm % 24)) r)) 11 n) c) := by
  intro l
  refine zc_intro (oc := 6) (by decide +kernel) rfl (Nat.le_of_ble_eq_true rfl) ?_
  intro X hX hR
  refine z_norm (ls' := [_, _, _, _, _, _, _, _, _, _, _, _, _, _, _, _, _, _, _, _]) rfl rfl rfl ?_
  refine z_aload_n hX dX6_carry_0 rfl ?_
  refine z_get hX dX6_carry_1 f_6_32 rfl rfl ?_
  refine z_bipush (v := nI 24) hX dX6_carry_4 rfl ?_
  refine z_iload_n hX dX6_carry_6 rfl ?_
  first | with_reducible refine z_imulN hX dX6_carry_7 ?_ | refine z_imul hX dX6_carry_7 ?_
  refine z_aload_n hX dX6_carry_8 rfl ?_
  refine z_get hX dX6_carry_9 f_6_123 rfl rfl ?_
  refine z_top hc ?_
  refine z_bipush (v := nI 24) hX dX6_carry_12 rfl ?_
  first | with_reducible refine z_iremN hX dX6_carry_14 (by omega) (by decide) (by decide) ?_ | refine z_irem hX dX6_carry_14 (by decide) ?_
  first | with_reducible refine z_iaddN hX dX6_carry_15 ?_ | refine z_iadd hX dX6_carry_15 ?_
  first | refine z_iald hX dX6_carry_16 rfl (by omega) (by decide) ?_ | refine z_stld (nm := "FROM") (xs := zFROM) hX dX6_carry_16 (fun _ _ _ _ h => h.1) (by show _ < 24; omega) (by decide) ?_ | refine z_stld (nm := "TO") (xs := zTO) hX dX6_carry_16 (fun _ _ _ _ h => h.2.1) (by show _ < 24; omega) (by decide) ?_ | refine z_stld (nm := "FALL") (xs := zFALL) hX dX6_carry_16 (fun _ _ _ _ h => h.2.2.1) (by show _ < 81; omega) (by decide) ?_
  refine z_istore_n (ls' := [_, _, _, _, _, _, _, _, _, _, _, _, _, _, _, _, _, _, _, _]) hX dX6_carry_17 (Nat.le_of_ble_eq_true rfl) rfl ?_
  refine z_aload_n hX dX6_carry_18 rfl ?_
  refine z_get hX dX6_carry_19 f_6_35 rfl rfl ?_
  refine z_bipush (v := nI 9) hX dX6_carry_22 rfl ?_
  refine z_iload_n hX dX6_carry_24 rfl ?_
  first | with_reducible refine z_imulN hX dX6_carry_25 ?_ | refine z_imul hX dX6_carry_25 ?_
  refine z_aload_n hX dX6_carry_26 rfl ?_
  refine z_get hX dX6_carry_27 f_6_29 rfl rfl ?_
  refine z_iload_n hX dX6_carry_30 rfl ?_
  refine z_iald hX dX6_carry_31 rfl (by omega) (by decide) ?_
  refine z_top h7 ?_
  first | with_reducible refine z_iaddN hX dX6_carry_32 ?_ | refine z_iadd hX dX6_carry_32 ?_
  first | refine z_dup2_2 hX dX6_carry_33 rfl ?_ | refine z_dup2_11 hX dX6_carry_33 rfl rfl ?_
  refine z_lald hX dX6_carry_34 rfl (by omega) (by decide) ?_
  refine z_iload_n hX dX6_carry_35 rfl ?_
  refine z_i2l hX dX6_carry_36 ?_
  refine z_ladd hX dX6_carry_37 ?_
  refine z_last (w' := [_, _, _, _, _, _, _, _, _, _, _, _, _, _, _, _, _, _, _, _]) hX dX6_carry_38 rfl (by omega) (by decide) rfl ?_
  refine z_aload_n hX dX6_carry_39 rfl ?_
  refine z_get hX dX6_carry_40 f_6_38 rfl rfl ?_
  refine z_iconst (v := nI 4) hX dX6_carry_43 rfl ?_
  refine z_iload_n hX dX6_carry_44 rfl ?_
  first | with_reducible refine z_imulN hX dX6_carry_45 ?_ | refine z_imul hX dX6_carry_45 ?_
  first | refine z_dup2_2 hX dX6_carry_46 rfl ?_ | refine z_dup2_11 hX dX6_carry_46 rfl rfl ?_
  refine z_lald hX dX6_carry_47 rfl (by omega) (by decide) ?_
  refine z_iload_n hX dX6_carry_48 rfl ?_
  refine z_i2l hX dX6_carry_49 ?_
  refine z_ladd hX dX6_carry_50 ?_
  refine z_last (w' := [_, _, _, _, _, _, _, _, _, _, _, _, _, _, _, _, _, _, _, _]) hX dX6_carry_51 rfl (by omega) (by decide) rfl ?_
  refine z_iconst (v := nI 0) hX dX6_carry_52 rfl ?_
  refine z_istore (ls' := [_, _, _, _, _, _, _, _, _, _, _, _, _, _, _, _, _, _, _, _]) hX dX6_carry_53 (Nat.le_of_ble_eq_true rfl) rfl ?_
  refine z_forget (ls' := [some (.ref 0), some (.int (nI s)), some (.int r), none, some (.int (nI 0)), none, none, none, none, none, none, none, none, none, none, none, none, none, none, none]) ⟨rfl, rfl, rfl, rfl, trivial⟩ ?_
  refine lp_cy_55 hX hR a b c s hs r (offG (b 9) s hm (a 8 (24 * s + tm % 24))) (offT (b 10) s (a 8 (24 * s + tm % 24))) (fun n t hI g1 hg => ?_) 10 0 (b 11) (by omega) (by omega) (fun q hq => by omega)
  obtain ⟨e1, e2⟩ := cy_end hm9 hI hg
  subst e1
  subst e2
  exact ⟨rfl, n, rfl⟩
end
section
/-! ===== the reference: write, hours ===== -/
def wrE (mn : Nat) : Nat := if mn = 100 then 99 else mn
def wrM (a15 : Nat → Int32) (d mn : Nat) (p : Nat) : Int32 := if p = d then nI (wrE mn + 1) else a15 p
def wrV (b9 : Nat → Int64) (lost : Int32) (db s : Nat) : Int64 := if lost = 0 then b9 (9 * s + db) else -1
def wrS (b16 b9 : Nat → Int64) (lost : Int32) (d db mn : Nat) (p : Nat) : Int64 := if 300 * d + 3 * wrE mn ≤ p ∧ p < 300 * d + 3 * wrE mn + 3 then wrV b9 lost db (p - (300 * d + 3 * wrE mn)) else if mn = 100 ∧ 300 * d ≤ p ∧ p < 300 * d + 297 then b16 (p + 3) else b16 p
set_option maxHeartbeats 4000000 in
set_option maxRecDepth 100000 in
theorem lp_wr_62 {X : ZX} {post : Option Value → ZW → Prop} (hX : ZOK X 6 cX6_write 0) (hR : ZRet X none post) (a : Nat → Nat → Int32) (b : Nat → Nat → Int64) (c : Nat → Int32) (m15 : Nat → Int32) (sh0 : Nat → Int64) (d e db : Nat) (hd : d < 4) (he : e ≤ 99) (hdb : db < 9) (h15 : m15 d = nI e) (h12 : a 12 d = nI db) (hpost : ∀ sh, (∀ p, sh p = if 300 * d + 3 * e ≤ p ∧ p < 300 * d + 3 * e + 3 then wrV (b 9) (a 13 d) db (p - (300 * d + 3 * e)) else sh0 p) → post none (WM (va_up a 15 (upd m15 d (nI (e + 1)))) (va_up b 16 sh) c)) : ∀ (n k : Nat) (sh : Nat → Int64), k ≤ 3 → 3 < k + n → (∀ p, sh p = if 300 * d + 3 * e ≤ p ∧ p < 300 * d + 3 * e + k then wrV (b 9) (a 13 d) db (p - (300 * d + 3 * e)) else sh0 p) → ZG X 62 [some (.ref 0), some (.int (nI d)), some (.int (nI (300 * d))), some (.int (nI k))] [] (WM (va_up a 15 m15) (va_up b 16 sh) c) := by
  intro n
  induction n with
  | zero => intro k sh z1 z2; omega
  | succ n ih =>
    intro k sh hk1 hk2 hsh
    refine z_iload_n hX dX6_write_62 rfl ?_
    refine z_iconst (v := nI 3) hX dX6_write_63 rfl ?_
    first | with_reducible refine z_icmp_geN (tgt := 121) hX dX6_write_64 (by decide) (by omega) (by omega) (fun c_64 => ?_) (fun c_64 => ?_) | refine z_icmp_ge (tgt := 121) hX dX6_write_64 (by decide) (fun c_64 => ?_) (fun c_64 => ?_)
    · -- 64 t
      have zk : k = 3 := by omega
      subst zk
      refine z_aload_n hX dX6_write_121 rfl ?_
      refine z_get hX dX6_write_122 f_6_54 rfl rfl ?_
      refine z_iload_n hX dX6_write_125 rfl ?_
      first | refine z_dup2_2 hX dX6_write_126 rfl ?_ | refine z_dup2_11 hX dX6_write_126 rfl rfl ?_
      refine z_iald hX dX6_write_127 rfl (by omega) (by decide) ?_
      refine z_top h15 ?_
      refine z_iconst (v := nI 1) hX dX6_write_128 rfl ?_
      first | with_reducible refine z_iaddN hX dX6_write_129 ?_ | refine z_iadd hX dX6_write_129 ?_
      refine z_iast (w' := [_, _, _, _, _, _, _, _, _, _, _, _, _, _, _, _, _, _, _, _]) hX dX6_write_130 rfl (by omega) (by decide) rfl ?_
      refine z_vret hX hR dX6_write_131 ?_
      exact hpost sh hsh
    · -- 64 f
      refine z_aload_n hX dX6_write_67 rfl ?_
      refine z_get hX dX6_write_68 f_6_57 rfl rfl ?_
      refine z_iload_n hX dX6_write_71 rfl ?_
      refine z_iconst (v := nI 3) hX dX6_write_72 rfl ?_
      refine z_aload_n hX dX6_write_73 rfl ?_
      refine z_get hX dX6_write_74 f_6_54 rfl rfl ?_
      refine z_iload_n hX dX6_write_77 rfl ?_
      refine z_iald hX dX6_write_78 rfl (by omega) (by decide) ?_
      refine z_top h15 ?_
      first | with_reducible refine z_imulN hX dX6_write_79 ?_ | refine z_imul hX dX6_write_79 ?_
      first | with_reducible refine z_iaddN hX dX6_write_80 ?_ | refine z_iadd hX dX6_write_80 ?_
      refine z_iload_n hX dX6_write_81 rfl ?_
      first | with_reducible refine z_iaddN hX dX6_write_82 ?_ | refine z_iadd hX dX6_write_82 ?_
      refine z_aload_n hX dX6_write_83 rfl ?_
      refine z_get hX dX6_write_84 f_6_47 rfl rfl ?_
      refine z_iload_n hX dX6_write_87 rfl ?_
      refine z_zald hX dX6_write_88 rfl (by omega) (by decide) ?_
      refine z_if_eq (tgt := 98) hX dX6_write_89 (by decide) (fun c_89 => ?_) (fun c_89 => ?_)
      · -- 89 t
        refine z_aload_n hX dX6_write_98 rfl ?_
        refine z_get hX dX6_write_99 f_6_35 rfl rfl ?_
        refine z_bipush (v := nI 9) hX dX6_write_102 rfl ?_
        refine z_iload_n hX dX6_write_104 rfl ?_
        first | with_reducible refine z_imulN hX dX6_write_105 ?_ | refine z_imul hX dX6_write_105 ?_
        refine z_aload_n hX dX6_write_106 rfl ?_
        refine z_get hX dX6_write_107 f_6_44 rfl rfl ?_
        refine z_iload_n hX dX6_write_110 rfl ?_
        refine z_iald hX dX6_write_111 rfl (by omega) (by decide) ?_
        refine z_top h12 ?_
        first | with_reducible refine z_iaddN hX dX6_write_112 ?_ | refine z_iadd hX dX6_write_112 ?_
        refine z_lald hX dX6_write_113 rfl (by omega) (by decide) ?_
        refine z_last (w' := [_, _, _, _, _, _, _, _, _, _, _, _, _, _, _, _, _, _, _, _]) hX dX6_write_114 rfl (by omega) (by decide) rfl ?_
        first | refine z_iincN (b := 1) (ls' := [_, _, _, _]) hX dX6_write_115 rfl rfl rfl ?_ | refine z_iinc (ls' := [_, _, _, _]) hX dX6_write_115 rfl rfl ?_
        refine z_goto (tgt := 62) hX dX6_write_118 (by decide) ?_
        refine ih (k + 1) (vp_updL sh (300 * d + 3 * e + k) (b 9 (9 * k + db))) (by omega) (by omega) (fun p => ?_)
        by_cases e0 : p = 300 * d + 3 * e + k
        · rw [e0, pk_uLs, if_pos (by omega), show 300 * d + 3 * e + k - (300 * d + 3 * e) = k by omega]
          unfold wrV
          exact (if_pos c_89).symm
        · rw [pk_uLn e0, hsh p]
          by_cases e2 : 300 * d + 3 * e ≤ p ∧ p < 300 * d + 3 * e + k
          · rw [if_pos e2, if_pos (by omega)]
          · rw [if_neg e2, if_neg (by omega)]
      · -- 89 f
        refine z_ldc2 hX dX6_write_92 k_6_99 ?_
        refine z_goto (tgt := 114) hX dX6_write_95 (by decide) ?_
        refine z_last (w' := [_, _, _, _, _, _, _, _, _, _, _, _, _, _, _, _, _, _, _, _]) hX dX6_write_114 rfl (by omega) (by decide) rfl ?_
        first | refine z_iincN (b := 1) (ls' := [_, _, _, _]) hX dX6_write_115 rfl rfl rfl ?_ | refine z_iinc (ls' := [_, _, _, _]) hX dX6_write_115 rfl rfl ?_
        refine z_goto (tgt := 62) hX dX6_write_118 (by decide) ?_
        refine ih (k + 1) (vp_updL sh (300 * d + 3 * e + k) (-1)) (by omega) (by omega) (fun p => ?_)
        by_cases e0 : p = 300 * d + 3 * e + k
        · rw [e0, pk_uLs, if_pos (by omega), show 300 * d + 3 * e + k - (300 * d + 3 * e) = k by omega]
          unfold wrV
          exact (if_neg c_89).symm
        · rw [pk_uLn e0, hsh p]
          by_cases e2 : 300 * d + 3 * e ≤ p ∧ p < 300 * d + 3 * e + k
          · rw [if_pos e2, if_pos (by omega)]
          · rw [if_neg e2, if_neg (by omega)]
set_option maxHeartbeats 4000000 in
set_option maxRecDepth 100000 in
theorem lp_wr_19 {X : ZX} {post : Option Value → ZW → Prop} (hX : ZOK X 6 cX6_write 0) (hR : ZRet X none post) (a : Nat → Nat → Int32) (b : Nat → Nat → Int64) (c : Nat → Int32) (d db : Nat) (hd : d < 4) (hdb : db < 9) (h15 : a 15 d = nI 100) (h12 : a 12 d = nI db) (hpost : post none (WM (va_up a 15 (wrM (a 15) d 100)) (va_up b 16 (wrS (b 16) (b 9) (a 13 d) d db 100)) c)) : ∀ (n k : Nat) (sh : Nat → Int64), 3 ≤ k → k ≤ 300 → 300 < k + n → (∀ p, sh p = if 300 * d ≤ p ∧ p + 3 < 300 * d + k then b 16 (p + 3) else b 16 p) → ZG X 19 [some (.ref 0), some (.int (nI d)), some (.int (nI (300 * d))), some (.int (nI k))] [] (WM a (va_up b 16 sh) c) := by
  intro n
  induction n with
  | zero => intro k sh z1 z2 z3; omega
  | succ n ih =>
    intro k sh hk0 hk1 hk2 hsh
    refine z_iload_n hX dX6_write_19 rfl ?_
    refine z_sipush (v := nI 300) hX dX6_write_20 rfl ?_
    first | with_reducible refine z_icmp_geN (tgt := 50) hX dX6_write_23 (by decide) (by omega) (by omega) (fun c_23 => ?_) (fun c_23 => ?_) | refine z_icmp_ge (tgt := 50) hX dX6_write_23 (by decide) (fun c_23 => ?_) (fun c_23 => ?_)
    · -- 23 t
      have zk : k = 300 := by omega
      subst zk
      refine z_aload_n hX dX6_write_50 rfl ?_
      refine z_get hX dX6_write_51 f_6_54 rfl rfl ?_
      refine z_iload_n hX dX6_write_54 rfl ?_
      first | refine z_dup2_2 hX dX6_write_55 rfl ?_ | refine z_dup2_11 hX dX6_write_55 rfl rfl ?_
      refine z_iald hX dX6_write_56 rfl (by omega) (by decide) ?_
      refine z_top h15 ?_
      refine z_iconst (v := nI 1) hX dX6_write_57 rfl ?_
      first | with_reducible refine z_isubN hX dX6_write_58 (by omega) ?_ | refine z_isub hX dX6_write_58 ?_
      refine z_iast (w' := [_, _, _, _, _, _, _, _, _, _, _, _, _, _, _, _, _, _, _, _]) hX dX6_write_59 rfl (by omega) (by decide) rfl ?_
      refine z_iconst (v := nI 0) hX dX6_write_60 rfl ?_
      refine z_istore_n (ls' := [_, _, _, _]) hX dX6_write_61 (Nat.le_of_ble_eq_true rfl) rfl ?_
      refine lp_wr_62 hX hR a b c (upd (a 15) d (nI (100 - 1))) sh d 99 db hd (by omega) hdb pk_us h12 (fun sh1 e1 => ?_) 4 0 sh (by omega) (by omega) (fun p => by rw [if_neg (by omega)])
      have e2 : upd (upd (a 15) d (nI (100 - 1))) d (nI (99 + 1)) = wrM (a 15) d 100 := by
        funext p
        unfold wrM
        by_cases e : p = d
        · rw [e, pk_us, if_pos rfl]
          rfl
        · rw [pk_un e, pk_un e, if_neg e]
      have e3 : sh1 = wrS (b 16) (b 9) (a 13 d) d db 100 := by
        funext p
        rw [e1 p]
        unfold wrS wrE
        rw [if_pos rfl]
        by_cases e : 300 * d + 3 * 99 ≤ p ∧ p < 300 * d + 3 * 99 + 3
        · rw [if_pos e, if_pos e]
        · rw [if_neg e, if_neg e, hsh p]
          by_cases e4 : 300 * d ≤ p ∧ p + 3 < 300 * d + 300
          · rw [if_pos e4, if_pos (by omega)]
          · rw [if_neg e4, if_neg (by omega)]
      rw [e2, e3]
      exact hpost
    · -- 23 f
      refine z_aload_n hX dX6_write_26 rfl ?_
      refine z_get hX dX6_write_27 f_6_57 rfl rfl ?_
      refine z_iload_n hX dX6_write_30 rfl ?_
      refine z_iload_n hX dX6_write_31 rfl ?_
      first | with_reducible refine z_iaddN hX dX6_write_32 ?_ | refine z_iadd hX dX6_write_32 ?_
      refine z_iconst (v := nI 3) hX dX6_write_33 rfl ?_
      first | with_reducible refine z_isubN hX dX6_write_34 (by omega) ?_ | refine z_isub hX dX6_write_34 ?_
      refine z_aload_n hX dX6_write_35 rfl ?_
      refine z_get hX dX6_write_36 f_6_57 rfl rfl ?_
      refine z_iload_n hX dX6_write_39 rfl ?_
      refine z_iload_n hX dX6_write_40 rfl ?_
      first | with_reducible refine z_iaddN hX dX6_write_41 ?_ | refine z_iadd hX dX6_write_41 ?_
      refine z_lald hX dX6_write_42 rfl (by omega) (by decide) ?_
      refine z_last (w' := [_, _, _, _, _, _, _, _, _, _, _, _, _, _, _, _, _, _, _, _]) hX dX6_write_43 rfl (by omega) (by decide) rfl ?_
      first | refine z_iincN (b := 1) (ls' := [_, _, _, _]) hX dX6_write_44 rfl rfl rfl ?_ | refine z_iinc (ls' := [_, _, _, _]) hX dX6_write_44 rfl rfl ?_
      refine z_goto (tgt := 19) hX dX6_write_47 (by decide) ?_
      refine ih (k + 1) (vp_updL sh (300 * d + k - 3) (sh (300 * d + k))) (by omega) (by omega) (by omega) (fun p => ?_)
      by_cases e0 : p = 300 * d + k - 3
      · rw [e0, pk_uLs, if_pos (by omega), hsh, if_neg (by omega), show 300 * d + k - 3 + 3 = 300 * d + k by omega]
      · rw [pk_uLn e0, hsh p]
        by_cases e2 : 300 * d ≤ p ∧ p + 3 < 300 * d + k
        · rw [if_pos e2, if_pos (by omega)]
        · rw [if_neg e2, if_neg (by omega)]
set_option maxHeartbeats 4000000 in
set_option maxRecDepth 100000 in
theorem c_X6_write (a : Nat → Nat → Int32) (b : Nat → Nat → Int64) (c : Nat → Int32) (d db mn : Nat) (hd : d < 4) (hdb : db < 9) (hmn : mn ≤ 100) (h15 : a 15 d = nI mn) (h12 : a 12 d = nI db) : ∀ l, ZC l yX6_write cX6_write 4 none 0 [.ref 0, .int (nI d)] (WM a b c) (fun r w' => r = none ∧ w' = WM (va_up a 15 (wrM (a 15) d mn)) (va_up b 16 (wrS (b 16) (b 9) (a 13 d) d db mn)) c) := by
  intro l
  refine zc_intro (oc := 6) (by decide +kernel) rfl (Nat.le_of_ble_eq_true rfl) ?_
  intro X hX hR
  refine z_norm (ls' := [_, _, _, _]) rfl rfl rfl ?_
  refine z_sipush (v := nI 300) hX dX6_write_0 rfl ?_
  refine z_iload_n hX dX6_write_3 rfl ?_
  first | with_reducible refine z_imulN hX dX6_write_4 ?_ | refine z_imul hX dX6_write_4 ?_
  refine z_istore_n (ls' := [_, _, _, _]) hX dX6_write_5 (Nat.le_of_ble_eq_true rfl) rfl ?_
  refine z_aload_n hX dX6_write_6 rfl ?_
  refine z_get hX dX6_write_7 f_6_54 rfl rfl ?_
  refine z_iload_n hX dX6_write_10 rfl ?_
  refine z_iald hX dX6_write_11 rfl (by omega) (by decide) ?_
  refine z_top h15 ?_
  refine z_bipush (v := nI 100) hX dX6_write_12 rfl ?_
  first | with_reducible refine z_icmp_neN (tgt := 60) hX dX6_write_14 (by decide) (by omega) (by omega) (fun c_14 => ?_) (fun c_14 => ?_) | refine z_icmp_ne (tgt := 60) hX dX6_write_14 (by decide) (fun c_14 => ?_) (fun c_14 => ?_)
  · -- 14 t
    refine z_iconst (v := nI 0) hX dX6_write_60 rfl ?_
    refine z_istore_n (ls' := [_, _, _, _]) hX dX6_write_61 (Nat.le_of_ble_eq_true rfl) rfl ?_
    refine lp_wr_62 hX hR a b c (a 15) (b 16) d mn db hd (by omega) hdb h15 h12 (fun sh1 e1 => ⟨rfl, ?_⟩) 4 0 (b 16) (by omega) (by omega) (fun p => by rw [if_neg (by omega)])
    have zE : wrE mn = mn := if_neg c_14
    have e2 : upd (a 15) d (nI (mn + 1)) = wrM (a 15) d mn := by
      funext p
      unfold wrM
      rw [zE]
      by_cases e : p = d
      · rw [e, pk_us, if_pos rfl]
      · rw [pk_un e, if_neg e]
    have e3 : sh1 = wrS (b 16) (b 9) (a 13 d) d db mn := by
      funext p
      rw [e1 p]
      unfold wrS
      rw [zE]
      by_cases e : 300 * d + 3 * mn ≤ p ∧ p < 300 * d + 3 * mn + 3
      · rw [if_pos e, if_pos e]
      · rw [if_neg e, if_neg e, if_neg (show ¬ (mn = 100 ∧ 300 * d ≤ p ∧ p < 300 * d + 297) by omega)]
    rw [e2, e3]
  · -- 14 f
    refine z_iconst (v := nI 3) hX dX6_write_17 rfl ?_
    refine z_istore_n (ls' := [_, _, _, _]) hX dX6_write_18 (Nat.le_of_ble_eq_true rfl) rfl ?_
    have zm : mn = 100 := by omega
    subst zm
    exact lp_wr_19 hX hR a b c d db hd hdb h15 h12 ⟨rfl, rfl⟩ 301 3 (b 16) (by omega) (by omega) (by omega) (fun p => by rw [if_neg (by omega)])
end
section
/-! ===== the reference: hours ===== -/
abbrev Hq : Type := (Nat → Int64) × (Nat → Int64) × (Nat → Int64) × (Nat → Int32)
def cyS (st : Nat → Int64) (a7 a8 : Nat → Int32) (r : Int32) (tm : Nat) (s : Nat) (q : (Nat → Int64) × (Nat → Int64)) : (Nat → Int64) × (Nat → Int64) := (cyG st q.1 s (a7 s).toNatClampNeg (a8 (24 * s + tm % 24)) r, cyT st q.1 q.2 s (a7 s).toNatClampNeg (a8 (24 * s + tm % 24)) r)
def wrQ (a12 a13 : Nat → Int32) (g : Nat → Int64) (d : Nat) (q : (Nat → Int64) × (Nat → Int32)) : (Nat → Int64) × (Nat → Int32) := (wrS q.1 g (a13 d) d (a12 d).toNatClampNeg (q.2 d).toNatClampNeg, wrM q.2 d (q.2 d).toNatClampNeg)
def hrQ (st : Nat → Int64) (a7 a8 a12 a13 : Nat → Int32) (r : Int32) (tm : Nat) (q : Hq) : Hq := ((zfold (cyS st a7 a8 r tm) 3 (q.1, q.2.1)).1, (zfold (cyS st a7 a8 r tm) 3 (q.1, q.2.1)).2, (zfold (wrQ a12 a13 (zfold (cyS st a7 a8 r tm) 3 (q.1, q.2.1)).1) 4 (q.2.2.1, q.2.2.2)).1, (zfold (wrQ a12 a13 (zfold (cyS st a7 a8 r tm) 3 (q.1, q.2.1)).1) 4 (q.2.2.1, q.2.2.2)).2)
def hrsQ (st : Nat → Int64) (a7 a8 a12 a13 : Nat → Int32) (r : Int32) (tm n : Nat) (q : Hq) : Hq := zfold (fun j q => hrQ st a7 a8 a12 a13 r (tm + j) q) n q
theorem hrsQ_s (st : Nat → Int64) (a7 a8 a12 a13 : Nat → Int32) (r : Int32) (tm n : Nat) (q : Hq) : hrsQ st a7 a8 a12 a13 r tm (n + 1) q = hrQ st a7 a8 a12 a13 r (tm + n) (hrsQ st a7 a8 a12 a13 r tm n q) := rfl
def okM (m : Nat → Int32) : Prop := ∀ d, d < 4 → ∃ e, e ≤ 100 ∧ m d = nI e
theorem okM_wr {m : Nat → Int32} (h : okM m) {d e : Nat} (he : e ≤ 100) : okM (wrM m d e) := by
  intro x hx
  unfold wrM wrE
  by_cases e1 : x = d
  · rw [if_pos e1]
    exact ⟨_, by split <;> omega, rfl⟩
  · rw [if_neg e1]
    exact h x hx
set_option maxHeartbeats 4000000 in
set_option maxRecDepth 100000 in
theorem lp_hr_40 {X : ZX} {post : Option Value → ZW → Prop} (hX : ZOK X 6 cX6_hours 5) (hR : ZRet X (some .int) post) (a : Nat → Nat → Int32) (b : Nat → Nat → Int64) (c : Nat → Int32) (x r : Int32) (k tm : Nat) (htm : tm < 2147483648) (hc : c 0 = nI tm) (h7 : ∀ s, s < 3 → ∃ hm, hm < 9 ∧ a 7 s = nI hm) (K : ∀ b1, (b1 9, b1 10) = zfold (cyS (stillF (a 1) (b 3)) (a 7) (a 8) r tm) 3 (b 9, b 10) → (∀ q, q ≠ 9 → q ≠ 10 → q ≠ 11 → b1 q = b q) → ZG X 59 [some (.ref 0), some (.int x), some (.int r), some (.int (nI k)), none] [] (WM a b1 c)) : ∀ (n s : Nat) (b1 : Nat → Nat → Int64), s ≤ 3 → 3 < s + n → (b1 9, b1 10) = zfold (cyS (stillF (a 1) (b 3)) (a 7) (a 8) r tm) s (b 9, b 10) → (∀ q, q ≠ 9 → q ≠ 10 → q ≠ 11 → b1 q = b q) → ZG X 40 [some (.ref 0), some (.int x), some (.int r), some (.int (nI k)), some (.int (nI s))] [] (WM a b1 c) := by
  intro n
  induction n with
  | zero => intro s b1 z1 z2; omega
  | succ n ih =>
    intro s b1 hs1 hs2 hq1 hq2
    refine z_iload hX dX6_hours_40 rfl ?_
    refine z_iconst (v := nI 3) hX dX6_hours_42 rfl ?_
    first | with_reducible refine z_icmp_geN (tgt := 59) hX dX6_hours_43 (by decide) (by omega) (by omega) (fun c_43 => ?_) (fun c_43 => ?_) | refine z_icmp_ge (tgt := 59) hX dX6_hours_43 (by decide) (fun c_43 => ?_) (fun c_43 => ?_)
    · -- 43 t
      have zs : s = 3 := by omega
      subst zs
      refine z_forget (ls' := [some (.ref 0), some (.int x), some (.int r), some (.int (nI k)), none]) ⟨rfl, rfl, rfl, rfl, trivial⟩ (K b1 hq1 hq2)
    · -- 43 f
      refine z_aload_n hX dX6_hours_46 rfl ?_
      refine z_iload hX dX6_hours_47 rfl ?_
      refine z_iload_n hX dX6_hours_49 rfl ?_
      obtain ⟨hm, hm1, hm2⟩ := h7 s (by omega)
      refine z_callV0 hX dX6_hours_50 mv_6_137 (c_X6_carry a b1 c s hm tm (by omega) hm1 htm hc hm2 r) (by decide) rfl rfl rfl rfl (Nat.le_of_ble_eq_true rfl) (fun r w1 hp _ => ?_)
      obtain ⟨rfl, n1, rfl⟩ := hp
      first | refine z_iincN (b := 1) (ls' := [_, _, _, _, _]) hX dX6_hours_53 rfl rfl rfl ?_ | refine z_iinc (ls' := [_, _, _, _, _]) hX dX6_hours_53 rfl rfl ?_
      refine z_goto (tgt := 40) hX dX6_hours_56 (by decide) ?_
      refine ih (s + 1) _ (by omega) (by omega) ?_ (fun q h1 h2 h3 => ?_)
      · have e3 : b1 3 = b 3 := hq2 3 (by omega) (by omega) (by omega)
        have e4 : (a 7 s).toNatClampNeg = hm := by rw [hm2, nI_clamp (by omega)]
        show (cyG (stillF (a 1) (b1 3)) (b1 9) s hm (a 8 (24 * s + tm % 24)) r, cyT (stillF (a 1) (b1 3)) (b1 9) (b1 10) s hm (a 8 (24 * s + tm % 24)) r) = cyS (stillF (a 1) (b 3)) (a 7) (a 8) r tm s (zfold (cyS (stillF (a 1) (b 3)) (a 7) (a 8) r tm) s (b 9, b 10))
        rw [← hq1]
        unfold cyS
        rw [e4, e3]
      · rw [va_up_ne _ _ h3, va_up_ne _ _ h2, va_up_ne _ _ h1]
        exact hq2 q h1 h2 h3
set_option maxHeartbeats 4000000 in
set_option maxRecDepth 100000 in
theorem lp_hr_72 {X : ZX} {post : Option Value → ZW → Prop} (hX : ZOK X 6 cX6_hours 5) (hR : ZRet X (some .int) post) (a : Nat → Nat → Int32) (b : Nat → Nat → Int64) (c : Nat → Int32) (x r : Int32) (k : Nat) (h12 : ∀ d, d < 4 → ∃ g, g < 9 ∧ a 12 d = nI g) (K : ∀ a1 b1, (b1 16, a1 15) = zfold (wrQ (a 12) (a 13) (b 9)) 4 (b 16, a 15) → okM (a1 15) → (∀ q, q ≠ 15 → a1 q = a q) → (∀ q, q ≠ 16 → b1 q = b q) → ZG X 90 [some (.ref 0), some (.int x), some (.int r), some (.int (nI k)), none] [] (WM a1 b1 c)) : ∀ (n d : Nat) (a1 : Nat → Nat → Int32) (b1 : Nat → Nat → Int64), d ≤ 4 → 4 < d + n → (b1 16, a1 15) = zfold (wrQ (a 12) (a 13) (b 9)) d (b 16, a 15) → okM (a1 15) → (∀ q, q ≠ 15 → a1 q = a q) → (∀ q, q ≠ 16 → b1 q = b q) → ZG X 72 [some (.ref 0), some (.int x), some (.int r), some (.int (nI k)), some (.int (nI d))] [] (WM a1 b1 c) := by
  intro n
  induction n with
  | zero => intro d a1 b1 z1 z2; omega
  | succ n ih =>
    intro d a1 b1 hd1 hd2 hq1 hok hqa hqb
    refine z_iload hX dX6_hours_72 rfl ?_
    refine z_iconst (v := nI 4) hX dX6_hours_74 rfl ?_
    first | with_reducible refine z_icmp_geN (tgt := 90) hX dX6_hours_75 (by decide) (by omega) (by omega) (fun c_75 => ?_) (fun c_75 => ?_) | refine z_icmp_ge (tgt := 90) hX dX6_hours_75 (by decide) (fun c_75 => ?_) (fun c_75 => ?_)
    · -- 75 t
      have zd : d = 4 := by omega
      subst zd
      refine z_forget (ls' := [some (.ref 0), some (.int x), some (.int r), some (.int (nI k)), none]) ⟨rfl, rfl, rfl, rfl, trivial⟩ (K a1 b1 hq1 hok hqa hqb)
    · -- 75 f
      refine z_aload_n hX dX6_hours_78 rfl ?_
      refine z_iload hX dX6_hours_79 rfl ?_
      obtain ⟨db, hdb1, hdb2⟩ := h12 d (by omega)
      obtain ⟨mn, hmn1, hmn2⟩ := hok d (by omega)
      refine z_callV0 hX dX6_hours_81 mv_6_141 (c_X6_write a1 b1 c d db mn (by omega) hdb1 hmn1 hmn2 (by rw [hqa 12 (by omega)]; exact hdb2)) (by decide) rfl rfl rfl rfl (Nat.le_of_ble_eq_true rfl) (fun r w1 hp _ => ?_)
      obtain ⟨rfl, rfl⟩ := hp
      first | refine z_iincN (b := 1) (ls' := [_, _, _, _, _]) hX dX6_hours_84 rfl rfl rfl ?_ | refine z_iinc (ls' := [_, _, _, _, _]) hX dX6_hours_84 rfl rfl ?_
      refine z_goto (tgt := 72) hX dX6_hours_87 (by decide) ?_
      refine ih (d + 1) _ _ (by omega) (by omega) ?_ (okM_wr hok hmn1) (fun q h1 => ?_) (fun q h1 => ?_)
      · have e4 : (a 12 d).toNatClampNeg = db := by rw [hdb2, nI_clamp (by omega)]
        have e5 : (a1 15 d).toNatClampNeg = mn := by rw [hmn2, nI_clamp (by omega)]
        show (wrS (b1 16) (b1 9) (a1 13 d) d db mn, wrM (a1 15) d mn) = wrQ (a 12) (a 13) (b 9) d (zfold (wrQ (a 12) (a 13) (b 9)) d (b 16, a 15))
        rw [← hq1, hqa 13 (by omega), hqb 9 (by omega)]
        unfold wrQ
        rw [e4, e5]
      · rw [va_up_ne _ _ h1]
        exact hqa q h1
      · rw [va_up_ne _ _ h1]
        exact hqb q h1
def hrI (a : Nat → Nat → Int32) (b : Nat → Nat → Int64) (c : Nat → Int32) (r : Int32) (tm k : Nat) (a1 : Nat → Nat → Int32) (b1 : Nat → Nat → Int64) (c1 : Nat → Int32) : Prop := (b1 9, b1 10, b1 16, a1 15) = hrsQ (stillF (a 1) (b 3)) (a 7) (a 8) (a 12) (a 13) r tm k (b 9, b 10, b 16, a 15) ∧ okM (a1 15) ∧ (∀ q, q ≠ 15 → a1 q = a q) ∧ b1 3 = b 3 ∧ c1 0 = nI (tm + k) ∧ c1 1 = c 1 ∧ c1 2 = c 2
set_option maxHeartbeats 4000000 in
set_option maxRecDepth 100000 in
theorem lp_hr_32 {X : ZX} {post : Option Value → ZW → Prop} (hX : ZOK X 6 cX6_hours 5) (hR : ZRet X (some .int) post) (a : Nat → Nat → Int32) (b : Nat → Nat → Int64) (c : Nat → Int32) (r : Int32) (tm nh : Nat) (hnh : nh ≤ 50) (htm : tm + 50 < 2147483648) (h7 : ∀ s, s < 3 → ∃ hm, hm < 9 ∧ a 7 s = nI hm) (h12 : ∀ d, d < 4 → ∃ g, g < 9 ∧ a 12 d = nI g) (hpost : ∀ a1 b1 c1, hrI a b c r tm nh a1 b1 c1 → post (some (.int (c1 0))) (WM a1 b1 c1)) : ∀ (n k : Nat) (a1 : Nat → Nat → Int32) (b1 : Nat → Nat → Int64) (c1 : Nat → Int32), k ≤ nh → nh < k + n → hrI a b c r tm k a1 b1 c1 → ZG X 32 [some (.ref 0), some (.int (nI nh)), some (.int r), some (.int (nI k)), none] [] (WM a1 b1 c1) := by
  intro n
  induction n with
  | zero => intro k a1 b1 c1 z1 z2; omega
  | succ n ih =>
    intro k a1 b1 c1 hk1 hk2 hI
    refine z_iload_n hX dX6_hours_32 rfl ?_
    refine z_iload_n hX dX6_hours_33 rfl ?_
    first | with_reducible refine z_icmp_geN (tgt := 96) hX dX6_hours_34 (by decide) (by omega) (by omega) (fun c_34 => ?_) (fun c_34 => ?_) | refine z_icmp_ge (tgt := 96) hX dX6_hours_34 (by decide) (fun c_34 => ?_) (fun c_34 => ?_)
    · -- 34 t
      have zk : k = nh := by omega
      subst zk
      refine z_aload_n hX dX6_hours_96 rfl ?_
      refine z_get hX dX6_hours_97 f_6_123 rfl rfl ?_
      refine z_iret hX hR dX6_hours_100 ?_
      exact hpost a1 b1 c1 hI
    · -- 34 f
      refine z_iconst (v := nI 0) hX dX6_hours_37 rfl ?_
      refine z_istore (ls' := [_, _, _, _, _]) hX dX6_hours_38 (Nat.le_of_ble_eq_true rfl) rfl ?_
      obtain ⟨q1, q2, q3, q4, q5, q6, q7⟩ := hI
      refine lp_hr_40 hX hR a1 b1 c1 _ r k (tm + k) (by omega) q5 (fun s hs => by rw [q3 7 (by omega)]; exact h7 s hs) (fun b2 e1 e2 => ?_) 4 0 b1 (by omega) (by omega) rfl (fun q _ _ _ => rfl)
      refine z_aload_n hX dX6_hours_59 rfl ?_
      refine z_dup hX dX6_hours_60 rfl ?_
      refine z_get hX dX6_hours_61 f_6_123 rfl rfl ?_
      refine z_top q5 ?_
      refine z_iconst (v := nI 1) hX dX6_hours_64 rfl ?_
      first | with_reducible refine z_iaddN hX dX6_hours_65 ?_ | refine z_iadd hX dX6_hours_65 ?_
      refine z_puti (fs' := [_, _, _, _, _, _, _, _, _, _, _, _, _, _, _, _, _, _, _, _, _, _]) (w' := [_, _, _, _, _, _, _, _, _, _, _, _, _, _, _, _, _, _, _, _]) hX dX6_hours_66 p_6_123 rfl (Nat.le_of_ble_eq_true rfl) rfl rfl ?_
      refine z_iconst (v := nI 0) hX dX6_hours_69 rfl ?_
      refine z_istore (ls' := [_, _, _, _, _]) hX dX6_hours_70 (Nat.le_of_ble_eq_true rfl) rfl ?_
      refine lp_hr_72 hX hR a1 b2 (va_up c1 0 (nI (tm + k + 1))) _ r k (fun d hd => by rw [q3 12 (by omega)]; exact h12 d hd) (fun a3 b3 e3 e4 e5 e6 => ?_) 5 0 a1 b2 (by omega) (by omega) rfl q2 (fun q _ => rfl) (fun q _ => rfl)
      first | refine z_iincN (b := 1) (ls' := [_, _, _, _, _]) hX dX6_hours_90 rfl rfl rfl ?_ | refine z_iinc (ls' := [_, _, _, _, _]) hX dX6_hours_90 rfl rfl ?_
      refine z_goto (tgt := 32) hX dX6_hours_93 (by decide) ?_
      refine ih (k + 1) a3 b3 _ (by omega) (by omega) ⟨?_, e4, fun q hq => by rw [e5 q hq, q3 q hq], by rw [e6 3 (by omega), e2 3 (by omega) (by omega) (by omega), q4], rfl, q6, q7⟩
      rw [hrsQ_s, ← q1]
      have g1 : b3 9 = b2 9 := e6 9 (by omega)
      have g2 : b3 10 = b2 10 := e6 10 (by omega)
      have g3 : b2 16 = b1 16 := e2 16 (by omega) (by omega) (by omega)
      have w1 : a1 1 = a 1 := q3 1 (by omega)
      have w7 : a1 7 = a 7 := q3 7 (by omega)
      have w8 : a1 8 = a 8 := q3 8 (by omega)
      have w12 : a1 12 = a 12 := q3 12 (by omega)
      have w13 : a1 13 = a 13 := q3 13 (by omega)
      rw [w1, w7, w8, q4] at e1
      rw [w12, w13, g3] at e3
      unfold hrQ
      dsimp only
      rw [← e1]
      dsimp only
      rw [← e3, g1, g2]
set_option maxHeartbeats 4000000 in
set_option maxRecDepth 100000 in
theorem c_X6_hours (a : Nat → Nat → Int32) (b : Nat → Nat → Int64) (c : Nat → Int32) (hw : ∀ k, k < 24 → zB (a 1 k) (-100) 100) (hb9 : b 3 9 = 0) (tm : Nat) (htm : tm + 50 < 2147483648) (hc : c 0 = nI tm) (hok : okM (a 15)) (h7 : ∀ s, s < 3 → ∃ hm, hm < 9 ∧ a 7 s = nI hm) (h12 : ∀ d, d < 4 → ∃ g, g < 9 ∧ a 12 d = nI g) (x r : Int32) : ∀ l, ZC l yX6_hours cX6_hours 5 (some .int) 5 [.ref 0, .int x, .int r] (WM a b c) (fun r0 w' => (¬ (zB x 1 50 ∧ zB r 0 1000) ∧ r0 = some (.int (-1)) ∧ w' = WM a b c) ∨ ∃ nh h1 a1 b1 c1, 1 ≤ nh ∧ nh ≤ 50 ∧ x = nI nh ∧ zB r 0 1000 ∧ (∀ q, q < 10 → h1 q = HT (a 1) q) ∧ hrI a (va_up b 3 h1) c r tm nh a1 b1 c1 ∧ r0 = some (.int (nI (tm + nh))) ∧ w' = WM a1 b1 c1) := by
  intro l
  refine zc_intro (oc := 6) (by decide +kernel) rfl (Nat.le_of_ble_eq_true rfl) ?_
  intro X hX hR
  refine z_norm (ls' := [_, _, _, _, _]) rfl rfl rfl ?_
  refine z_iload_n hX dX6_hours_0 rfl ?_
  first | with_reducible refine z_i2lN hX dX6_hours_1 (by omega) ?_ | refine z_i2l hX dX6_hours_1 ?_
  refine z_lconst (v := 1) hX dX6_hours_2 rfl ?_
  refine z_ldc2 hX dX6_hours_3 k_6_135 ?_
  refine z_callS0 hX dX6_hours_6 ms_6_71 (c_X6_in _ _ _ _) (by decide) rfl rfl (Nat.le_of_ble_eq_true rfl) (fun r w1 hp _ => ?_)
  obtain ⟨rfl, hp⟩ := hp
  rcases zinB (a := 1) (b := 50) rfl rfl hp with ⟨hB1, rfl⟩ | ⟨hnB1, rfl⟩
  · -- 6 T
    refine z_if_eq (tgt := 24) hX dX6_hours_9 (by decide) (fun c => absurd c (by decide)) (fun _ => ?_)
    refine z_iload_n hX dX6_hours_12 rfl ?_
    first | with_reducible refine z_i2lN hX dX6_hours_13 (by omega) ?_ | refine z_i2l hX dX6_hours_13 ?_
    refine z_lconst (v := 0) hX dX6_hours_14 rfl ?_
    refine z_ldc2 hX dX6_hours_15 k_6_127 ?_
    refine z_callS0 hX dX6_hours_18 ms_6_71 (c_X6_in _ _ _ _) (by decide) rfl rfl (Nat.le_of_ble_eq_true rfl) (fun r w1 hp _ => ?_)
    obtain ⟨rfl, hp⟩ := hp
    rcases zinB (a := 0) (b := 1000) rfl rfl hp with ⟨hB, rfl⟩ | ⟨hnB, rfl⟩
    · -- 18 T
      refine z_if_ne (tgt := 26) hX dX6_hours_21 (by decide) (fun _ => ?_) (fun c => absurd c (by decide))
      refine z_aload_n hX dX6_hours_26 rfl ?_
      refine z_callV0 hX dX6_hours_27 mv_6_105 (c_X6_findHeights a b c hw) (by decide) rfl rfl rfl rfl (Nat.le_of_ble_eq_true rfl) (fun r w1 hp _ => ?_)
      obtain ⟨rfl, m, h1, rfl, e1⟩ := hp
      have e2 : ∀ q, q < 10 → h1 q = HT (a 1) q := fun q hq => by
        rw [e1 q]
        unfold HT
        by_cases e : q < 9
        · rw [if_pos e, if_pos e]
        · rw [if_neg e, if_neg e, show q = 9 by omega, hb9]
      obtain ⟨nh, hn1, hn2, rfl⟩ : ∃ nh : Nat, 1 ≤ nh ∧ nh ≤ 50 ∧ x = nI nh := by
        have h5 := hB1.1
        have h6 := hB1.2
        refine ⟨x.toInt.toNat, by omega, by omega, ?_⟩
        rw [← Int32.toInt_inj, nI_toInt (by omega)]
        omega
      refine z_iconst (v := nI 0) hX dX6_hours_30 rfl ?_
      refine z_istore_n (ls' := [_, _, _, _, _]) hX dX6_hours_31 (Nat.le_of_ble_eq_true rfl) rfl ?_
      exact lp_hr_32 hX hR a (va_up b 3 h1) c r tm nh hn2 htm h7 h12 (fun a1 b1 c1 hI => Or.inr ⟨nh, h1, a1, b1, c1, hn1, hn2, rfl, hB, e2, hI, by rw [hI.2.2.2.2.1], rfl⟩) 51 0 a (va_up (va_up b 2 m) 3 h1) c (by omega) (by omega) ⟨rfl, hok, fun _ _ => rfl, rfl, hc, rfl, rfl⟩
    · -- 18 F
      refine z_if_ne (tgt := 26) hX dX6_hours_21 (by decide) (fun c => absurd c (by decide)) (fun _ => ?_)
      refine z_iconst (v := -1) hX dX6_hours_24 rfl ?_
      refine z_iret hX hR dX6_hours_25 ?_
      first | exact Or.inl ⟨fun q => hnB1 q.1, rfl, rfl⟩ | exact Or.inl ⟨fun q => hnB q.2, rfl, rfl⟩
  · -- 6 F
    refine z_if_eq (tgt := 24) hX dX6_hours_9 (by decide) (fun _ => ?_) (fun c => absurd c (by decide))
    refine z_iconst (v := -1) hX dX6_hours_24 rfl ?_
    refine z_iret hX hR dX6_hours_25 ?_
    first | exact Or.inl ⟨fun q => hnB1 q.1, rfl, rfl⟩ | exact Or.inl ⟨fun q => hnB q.2, rfl, rfl⟩
end
section
/-! ===== the reference: what the doors have kept ===== -/
def nuF (sh : Nat → Int64) (d k : Nat) : Int64 := if 0 ≤ sh (300 * d + 3 * k) then sh (300 * d + 3 * k) + sh (300 * d + 3 * k + 1) + sh (300 * d + 3 * k + 2) else -1
def toldF (sh : Nat → Int64) (d n : Nat) : Nat := zfold (fun k t => t + if 0 ≤ nuF sh d k then 1 else 0) n 0
theorem toldF_s (sh : Nat → Int64) (d n : Nat) : toldF sh d (n + 1) = toldF sh d n + if 0 ≤ nuF sh d n then 1 else 0 := rfl
theorem toldF_le (sh : Nat → Int64) (d : Nat) : ∀ n, toldF sh d n ≤ n
  | 0 => Nat.le_refl 0
  | n + 1 => by
    have := toldF_le sh d n
    rw [toldF_s]
    split <;> omega
def sumF (sh : Nat → Int64) (d n : Nat) : Int64 := zfold (fun k t => t + if 0 ≤ nuF sh d k then nuF sh d k else 0) n 0
theorem sumF_s (sh : Nat → Int64) (d n : Nat) : sumF sh d (n + 1) = sumF sh d n + if 0 ≤ nuF sh d n then nuF sh d n else 0 := rfl
theorem lN_ne {n : Nat} (h0 : ¬ n = 0) (h : n < 2147483648) : ¬ lN n = 0 := by
  intro e
  have := (lN_eq (a := n) (b := 0) h (by decide)).mp e
  omega
theorem zinS2 {x : Int32} {n : Nat} {r : Option Value} (hn : n ≤ 100) (hp : (0 ≤ x.toInt64 ∧ x.toInt64 ≤ (nI n - nI 1).toInt64 ∧ r = some (.int (nI 1))) ∨ (¬ (0 ≤ x.toInt64 ∧ x.toInt64 ≤ (nI n - nI 1).toInt64) ∧ r = some (.int (nI 0)))) : (zJ x n ∧ r = some (.int (nI 1))) ∨ (¬ zJ x n ∧ r = some (.int (nI 0))) := by
  refine zinJ ?_ (by omega) hp
  rw [Int32.toInt_toInt64, pk_sub_toInt (by omega) (by omega)]
  omega
set_option maxHeartbeats 4000000 in
set_option maxRecDepth 100000 in
theorem c_X6_numberAt (a : Nat → Nat → Int32) (b : Nat → Nat → Int64) (c : Nat → Int32) (d k : Nat) (hd : d < 4) (hk : k < 100) : ∀ l, ZC l yX6_numberAt cX6_numberAt 4 (some .long) 0 [.ref 0, .int (nI d), .int (nI k)] (WM a b c) (fun r w' => w' = WM a b c ∧ r = some (.long (nuF (b 16) d k))) := by
  intro l
  refine zc_intro (oc := 6) (by decide +kernel) rfl (Nat.le_of_ble_eq_true rfl) ?_
  intro X hX hR
  refine z_norm (ls' := [_, _, _, _]) rfl rfl rfl ?_
  refine z_sipush (v := nI 300) hX dX6_numberAt_0 rfl ?_
  refine z_iload_n hX dX6_numberAt_3 rfl ?_
  first | with_reducible refine z_imulN hX dX6_numberAt_4 ?_ | refine z_imul hX dX6_numberAt_4 ?_
  refine z_iconst (v := nI 3) hX dX6_numberAt_5 rfl ?_
  refine z_iload_n hX dX6_numberAt_6 rfl ?_
  first | with_reducible refine z_imulN hX dX6_numberAt_7 ?_ | refine z_imul hX dX6_numberAt_7 ?_
  first | with_reducible refine z_iaddN hX dX6_numberAt_8 ?_ | refine z_iadd hX dX6_numberAt_8 ?_
  refine z_istore_n (ls' := [_, _, _, _]) hX dX6_numberAt_9 (Nat.le_of_ble_eq_true rfl) rfl ?_
  refine z_aload_n hX dX6_numberAt_10 rfl ?_
  refine z_get hX dX6_numberAt_11 f_6_57 rfl rfl ?_
  refine z_iload_n hX dX6_numberAt_14 rfl ?_
  refine z_lald hX dX6_numberAt_15 rfl (by omega) (by decide) ?_
  refine z_lconst (v := 0) hX dX6_numberAt_16 rfl ?_
  refine z_lcmp hX dX6_numberAt_17 ?_
  refine z_lif_ge (tgt := 27) hX dX6_numberAt_18 (by decide) (fun c_18 => ?_) (fun c_18 => ?_)
  · -- 18 t
    refine z_aload_n hX dX6_numberAt_27 rfl ?_
    refine z_get hX dX6_numberAt_28 f_6_57 rfl rfl ?_
    refine z_iload_n hX dX6_numberAt_31 rfl ?_
    refine z_lald hX dX6_numberAt_32 rfl (by omega) (by decide) ?_
    refine z_aload_n hX dX6_numberAt_33 rfl ?_
    refine z_get hX dX6_numberAt_34 f_6_57 rfl rfl ?_
    refine z_iload_n hX dX6_numberAt_37 rfl ?_
    refine z_iconst (v := nI 1) hX dX6_numberAt_38 rfl ?_
    first | with_reducible refine z_iaddN hX dX6_numberAt_39 ?_ | refine z_iadd hX dX6_numberAt_39 ?_
    refine z_lald hX dX6_numberAt_40 rfl (by omega) (by decide) ?_
    refine z_ladd hX dX6_numberAt_41 ?_
    refine z_aload_n hX dX6_numberAt_42 rfl ?_
    refine z_get hX dX6_numberAt_43 f_6_57 rfl rfl ?_
    refine z_iload_n hX dX6_numberAt_46 rfl ?_
    refine z_iconst (v := nI 2) hX dX6_numberAt_47 rfl ?_
    first | with_reducible refine z_iaddN hX dX6_numberAt_48 ?_ | refine z_iadd hX dX6_numberAt_48 ?_
    refine z_lald hX dX6_numberAt_49 rfl (by omega) (by decide) ?_
    refine z_ladd hX dX6_numberAt_50 ?_
    refine z_lret hX hR dX6_numberAt_51 ?_
    refine ⟨rfl, ?_⟩
    unfold nuF
    rw [if_pos c_18]
  · -- 18 f
    refine z_ldc2 hX dX6_numberAt_21 k_6_99 ?_
    refine z_goto (tgt := 51) hX dX6_numberAt_24 (by decide) ?_
    refine z_lret hX hR dX6_numberAt_51 ?_
    refine ⟨rfl, ?_⟩
    unfold nuF
    rw [if_neg (Int64.not_le.mpr c_18)]
set_option maxHeartbeats 4000000 in
set_option maxRecDepth 100000 in
theorem lp_told_4 {X : ZX} {post : Option Value → ZW → Prop} (hX : ZOK X 6 cX6_told 1) (hR : ZRet X (some .int) post) (a : Nat → Nat → Int32) (b : Nat → Nat → Int64) (c : Nat → Int32) (d mn : Nat) (hd : d < 4) (hmn : mn ≤ 100) (h15 : a 15 d = nI mn) (hpost : post (some (.int (nI (toldF (b 16) d mn)))) (WM a b c)) : ∀ (n k : Nat), k ≤ mn → mn < k + n → ZG X 4 [some (.ref 0), some (.int (nI d)), some (.int (nI (toldF (b 16) d k))), some (.int (nI k))] [] (WM a b c) := by
  intro n
  induction n with
  | zero => intro k z1 z2; omega
  | succ n ih =>
    intro k hk1 hk2
    refine z_iload_n hX dX6_told_4 rfl ?_
    refine z_aload_n hX dX6_told_5 rfl ?_
    refine z_get hX dX6_told_6 f_6_54 rfl rfl ?_
    refine z_iload_n hX dX6_told_9 rfl ?_
    refine z_iald hX dX6_told_10 rfl (by omega) (by decide) ?_
    refine z_top h15 ?_
    first | with_reducible refine z_icmp_geN (tgt := 39) hX dX6_told_11 (by decide) (by omega) (by omega) (fun c_11 => ?_) (fun c_11 => ?_) | refine z_icmp_ge (tgt := 39) hX dX6_told_11 (by decide) (fun c_11 => ?_) (fun c_11 => ?_)
    · -- 11 t
      have zk : k = mn := by omega
      subst zk
      refine z_iload_n hX dX6_told_39 rfl ?_
      refine z_iret hX hR dX6_told_40 ?_
      exact hpost
    · -- 11 f
      have ih2 := ih (k + 1) (by omega) (by omega)
      rw [toldF_s] at ih2
      refine z_iload_n hX dX6_told_14 rfl ?_
      refine z_aload_n hX dX6_told_15 rfl ?_
      refine z_iload_n hX dX6_told_16 rfl ?_
      refine z_iload_n hX dX6_told_17 rfl ?_
      refine z_callV0 hX dX6_told_18 mv_6_145 (c_X6_numberAt a b c d k (by omega) (by omega)) (by decide) rfl rfl rfl rfl (Nat.le_of_ble_eq_true rfl) (fun r w1 hp _ => ?_)
      obtain ⟨rfl, rfl⟩ := hp
      refine z_lconst (v := 0) hX dX6_told_21 rfl ?_
      refine z_lcmp hX dX6_told_22 ?_
      refine z_lif_ge (tgt := 30) hX dX6_told_23 (by decide) (fun c_23 => ?_) (fun c_23 => ?_)
      · -- 23 t
        refine z_iconst (v := nI 1) hX dX6_told_30 rfl ?_
        first | with_reducible refine z_iaddN hX dX6_told_31 ?_ | refine z_iadd hX dX6_told_31 ?_
        refine z_istore_n (ls' := [_, _, _, _]) hX dX6_told_32 (Nat.le_of_ble_eq_true rfl) rfl ?_
        first | refine z_iincN (b := 1) (ls' := [_, _, _, _]) hX dX6_told_33 rfl rfl rfl ?_ | refine z_iinc (ls' := [_, _, _, _]) hX dX6_told_33 rfl rfl ?_
        refine z_goto (tgt := 4) hX dX6_told_36 (by decide) ?_
        rw [if_pos c_23] at ih2
        exact ih2
      · -- 23 f
        refine z_iconst (v := nI 0) hX dX6_told_26 rfl ?_
        refine z_goto (tgt := 31) hX dX6_told_27 (by decide) ?_
        first | with_reducible refine z_iaddN hX dX6_told_31 ?_ | refine z_iadd hX dX6_told_31 ?_
        refine z_istore_n (ls' := [_, _, _, _]) hX dX6_told_32 (Nat.le_of_ble_eq_true rfl) rfl ?_
        first | refine z_iincN (b := 1) (ls' := [_, _, _, _]) hX dX6_told_33 rfl rfl rfl ?_ | refine z_iinc (ls' := [_, _, _, _]) hX dX6_told_33 rfl rfl ?_
        refine z_goto (tgt := 4) hX dX6_told_36 (by decide) ?_
        rw [if_neg (Int64.not_le.mpr c_23)] at ih2
        exact ih2
set_option maxHeartbeats 4000000 in
set_option maxRecDepth 100000 in
theorem c_X6_told (a : Nat → Nat → Int32) (b : Nat → Nat → Int64) (c : Nat → Int32) (d mn : Nat) (hd : d < 4) (hmn : mn ≤ 100) (h15 : a 15 d = nI mn) : ∀ l, ZC l yX6_told cX6_told 4 (some .int) 1 [.ref 0, .int (nI d)] (WM a b c) (fun r w' => w' = WM a b c ∧ r = some (.int (nI (toldF (b 16) d mn)))) := by
  intro l
  refine zc_intro (oc := 6) (by decide +kernel) rfl (Nat.le_of_ble_eq_true rfl) ?_
  intro X hX hR
  refine z_norm (ls' := [_, _, _, _]) rfl rfl rfl ?_
  refine z_iconst (v := nI 0) hX dX6_told_0 rfl ?_
  refine z_istore_n (ls' := [_, _, _, _]) hX dX6_told_1 (Nat.le_of_ble_eq_true rfl) rfl ?_
  refine z_iconst (v := nI 0) hX dX6_told_2 rfl ?_
  refine z_istore_n (ls' := [_, _, _, _]) hX dX6_told_3 (Nat.le_of_ble_eq_true rfl) rfl ?_
  exact lp_told_4 hX hR a b c d mn hd hmn h15 ⟨rfl, rfl⟩ (mn + 1) 0 (by omega) (by omega)
set_option maxHeartbeats 4000000 in
set_option maxRecDepth 100000 in
theorem c_X6_kept (a : Nat → Nat → Int32) (b : Nat → Nat → Int64) (c : Nat → Int32) (hok : okM (a 15)) (x y : Int32) : ∀ l, ZC l yX6_kept cX6_kept 3 (some .int) 2 [.ref 0, .int x, .int y] (WM a b c) (fun r w' => w' = WM a b c ∧ ((¬ (zJ x 4 ∧ zJ y 2) ∧ r = some (.int (-1))) ∨ ∃ d l mn, d < 4 ∧ l < 2 ∧ mn ≤ 100 ∧ x = nI d ∧ y = nI l ∧ a 15 d = nI mn ∧ r = some (.int (nI (if l = 0 then mn else toldF (b 16) d mn))))) := by
  intro l
  refine zc_intro (oc := 6) (by decide +kernel) rfl (Nat.le_of_ble_eq_true rfl) ?_
  intro X hX hR
  refine z_norm (ls' := [_, _, _]) rfl rfl rfl ?_
  refine z_iload_n hX dX6_kept_0 rfl ?_
  refine z_callS0 hX dX6_kept_1 ms_6_131 (c_X6_isDoor _ _) (by decide) rfl rfl (Nat.le_of_ble_eq_true rfl) (fun r w1 hp _ => ?_)
  obtain ⟨rfl, ⟨⟨d, hd, rfl⟩, rfl⟩ | ⟨hn_d, rfl⟩⟩ := hp
  · -- 1 T
    obtain ⟨mn, hmn, h15⟩ := hok d hd
    refine z_if_eq (tgt := 17) hX dX6_kept_4 (by decide) (fun c => absurd c (by decide)) (fun _ => ?_)
    refine z_iload_n hX dX6_kept_7 rfl ?_
    first | with_reducible refine z_i2lN hX dX6_kept_8 (by omega) ?_ | refine z_i2l hX dX6_kept_8 ?_
    refine z_lconst (v := 0) hX dX6_kept_9 rfl ?_
    refine z_lconst (v := 1) hX dX6_kept_10 rfl ?_
    refine z_callS0 hX dX6_kept_11 ms_6_71 (c_X6_in _ _ _ _) (by decide) rfl rfl (Nat.le_of_ble_eq_true rfl) (fun r w1 hp _ => ?_)
    obtain ⟨rfl, hp⟩ := hp
    rcases zinJ (n := 2) rfl (by decide) hp with ⟨⟨l, hl, rfl⟩, rfl⟩ | ⟨hn_l, rfl⟩
    · -- 11 T
      refine z_if_ne (tgt := 21) hX dX6_kept_14 (by decide) (fun _ => ?_) (fun c => absurd c (by decide))
      refine z_iload_n hX dX6_kept_21 rfl ?_
      refine z_if_ne (tgt := 34) hX dX6_kept_22 (by decide) (fun c_22 => ?_) (fun c_22 => ?_)
      · -- 22 t
        have c_22 : ¬ l = 0 := fun q => c_22 (by rw [q]; rfl)
        refine z_aload_n hX dX6_kept_34 rfl ?_
        refine z_iload_n hX dX6_kept_35 rfl ?_
        refine z_callV0 hX dX6_kept_36 mv_6_151 (c_X6_told a b c d mn hd hmn h15) (by decide) rfl rfl rfl rfl (Nat.le_of_ble_eq_true rfl) (fun r w1 hp _ => ?_)
        obtain ⟨rfl, rfl⟩ := hp
        refine z_iret hX hR dX6_kept_39 ?_
        exact ⟨rfl, Or.inr ⟨d, l, mn, hd, hl, hmn, rfl, rfl, h15, by rw [if_neg c_22]⟩⟩
      · -- 22 f
        have c_22 : l = 0 := (nI_eq (by omega) (by omega)).mp c_22
        refine z_aload_n hX dX6_kept_25 rfl ?_
        refine z_get hX dX6_kept_26 f_6_54 rfl rfl ?_
        refine z_iload_n hX dX6_kept_29 rfl ?_
        refine z_iald hX dX6_kept_30 rfl (by omega) (by decide) ?_
        refine z_top h15 ?_
        refine z_goto (tgt := 39) hX dX6_kept_31 (by decide) ?_
        refine z_iret hX hR dX6_kept_39 ?_
        exact ⟨rfl, Or.inr ⟨d, l, mn, hd, hl, hmn, rfl, rfl, h15, by rw [if_pos c_22]⟩⟩
    · -- 11 F
      refine z_if_ne (tgt := 21) hX dX6_kept_14 (by decide) (fun c => absurd c (by decide)) (fun _ => ?_)
      refine z_iconst (v := -1) hX dX6_kept_17 rfl ?_
      refine z_goto (tgt := 39) hX dX6_kept_18 (by decide) ?_
      refine z_iret hX hR dX6_kept_39 ?_
      exact ⟨rfl, Or.inl ⟨fun q => hn_l q.2, rfl⟩⟩
  · -- 1 F
    refine z_if_eq (tgt := 17) hX dX6_kept_4 (by decide) (fun _ => ?_) (fun c => absurd c (by decide))
    refine z_iconst (v := -1) hX dX6_kept_17 rfl ?_
    refine z_goto (tgt := 39) hX dX6_kept_18 (by decide) ?_
    refine z_iret hX hR dX6_kept_39 ?_
    exact ⟨rfl, Or.inl ⟨fun q => hn_d q.1, rfl⟩⟩
set_option maxHeartbeats 4000000 in
set_option maxRecDepth 100000 in
theorem lp_mean_22 {X : ZX} {post : Option Value → ZW → Prop} (hX : ZOK X 6 cX6_mean 2) (hR : ZRet X (some .long) post) (a : Nat → Nat → Int32) (b : Nat → Nat → Int64) (c : Nat → Int32) (d mn : Nat) (hd : d < 4) (hmn : mn ≤ 100) (h15 : a 15 d = nI mn) (tn : Nat) (htn : tn ≤ 100) (hpost : post (some (.long (if tn = 0 then -4 else sumF (b 16) d mn / lN tn))) (WM a b c)) : ∀ (n k : Nat), k ≤ mn → mn < k + n → ZG X 22 [some (.ref 0), some (.int (nI d)), some (.int (nI tn)), some (.long (sumF (b 16) d k)), none, some (.int (nI k)), none, none] [] (WM a b c) := by
  intro n
  induction n with
  | zero => intro k z1 z2; omega
  | succ n ih =>
    intro k hk1 hk2
    refine z_iload hX dX6_mean_22 rfl ?_
    refine z_aload_n hX dX6_mean_24 rfl ?_
    refine z_get hX dX6_mean_25 f_6_54 rfl rfl ?_
    refine z_iload_n hX dX6_mean_28 rfl ?_
    refine z_iald hX dX6_mean_29 rfl (by omega) (by decide) ?_
    refine z_top h15 ?_
    first | with_reducible refine z_icmp_geN (tgt := 64) hX dX6_mean_30 (by decide) (by omega) (by omega) (fun c_30 => ?_) (fun c_30 => ?_) | refine z_icmp_ge (tgt := 64) hX dX6_mean_30 (by decide) (fun c_30 => ?_) (fun c_30 => ?_)
    · -- 30 t
      have zk : k = mn := by omega
      subst zk
      refine z_iload_n hX dX6_mean_64 rfl ?_
      refine z_if_ne (tgt := 74) hX dX6_mean_65 (by decide) (fun c_65 => ?_) (fun c_65 => ?_)
      · -- 65 t
        have c_65 : ¬ tn = 0 := fun q => c_65 (by rw [q]; rfl)
        rw [if_neg c_65] at hpost
        refine z_lload_n hX dX6_mean_74 rfl ?_
        refine z_iload_n hX dX6_mean_75 rfl ?_
        first | with_reducible refine z_i2lN hX dX6_mean_76 (by omega) ?_ | refine z_i2l hX dX6_mean_76 ?_
        refine z_ldiv hX dX6_mean_77 (lN_ne c_65 (by omega)) ?_
        refine z_lret hX hR dX6_mean_78 ?_
        exact hpost
      · -- 65 f
        have c_65 : tn = 0 := (nI_eq (by omega) (by omega)).mp c_65
        rw [if_pos c_65] at hpost
        refine z_ldc2 hX dX6_mean_68 k_6_149 ?_
        refine z_goto (tgt := 78) hX dX6_mean_71 (by decide) ?_
        refine z_lret hX hR dX6_mean_78 ?_
        exact hpost
    · -- 30 f
      have ih2 := ih (k + 1) (by omega) (by omega)
      rw [sumF_s] at ih2
      refine z_aload_n hX dX6_mean_33 rfl ?_
      refine z_iload_n hX dX6_mean_34 rfl ?_
      refine z_iload hX dX6_mean_35 rfl ?_
      refine z_callV0 hX dX6_mean_37 mv_6_145 (c_X6_numberAt a b c d k (by omega) (by omega)) (by decide) rfl rfl rfl rfl (Nat.le_of_ble_eq_true rfl) (fun r w1 hp _ => ?_)
      obtain ⟨rfl, rfl⟩ := hp
      refine z_lstore (ls' := [_, _, _, _, _, _, _, _]) hX dX6_mean_40 (Nat.le_of_ble_eq_true rfl) rfl ?_
      refine z_lload_n hX dX6_mean_42 rfl ?_
      refine z_lload hX dX6_mean_43 rfl ?_
      refine z_lconst (v := 0) hX dX6_mean_45 rfl ?_
      refine z_lcmp hX dX6_mean_46 ?_
      refine z_lif_ge (tgt := 54) hX dX6_mean_47 (by decide) (fun c_47 => ?_) (fun c_47 => ?_)
      · -- 47 t
        refine z_lload hX dX6_mean_54 rfl ?_
        refine z_ladd hX dX6_mean_56 ?_
        refine z_lstore_n (ls' := [_, _, _, _, _, _, _, _]) hX dX6_mean_57 (Nat.le_of_ble_eq_true rfl) rfl ?_
        first | refine z_iincN (b := 1) (ls' := [_, _, _, _, _, _, _, _]) hX dX6_mean_58 rfl rfl rfl ?_ | refine z_iinc (ls' := [_, _, _, _, _, _, _, _]) hX dX6_mean_58 rfl rfl ?_
        refine z_goto (tgt := 22) hX dX6_mean_61 (by decide) ?_
        rw [if_pos c_47] at ih2
        refine z_forget (ls' := [some (.ref 0), some _, some _, some _, none, some _, none, none]) ⟨rfl, rfl, rfl, rfl, rfl, trivial⟩ ih2
      · -- 47 f
        refine z_lconst (v := 0) hX dX6_mean_50 rfl ?_
        refine z_goto (tgt := 56) hX dX6_mean_51 (by decide) ?_
        refine z_ladd hX dX6_mean_56 ?_
        refine z_lstore_n (ls' := [_, _, _, _, _, _, _, _]) hX dX6_mean_57 (Nat.le_of_ble_eq_true rfl) rfl ?_
        first | refine z_iincN (b := 1) (ls' := [_, _, _, _, _, _, _, _]) hX dX6_mean_58 rfl rfl rfl ?_ | refine z_iinc (ls' := [_, _, _, _, _, _, _, _]) hX dX6_mean_58 rfl rfl ?_
        refine z_goto (tgt := 22) hX dX6_mean_61 (by decide) ?_
        rw [if_neg (Int64.not_le.mpr c_47)] at ih2
        refine z_forget (ls' := [some (.ref 0), some _, some _, some _, none, some _, none, none]) ⟨rfl, rfl, rfl, rfl, rfl, trivial⟩ ih2
set_option maxHeartbeats 4000000 in
set_option maxRecDepth 100000 in
theorem c_X6_mean (a : Nat → Nat → Int32) (b : Nat → Nat → Int64) (c : Nat → Int32) (hok : okM (a 15)) (x : Int32) : ∀ l, ZC l yX6_mean cX6_mean 8 (some .long) 2 [.ref 0, .int x] (WM a b c) (fun r w' => w' = WM a b c ∧ ((¬ zJ x 4 ∧ r = some (.long (-1))) ∨ ∃ d mn, d < 4 ∧ mn ≤ 100 ∧ x = nI d ∧ a 15 d = nI mn ∧ r = some (.long (if toldF (b 16) d mn = 0 then -4 else sumF (b 16) d mn / lN (toldF (b 16) d mn))))) := by
  intro l
  refine zc_intro (oc := 6) (by decide +kernel) rfl (Nat.le_of_ble_eq_true rfl) ?_
  intro X hX hR
  refine z_norm (ls' := [_, _, _, _, _, _, _, _]) rfl rfl rfl ?_
  refine z_iload_n hX dX6_mean_0 rfl ?_
  refine z_callS0 hX dX6_mean_1 ms_6_131 (c_X6_isDoor _ _) (by decide) rfl rfl (Nat.le_of_ble_eq_true rfl) (fun r w1 hp _ => ?_)
  obtain ⟨rfl, ⟨⟨d, hd, rfl⟩, rfl⟩ | ⟨hn_d, rfl⟩⟩ := hp
  · -- 1 T
    obtain ⟨mn, hmn, h15⟩ := hok d hd
    refine z_if_ne (tgt := 11) hX dX6_mean_4 (by decide) (fun _ => ?_) (fun c => absurd c (by decide))
    refine z_aload_n hX dX6_mean_11 rfl ?_
    refine z_iload_n hX dX6_mean_12 rfl ?_
    refine z_callV0 hX dX6_mean_13 mv_6_151 (c_X6_told a b c d mn hd hmn h15) (by decide) rfl rfl rfl rfl (Nat.le_of_ble_eq_true rfl) (fun r w1 hp _ => ?_)
    obtain ⟨rfl, rfl⟩ := hp
    refine z_istore_n (ls' := [_, _, _, _, _, _, _, _]) hX dX6_mean_16 (Nat.le_of_ble_eq_true rfl) rfl ?_
    refine z_lconst (v := 0) hX dX6_mean_17 rfl ?_
    refine z_lstore_n (ls' := [_, _, _, _, _, _, _, _]) hX dX6_mean_18 (Nat.le_of_ble_eq_true rfl) rfl ?_
    refine z_iconst (v := nI 0) hX dX6_mean_19 rfl ?_
    refine z_istore (ls' := [_, _, _, _, _, _, _, _]) hX dX6_mean_20 (Nat.le_of_ble_eq_true rfl) rfl ?_
    exact lp_mean_22 hX hR a b c d mn hd hmn h15 _ (by have := toldF_le (b 16) d mn; omega) ⟨rfl, Or.inr ⟨d, mn, hd, hmn, rfl, h15, rfl⟩⟩ (mn + 1) 0 (by omega) (by omega)
  · -- 1 F
    refine z_if_ne (tgt := 11) hX dX6_mean_4 (by decide) (fun c => absurd c (by decide)) (fun _ => ?_)
    refine z_ldc2 hX dX6_mean_7 k_6_99 ?_
    refine z_lret hX hR dX6_mean_10 ?_
    exact ⟨rfl, Or.inl ⟨hn_d, rfl⟩⟩
def ahF (sh : Nat → Int64) (d i n : Nat) : Nat := zfold (fun j t => t + if nuF sh d i < nuF sh d j ∨ (nuF sh d j = nuF sh d i ∧ j < i) then 1 else 0) n 0
theorem ahF_s (sh : Nat → Int64) (d i n : Nat) : ahF sh d i (n + 1) = ahF sh d i n + if nuF sh d i < nuF sh d n ∨ (nuF sh d n = nuF sh d i ∧ n < i) then 1 else 0 := rfl
theorem ahF_le (sh : Nat → Int64) (d i : Nat) : ∀ n, ahF sh d i n ≤ n
  | 0 => Nat.le_refl 0
  | n + 1 => by
    have := ahF_le sh d i n
    rw [ahF_s]
    split <;> omega
def rkOK (sh : Nat → Int64) (d mn : Nat) (k : Int32) (i : Nat) : Prop := 0 ≤ nuF sh d i ∧ nI (ahF sh d i mn) = k - nI 1
set_option maxHeartbeats 4000000 in
set_option maxRecDepth 100000 in
theorem lp_rank_42 {X : ZX} {post : Option Value → ZW → Prop} (hX : ZOK X 6 cX6_rank 2) (hR : ZRet X (some .long) post) (a : Nat → Nat → Int32) (b : Nat → Nat → Int64) (c : Nat → Int32) (d mn : Nat) (hd : d < 4) (hmn : mn ≤ 100) (h15 : a 15 d = nI mn) (y : Int32) (i : Nat) (hi : i < mn) (K : ZG X 100 [some (.ref 0), some (.int (nI d)), some (.int y), some (.int (nI i)), some (.long (nuF (b 16) d i)), none, some (.int (nI (ahF (b 16) d i mn))), none, none, none] [] (WM a b c)) : ∀ (n k : Nat), k ≤ mn → mn < k + n → ZG X 42 [some (.ref 0), some (.int (nI d)), some (.int y), some (.int (nI i)), some (.long (nuF (b 16) d i)), none, some (.int (nI (ahF (b 16) d i k))), some (.int (nI k)), none, none] [] (WM a b c) := by
  intro n
  induction n with
  | zero => intro k z1 z2; omega
  | succ n ih =>
    intro k hk1 hk2
    refine z_iload hX dX6_rank_42 rfl ?_
    refine z_aload_n hX dX6_rank_44 rfl ?_
    refine z_get hX dX6_rank_45 f_6_54 rfl rfl ?_
    refine z_iload_n hX dX6_rank_48 rfl ?_
    refine z_iald hX dX6_rank_49 rfl (by omega) (by decide) ?_
    refine z_top h15 ?_
    first | with_reducible refine z_icmp_geN (tgt := 100) hX dX6_rank_50 (by decide) (by omega) (by omega) (fun c_50 => ?_) (fun c_50 => ?_) | refine z_icmp_ge (tgt := 100) hX dX6_rank_50 (by decide) (fun c_50 => ?_) (fun c_50 => ?_)
    · -- 50 t
      have zk : k = mn := by omega
      subst zk
      refine z_forget (ls' := [some (.ref 0), some _, some _, some _, some _, none, some _, none, none, none]) ⟨rfl, rfl, rfl, rfl, rfl, rfl, trivial⟩ K
    · -- 50 f
      have ih2 := ih (k + 1) (by omega) (by omega)
      rw [ahF_s] at ih2
      refine z_aload_n hX dX6_rank_53 rfl ?_
      refine z_iload_n hX dX6_rank_54 rfl ?_
      refine z_iload hX dX6_rank_55 rfl ?_
      refine z_callV0 hX dX6_rank_57 mv_6_145 (c_X6_numberAt a b c d k (by omega) (by omega)) (by decide) rfl rfl rfl rfl (Nat.le_of_ble_eq_true rfl) (fun r w1 hp _ => ?_)
      obtain ⟨rfl, rfl⟩ := hp
      refine z_lstore (ls' := [_, _, _, _, _, _, _, _, _, _]) hX dX6_rank_60 (Nat.le_of_ble_eq_true rfl) rfl ?_
      refine z_iload hX dX6_rank_62 rfl ?_
      refine z_lload hX dX6_rank_64 rfl ?_
      refine z_lload hX dX6_rank_66 rfl ?_
      refine z_lcmp hX dX6_rank_68 ?_
      refine z_lif_gt (tgt := 86) hX dX6_rank_69 (by decide) (fun c_69 => ?_) (fun c_69 => ?_)
      · -- 69 t
        refine z_iconst (v := nI 1) hX dX6_rank_86 rfl ?_
        refine z_goto (tgt := 91) hX dX6_rank_87 (by decide) ?_
        first | with_reducible refine z_iaddN hX dX6_rank_91 ?_ | refine z_iadd hX dX6_rank_91 ?_
        refine z_istore (ls' := [_, _, _, _, _, _, _, _, _, _]) hX dX6_rank_92 (Nat.le_of_ble_eq_true rfl) rfl ?_
        first | refine z_iincN (b := 1) (ls' := [_, _, _, _, _, _, _, _, _, _]) hX dX6_rank_94 rfl rfl rfl ?_ | refine z_iinc (ls' := [_, _, _, _, _, _, _, _, _, _]) hX dX6_rank_94 rfl rfl ?_
        refine z_goto (tgt := 42) hX dX6_rank_97 (by decide) ?_
        rw [if_pos (Or.inl c_69)] at ih2
        refine z_forget (ls' := [some (.ref 0), some _, some _, some _, some _, none, some _, some _, none, none]) ⟨rfl, rfl, rfl, rfl, rfl, rfl, rfl, trivial⟩ ih2
      · -- 69 f
        refine z_lload hX dX6_rank_72 rfl ?_
        refine z_lload hX dX6_rank_74 rfl ?_
        refine z_lcmp hX dX6_rank_76 ?_
        refine z_lif_ne (tgt := 90) hX dX6_rank_77 (by decide) (fun c_77 => ?_) (fun c_77 => ?_)
        · -- 77 t
          refine z_iconst (v := nI 0) hX dX6_rank_90 rfl ?_
          first | with_reducible refine z_iaddN hX dX6_rank_91 ?_ | refine z_iadd hX dX6_rank_91 ?_
          refine z_istore (ls' := [_, _, _, _, _, _, _, _, _, _]) hX dX6_rank_92 (Nat.le_of_ble_eq_true rfl) rfl ?_
          first | refine z_iincN (b := 1) (ls' := [_, _, _, _, _, _, _, _, _, _]) hX dX6_rank_94 rfl rfl rfl ?_ | refine z_iinc (ls' := [_, _, _, _, _, _, _, _, _, _]) hX dX6_rank_94 rfl rfl ?_
          refine z_goto (tgt := 42) hX dX6_rank_97 (by decide) ?_
          rw [if_neg (fun q => q.elim (fun q => absurd q (Int64.not_lt.mpr c_69)) (fun q => c_77 q.1))] at ih2
          refine z_forget (ls' := [some (.ref 0), some _, some _, some _, some _, none, some _, some _, none, none]) ⟨rfl, rfl, rfl, rfl, rfl, rfl, rfl, trivial⟩ ih2
        · -- 77 f
          refine z_iload hX dX6_rank_80 rfl ?_
          refine z_iload_n hX dX6_rank_82 rfl ?_
          first | with_reducible refine z_icmp_geN (tgt := 90) hX dX6_rank_83 (by decide) (by omega) (by omega) (fun c_83 => ?_) (fun c_83 => ?_) | refine z_icmp_ge (tgt := 90) hX dX6_rank_83 (by decide) (fun c_83 => ?_) (fun c_83 => ?_)
          · -- 83 t
            refine z_iconst (v := nI 0) hX dX6_rank_90 rfl ?_
            first | with_reducible refine z_iaddN hX dX6_rank_91 ?_ | refine z_iadd hX dX6_rank_91 ?_
            refine z_istore (ls' := [_, _, _, _, _, _, _, _, _, _]) hX dX6_rank_92 (Nat.le_of_ble_eq_true rfl) rfl ?_
            first | refine z_iincN (b := 1) (ls' := [_, _, _, _, _, _, _, _, _, _]) hX dX6_rank_94 rfl rfl rfl ?_ | refine z_iinc (ls' := [_, _, _, _, _, _, _, _, _, _]) hX dX6_rank_94 rfl rfl ?_
            refine z_goto (tgt := 42) hX dX6_rank_97 (by decide) ?_
            rw [if_neg (fun q => q.elim (fun q => absurd q (Int64.not_lt.mpr c_69)) (fun q => by omega))] at ih2
            refine z_forget (ls' := [some (.ref 0), some _, some _, some _, some _, none, some _, some _, none, none]) ⟨rfl, rfl, rfl, rfl, rfl, rfl, rfl, trivial⟩ ih2
          · -- 83 f
            refine z_iconst (v := nI 1) hX dX6_rank_86 rfl ?_
            refine z_goto (tgt := 91) hX dX6_rank_87 (by decide) ?_
            first | with_reducible refine z_iaddN hX dX6_rank_91 ?_ | refine z_iadd hX dX6_rank_91 ?_
            refine z_istore (ls' := [_, _, _, _, _, _, _, _, _, _]) hX dX6_rank_92 (Nat.le_of_ble_eq_true rfl) rfl ?_
            first | refine z_iincN (b := 1) (ls' := [_, _, _, _, _, _, _, _, _, _]) hX dX6_rank_94 rfl rfl rfl ?_ | refine z_iinc (ls' := [_, _, _, _, _, _, _, _, _, _]) hX dX6_rank_94 rfl rfl ?_
            refine z_goto (tgt := 42) hX dX6_rank_97 (by decide) ?_
            rw [if_pos (Or.inr ⟨c_77, c_83⟩)] at ih2
            refine z_forget (ls' := [some (.ref 0), some _, some _, some _, some _, none, some _, some _, none, none]) ⟨rfl, rfl, rfl, rfl, rfl, rfl, rfl, trivial⟩ ih2
set_option maxHeartbeats 4000000 in
set_option maxRecDepth 100000 in
theorem lp_rank_18 {X : ZX} {post : Option Value → ZW → Prop} (hX : ZOK X 6 cX6_rank 2) (hR : ZRet X (some .long) post) (a : Nat → Nat → Int32) (b : Nat → Nat → Int64) (c : Nat → Int32) (d mn : Nat) (hd : d < 4) (hmn : mn ≤ 100) (h15 : a 15 d = nI mn) (y : Int32) (hpost1 : ∀ i, i < mn → rkOK (b 16) d mn y i → (∀ j, j < i → ¬ rkOK (b 16) d mn y j) → post (some (.long (nuF (b 16) d i))) (WM a b c)) (hpost2 : (∀ j, j < mn → ¬ rkOK (b 16) d mn y j) → post (some (.long (-4))) (WM a b c)) : ∀ (n i : Nat), i ≤ mn → mn < i + n → (∀ j, j < i → ¬ rkOK (b 16) d mn y j) → ZG X 18 [some (.ref 0), some (.int (nI d)), some (.int y), some (.int (nI i)), none, none, none, none, none, none] [] (WM a b c) := by
  intro n
  induction n with
  | zero => intro i z1 z2; omega
  | succ n ih =>
    intro i hi1 hi2 hno
    refine z_iload_n hX dX6_rank_18 rfl ?_
    refine z_aload_n hX dX6_rank_19 rfl ?_
    refine z_get hX dX6_rank_20 f_6_54 rfl rfl ?_
    refine z_iload_n hX dX6_rank_23 rfl ?_
    refine z_iald hX dX6_rank_24 rfl (by omega) (by decide) ?_
    refine z_top h15 ?_
    first | with_reducible refine z_icmp_geN (tgt := 124) hX dX6_rank_25 (by decide) (by omega) (by omega) (fun c_25 => ?_) (fun c_25 => ?_) | refine z_icmp_ge (tgt := 124) hX dX6_rank_25 (by decide) (fun c_25 => ?_) (fun c_25 => ?_)
    · -- 25 t
      have zi : i = mn := by omega
      subst zi
      refine z_ldc2 hX dX6_rank_124 k_6_149 ?_
      refine z_lret hX hR dX6_rank_127 ?_
      exact hpost2 hno
    · -- 25 f
      refine z_aload_n hX dX6_rank_28 rfl ?_
      refine z_iload_n hX dX6_rank_29 rfl ?_
      refine z_iload_n hX dX6_rank_30 rfl ?_
      refine z_callV0 hX dX6_rank_31 mv_6_145 (c_X6_numberAt a b c d i (by omega) (by omega)) (by decide) rfl rfl rfl rfl (Nat.le_of_ble_eq_true rfl) (fun r w1 hp _ => ?_)
      obtain ⟨rfl, rfl⟩ := hp
      refine z_lstore (ls' := [_, _, _, _, _, _, _, _, _, _]) hX dX6_rank_34 (Nat.le_of_ble_eq_true rfl) rfl ?_
      refine z_iconst (v := nI 0) hX dX6_rank_36 rfl ?_
      refine z_istore (ls' := [_, _, _, _, _, _, _, _, _, _]) hX dX6_rank_37 (Nat.le_of_ble_eq_true rfl) rfl ?_
      refine z_iconst (v := nI 0) hX dX6_rank_39 rfl ?_
      refine z_istore (ls' := [_, _, _, _, _, _, _, _, _, _]) hX dX6_rank_40 (Nat.le_of_ble_eq_true rfl) rfl ?_
      refine lp_rank_42 hX hR a b c d mn hd hmn h15 y i c_25 ?_ (mn + 1) 0 (by omega) (by omega)
      refine z_lload hX dX6_rank_100 rfl ?_
      refine z_lconst (v := 0) hX dX6_rank_102 rfl ?_
      refine z_lcmp hX dX6_rank_103 ?_
      refine z_lif_lt (tgt := 118) hX dX6_rank_104 (by decide) (fun c_104 => ?_) (fun c_104 => ?_)
      · -- 104 t
        first | refine z_iincN (b := 1) (ls' := [_, _, _, _, _, _, _, _, _, _]) hX dX6_rank_118 rfl rfl rfl ?_ | refine z_iinc (ls' := [_, _, _, _, _, _, _, _, _, _]) hX dX6_rank_118 rfl rfl ?_
        refine z_goto (tgt := 18) hX dX6_rank_121 (by decide) ?_
        refine z_forget (ls' := [some (.ref 0), some _, some _, some _, none, none, none, none, none, none]) ⟨rfl, rfl, rfl, rfl, trivial⟩ (ih (i + 1) (by omega) (by omega) (fun j hj => ?_))
        rcases (show j < i ∨ j = i by omega) with e | e
        · exact hno j e
        · rw [e]
          exact fun q => absurd q.1 (Int64.not_le.mpr c_104)
      · -- 104 f
        refine z_iload hX dX6_rank_107 rfl ?_
        refine z_iload_n hX dX6_rank_109 rfl ?_
        refine z_iconst (v := nI 1) hX dX6_rank_110 rfl ?_
        refine z_isub hX dX6_rank_111 ?_
        refine z_icmp_ne (tgt := 118) hX dX6_rank_112 (by decide) (fun c_112 => ?_) (fun c_112 => ?_)
        · -- 112 t
          first | refine z_iincN (b := 1) (ls' := [_, _, _, _, _, _, _, _, _, _]) hX dX6_rank_118 rfl rfl rfl ?_ | refine z_iinc (ls' := [_, _, _, _, _, _, _, _, _, _]) hX dX6_rank_118 rfl rfl ?_
          refine z_goto (tgt := 18) hX dX6_rank_121 (by decide) ?_
          refine z_forget (ls' := [some (.ref 0), some _, some _, some _, none, none, none, none, none, none]) ⟨rfl, rfl, rfl, rfl, trivial⟩ (ih (i + 1) (by omega) (by omega) (fun j hj => ?_))
          rcases (show j < i ∨ j = i by omega) with e | e
          · exact hno j e
          · rw [e]
            exact fun q => c_112 q.2
        · -- 112 f
          refine z_lload hX dX6_rank_115 rfl ?_
          refine z_lret hX hR dX6_rank_117 ?_
          exact hpost1 i c_25 ⟨c_104, c_112⟩ hno
set_option maxHeartbeats 4000000 in
set_option maxRecDepth 100000 in
theorem c_X6_rank (a : Nat → Nat → Int32) (b : Nat → Nat → Int64) (c : Nat → Int32) (hok : okM (a 15)) (x y : Int32) : ∀ l, ZC l yX6_rank cX6_rank 10 (some .long) 2 [.ref 0, .int x, .int y] (WM a b c) (fun r w' => w' = WM a b c ∧ ((¬ (zJ x 4 ∧ nI 1 ≤ y) ∧ r = some (.long (-1))) ∨ ∃ d mn, d < 4 ∧ mn ≤ 100 ∧ x = nI d ∧ nI 1 ≤ y ∧ a 15 d = nI mn ∧ (((∀ j, j < mn → ¬ rkOK (b 16) d mn y j) ∧ r = some (.long (-4))) ∨ ∃ i, i < mn ∧ rkOK (b 16) d mn y i ∧ r = some (.long (nuF (b 16) d i))))) := by
  intro l
  refine zc_intro (oc := 6) (by decide +kernel) rfl (Nat.le_of_ble_eq_true rfl) ?_
  intro X hX hR
  refine z_norm (ls' := [_, _, _, _, _, _, _, _, _, _]) rfl rfl rfl ?_
  refine z_iload_n hX dX6_rank_0 rfl ?_
  refine z_callS0 hX dX6_rank_1 ms_6_131 (c_X6_isDoor _ _) (by decide) rfl rfl (Nat.le_of_ble_eq_true rfl) (fun r w1 hp _ => ?_)
  obtain ⟨rfl, ⟨⟨d, hd, rfl⟩, rfl⟩ | ⟨hn_d, rfl⟩⟩ := hp
  · -- 1 T
    obtain ⟨mn, hmn, h15⟩ := hok d hd
    refine z_if_eq (tgt := 12) hX dX6_rank_4 (by decide) (fun c => absurd c (by decide)) (fun _ => ?_)
    refine z_iload_n hX dX6_rank_7 rfl ?_
    refine z_iconst (v := nI 1) hX dX6_rank_8 rfl ?_
    first | with_reducible refine z_icmp_geN (tgt := 16) hX dX6_rank_9 (by decide) (by omega) (by omega) (fun c_9 => ?_) (fun c_9 => ?_) | refine z_icmp_ge (tgt := 16) hX dX6_rank_9 (by decide) (fun c_9 => ?_) (fun c_9 => ?_)
    · -- 9 t
      refine z_iconst (v := nI 0) hX dX6_rank_16 rfl ?_
      refine z_istore_n (ls' := [_, _, _, _, _, _, _, _, _, _]) hX dX6_rank_17 (Nat.le_of_ble_eq_true rfl) rfl ?_
      exact lp_rank_18 hX hR a b c d mn hd hmn h15 y (fun i h1 h2 _ => ⟨rfl, Or.inr ⟨d, mn, hd, hmn, rfl, c_9, h15, Or.inr ⟨i, h1, h2, rfl⟩⟩⟩) (fun h1 => ⟨rfl, Or.inr ⟨d, mn, hd, hmn, rfl, c_9, h15, Or.inl ⟨h1, rfl⟩⟩⟩) (mn + 1) 0 (by omega) (by omega) (fun j hj => by omega)
    · -- 9 f
      refine z_ldc2 hX dX6_rank_12 k_6_99 ?_
      refine z_lret hX hR dX6_rank_15 ?_
      exact ⟨rfl, Or.inl ⟨fun q => c_9 q.2, rfl⟩⟩
  · -- 1 F
    refine z_if_eq (tgt := 12) hX dX6_rank_4 (by decide) (fun _ => ?_) (fun c => absurd c (by decide))
    refine z_ldc2 hX dX6_rank_12 k_6_99 ?_
    refine z_lret hX hR dX6_rank_15 ?_
    exact ⟨rfl, Or.inl ⟨fun q => hn_d q.1, rfl⟩⟩
def watF (a14 : Nat → Int32) (n : Nat) : Nat := zfold (fun k t => t + if a14 k = 0 then 0 else 1) n 0
theorem watF_s (a14 : Nat → Int32) (n : Nat) : watF a14 (n + 1) = watF a14 n + if a14 n = 0 then 0 else 1 := rfl
theorem watF_le (a14 : Nat → Int32) : ∀ n, watF a14 n ≤ n
  | 0 => Nat.le_refl 0
  | n + 1 => by
    have := watF_le a14 n
    rw [watF_s]
    split <;> omega
set_option maxHeartbeats 4000000 in
set_option maxRecDepth 100000 in
theorem lp_watch_21 {X : ZX} {post : Option Value → ZW → Prop} (hX : ZOK X 6 cX6_watch 2) (hR : ZRet X (some .int) post) (a : Nat → Nat → Int32) (b : Nat → Nat → Int64) (c : Nat → Int32) (x y : Int32) (hpost : post (some (.int (nI (watF (a 14) 4)))) (WM a b c)) : ∀ (n k : Nat), k ≤ 4 → 4 < k + n → ZG X 21 [some (.ref 0), some (.int x), some (.int y), some (.int (nI (watF (a 14) k))), some (.int (nI k))] [] (WM a b c) := by
  intro n
  induction n with
  | zero => intro k z1 z2; omega
  | succ n ih =>
    intro k hk1 hk2
    refine z_iload hX dX6_watch_21 rfl ?_
    refine z_iconst (v := nI 4) hX dX6_watch_23 rfl ?_
    first | with_reducible refine z_icmp_geN (tgt := 51) hX dX6_watch_24 (by decide) (by omega) (by omega) (fun c_24 => ?_) (fun c_24 => ?_) | refine z_icmp_ge (tgt := 51) hX dX6_watch_24 (by decide) (fun c_24 => ?_) (fun c_24 => ?_)
    · -- 24 t
      have zk : k = 4 := by omega
      subst zk
      refine z_iload_n hX dX6_watch_51 rfl ?_
      refine z_iret hX hR dX6_watch_52 ?_
      exact hpost
    · -- 24 f
      have ih2 := ih (k + 1) (by omega) (by omega)
      rw [watF_s] at ih2
      refine z_iload_n hX dX6_watch_27 rfl ?_
      refine z_aload_n hX dX6_watch_28 rfl ?_
      refine z_get hX dX6_watch_29 f_6_51 rfl rfl ?_
      refine z_iload hX dX6_watch_32 rfl ?_
      refine z_zald hX dX6_watch_34 rfl (by omega) (by decide) ?_
      refine z_if_eq (tgt := 42) hX dX6_watch_35 (by decide) (fun c_35 => ?_) (fun c_35 => ?_)
      · -- 35 t
        refine z_iconst (v := nI 0) hX dX6_watch_42 rfl ?_
        first | with_reducible refine z_iaddN hX dX6_watch_43 ?_ | refine z_iadd hX dX6_watch_43 ?_
        refine z_istore_n (ls' := [_, _, _, _, _]) hX dX6_watch_44 (Nat.le_of_ble_eq_true rfl) rfl ?_
        first | refine z_iincN (b := 1) (ls' := [_, _, _, _, _]) hX dX6_watch_45 rfl rfl rfl ?_ | refine z_iinc (ls' := [_, _, _, _, _]) hX dX6_watch_45 rfl rfl ?_
        refine z_goto (tgt := 21) hX dX6_watch_48 (by decide) ?_
        rw [if_pos c_35] at ih2
        exact ih2
      · -- 35 f
        refine z_iconst (v := nI 1) hX dX6_watch_38 rfl ?_
        refine z_goto (tgt := 43) hX dX6_watch_39 (by decide) ?_
        first | with_reducible refine z_iaddN hX dX6_watch_43 ?_ | refine z_iadd hX dX6_watch_43 ?_
        refine z_istore_n (ls' := [_, _, _, _, _]) hX dX6_watch_44 (Nat.le_of_ble_eq_true rfl) rfl ?_
        first | refine z_iincN (b := 1) (ls' := [_, _, _, _, _]) hX dX6_watch_45 rfl rfl rfl ?_ | refine z_iinc (ls' := [_, _, _, _, _]) hX dX6_watch_45 rfl rfl ?_
        refine z_goto (tgt := 21) hX dX6_watch_48 (by decide) ?_
        rw [if_neg c_35] at ih2
        exact ih2
set_option maxHeartbeats 4000000 in
set_option maxRecDepth 100000 in
theorem c_X6_watch (a : Nat → Nat → Int32) (b : Nat → Nat → Int64) (c : Nat → Int32) (x y : Int32) (hy : y = 0 ∨ y = 1) : ∀ l, ZC l yX6_watch cX6_watch 5 (some .int) 2 [.ref 0, .int x, .int y] (WM a b c) (fun r w' => (¬ zJ x 4 ∧ r = some (.int (-1)) ∧ w' = WM a b c) ∨ ∃ d, d < 4 ∧ x = nI d ∧ r = some (.int (nI (watF (upd (a 14) d y) 4))) ∧ w' = WM (va_up a 14 (upd (a 14) d y)) b c) := by
  intro l
  refine zc_intro (oc := 6) (by decide +kernel) rfl (Nat.le_of_ble_eq_true rfl) ?_
  intro X hX hR
  refine z_norm (ls' := [_, _, _, _, _]) rfl rfl rfl ?_
  refine z_iload_n hX dX6_watch_0 rfl ?_
  refine z_callS0 hX dX6_watch_1 ms_6_131 (c_X6_isDoor _ _) (by decide) rfl rfl (Nat.le_of_ble_eq_true rfl) (fun r w1 hp _ => ?_)
  obtain ⟨rfl, ⟨⟨d, hd, rfl⟩, rfl⟩ | ⟨hn_d, rfl⟩⟩ := hp
  · -- 1 T
    refine z_if_ne (tgt := 9) hX dX6_watch_4 (by decide) (fun _ => ?_) (fun c => absurd c (by decide))
    refine z_aload_n hX dX6_watch_9 rfl ?_
    refine z_get hX dX6_watch_10 f_6_51 rfl rfl ?_
    refine z_iload_n hX dX6_watch_13 rfl ?_
    refine z_iload_n hX dX6_watch_14 rfl ?_
    refine z_zast (w' := [_, _, _, _, _, _, _, _, _, _, _, _, _, _, _, _, _, _, _, _]) hX dX6_watch_15 rfl (by omega) (by decide) (by first | exact Or.inl rfl | exact Or.inr rfl | assumption) rfl ?_
    refine z_iconst (v := nI 0) hX dX6_watch_16 rfl ?_
    refine z_istore_n (ls' := [_, _, _, _, _]) hX dX6_watch_17 (Nat.le_of_ble_eq_true rfl) rfl ?_
    refine z_iconst (v := nI 0) hX dX6_watch_18 rfl ?_
    refine z_istore (ls' := [_, _, _, _, _]) hX dX6_watch_19 (Nat.le_of_ble_eq_true rfl) rfl ?_
    exact lp_watch_21 hX hR (va_up a 14 (upd (a 14) d y)) b c _ y (Or.inr ⟨d, hd, rfl, rfl, rfl⟩) 5 0 (by omega) (by omega)
  · -- 1 F
    refine z_if_ne (tgt := 9) hX dX6_watch_4 (by decide) (fun c => absurd c (by decide)) (fun _ => ?_)
    refine z_iconst (v := -1) hX dX6_watch_7 rfl ?_
    refine z_iret hX hR dX6_watch_8 ?_
    exact Or.inl ⟨hn_d, rfl, rfl⟩
set_option maxHeartbeats 4000000 in
set_option maxRecDepth 100000 in
theorem c_X6_hour (a : Nat → Nat → Int32) (b : Nat → Nat → Int64) (c : Nat → Int32) (hok : okM (a 15)) (x y z : Int32) : ∀ l, ZC l yX6_hour cX6_hour 7 (some .long) 2 [.ref 0, .int x, .int y, .int z] (WM a b c) (fun r w' => w' = WM a b c ∧ ((¬ zJ x 4 ∧ r = some (.long (-1))) ∨ ∃ d mn, d < 4 ∧ mn ≤ 100 ∧ x = nI d ∧ a 15 d = nI mn ∧ ((¬ (zJ y mn ∧ zJ z 4) ∧ r = some (.long (-1))) ∨ ∃ j f, j < mn ∧ f < 4 ∧ y = nI j ∧ z = nI f ∧ r = some (.long (if 0 ≤ nuF (b 16) d (mn - 1 - j) then (if f = 3 then nuF (b 16) d (mn - 1 - j) else b 16 (300 * d + 3 * (mn - 1 - j) + f)) else -4))))) := by
  intro l
  refine zc_intro (oc := 6) (by decide +kernel) rfl (Nat.le_of_ble_eq_true rfl) ?_
  intro X hX hR
  refine z_norm (ls' := [_, _, _, _, _, _, _]) rfl rfl rfl ?_
  refine z_iload_n hX dX6_hour_0 rfl ?_
  refine z_callS0 hX dX6_hour_1 ms_6_131 (c_X6_isDoor _ _) (by decide) rfl rfl (Nat.le_of_ble_eq_true rfl) (fun r w1 hp _ => ?_)
  obtain ⟨rfl, ⟨⟨d, hd, rfl⟩, rfl⟩ | ⟨hn_d, rfl⟩⟩ := hp
  · -- 1 T
    obtain ⟨mn, hmn, h15⟩ := hok d hd
    refine z_if_eq (tgt := 37) hX dX6_hour_4 (by decide) (fun c => absurd c (by decide)) (fun _ => ?_)
    refine z_iload_n hX dX6_hour_7 rfl ?_
    first | with_reducible refine z_i2lN hX dX6_hour_8 (by omega) ?_ | refine z_i2l hX dX6_hour_8 ?_
    refine z_lconst (v := 0) hX dX6_hour_9 rfl ?_
    refine z_aload_n hX dX6_hour_10 rfl ?_
    refine z_get hX dX6_hour_11 f_6_54 rfl rfl ?_
    refine z_iload_n hX dX6_hour_14 rfl ?_
    refine z_iald hX dX6_hour_15 rfl (by omega) (by decide) ?_
    refine z_top h15 ?_
    refine z_iconst (v := nI 1) hX dX6_hour_16 rfl ?_
    refine z_isub hX dX6_hour_17 ?_
    refine z_i2l hX dX6_hour_18 ?_
    refine z_callS0 hX dX6_hour_19 ms_6_71 (c_X6_in _ _ _ _) (by decide) rfl rfl (Nat.le_of_ble_eq_true rfl) (fun r w1 hp _ => ?_)
    obtain ⟨rfl, hp⟩ := hp
    rcases zinS2 hmn hp with ⟨⟨j, hj, rfl⟩, rfl⟩ | ⟨hn_j, rfl⟩
    · -- 19 T
      refine z_if_eq (tgt := 37) hX dX6_hour_22 (by decide) (fun c => absurd c (by decide)) (fun _ => ?_)
      refine z_iload_n hX dX6_hour_25 rfl ?_
      first | with_reducible refine z_i2lN hX dX6_hour_26 (by omega) ?_ | refine z_i2l hX dX6_hour_26 ?_
      refine z_lconst (v := 0) hX dX6_hour_27 rfl ?_
      refine z_ldc2 hX dX6_hour_28 k_6_112 ?_
      refine z_callS0 hX dX6_hour_31 ms_6_71 (c_X6_in _ _ _ _) (by decide) rfl rfl (Nat.le_of_ble_eq_true rfl) (fun r w1 hp _ => ?_)
      obtain ⟨rfl, hp⟩ := hp
      rcases zinJ (n := 4) rfl (by decide) hp with ⟨⟨f, hf, rfl⟩, rfl⟩ | ⟨hn_f, rfl⟩
      · -- 31 T
        refine z_if_ne (tgt := 41) hX dX6_hour_34 (by decide) (fun _ => ?_) (fun c => absurd c (by decide))
        refine z_aload_n hX dX6_hour_41 rfl ?_
        refine z_get hX dX6_hour_42 f_6_54 rfl rfl ?_
        refine z_iload_n hX dX6_hour_45 rfl ?_
        refine z_iald hX dX6_hour_46 rfl (by omega) (by decide) ?_
        refine z_top h15 ?_
        refine z_iconst (v := nI 1) hX dX6_hour_47 rfl ?_
        first | with_reducible refine z_isubN hX dX6_hour_48 (by omega) ?_ | refine z_isub hX dX6_hour_48 ?_
        refine z_iload_n hX dX6_hour_49 rfl ?_
        first | with_reducible refine z_isubN hX dX6_hour_50 (by omega) ?_ | refine z_isub hX dX6_hour_50 ?_
        refine z_istore (ls' := [_, _, _, _, _, _, _]) hX dX6_hour_51 (Nat.le_of_ble_eq_true rfl) rfl ?_
        refine z_aload_n hX dX6_hour_53 rfl ?_
        refine z_iload_n hX dX6_hour_54 rfl ?_
        refine z_iload hX dX6_hour_55 rfl ?_
        refine z_callV0 hX dX6_hour_57 mv_6_145 (c_X6_numberAt a b c d (mn - 1 - j) (by omega) (by omega)) (by decide) rfl rfl rfl rfl (Nat.le_of_ble_eq_true rfl) (fun r w1 hp _ => ?_)
        obtain ⟨rfl, rfl⟩ := hp
        refine z_lstore (ls' := [_, _, _, _, _, _, _]) hX dX6_hour_60 (Nat.le_of_ble_eq_true rfl) rfl ?_
        refine z_lload hX dX6_hour_62 rfl ?_
        refine z_lconst (v := 0) hX dX6_hour_64 rfl ?_
        refine z_lcmp hX dX6_hour_65 ?_
        refine z_lif_ge (tgt := 75) hX dX6_hour_66 (by decide) (fun c_66 => ?_) (fun c_66 => ?_)
        · -- 66 t
          refine z_iload_n hX dX6_hour_75 rfl ?_
          refine z_iconst (v := nI 3) hX dX6_hour_76 rfl ?_
          first | with_reducible refine z_icmp_neN (tgt := 85) hX dX6_hour_77 (by decide) (by omega) (by omega) (fun c_77 => ?_) (fun c_77 => ?_) | refine z_icmp_ne (tgt := 85) hX dX6_hour_77 (by decide) (fun c_77 => ?_) (fun c_77 => ?_)
          · -- 77 t
            refine z_aload_n hX dX6_hour_85 rfl ?_
            refine z_get hX dX6_hour_86 f_6_57 rfl rfl ?_
            refine z_sipush (v := nI 300) hX dX6_hour_89 rfl ?_
            refine z_iload_n hX dX6_hour_92 rfl ?_
            first | with_reducible refine z_imulN hX dX6_hour_93 ?_ | refine z_imul hX dX6_hour_93 ?_
            refine z_iconst (v := nI 3) hX dX6_hour_94 rfl ?_
            refine z_iload hX dX6_hour_95 rfl ?_
            first | with_reducible refine z_imulN hX dX6_hour_97 ?_ | refine z_imul hX dX6_hour_97 ?_
            first | with_reducible refine z_iaddN hX dX6_hour_98 ?_ | refine z_iadd hX dX6_hour_98 ?_
            refine z_iload_n hX dX6_hour_99 rfl ?_
            first | with_reducible refine z_iaddN hX dX6_hour_100 ?_ | refine z_iadd hX dX6_hour_100 ?_
            refine z_lald hX dX6_hour_101 rfl (by omega) (by decide) ?_
            refine z_lret hX hR dX6_hour_102 ?_
            exact ⟨rfl, Or.inr ⟨d, mn, hd, hmn, rfl, h15, Or.inr ⟨j, f, hj, hf, rfl, rfl, by rw [if_pos c_66, if_neg c_77]⟩⟩⟩
          · -- 77 f
            refine z_lload hX dX6_hour_80 rfl ?_
            refine z_goto (tgt := 102) hX dX6_hour_82 (by decide) ?_
            refine z_lret hX hR dX6_hour_102 ?_
            exact ⟨rfl, Or.inr ⟨d, mn, hd, hmn, rfl, h15, Or.inr ⟨j, f, hj, hf, rfl, rfl, by rw [if_pos c_66, if_pos c_77]⟩⟩⟩
        · -- 66 f
          refine z_ldc2 hX dX6_hour_69 k_6_149 ?_
          refine z_goto (tgt := 102) hX dX6_hour_72 (by decide) ?_
          refine z_lret hX hR dX6_hour_102 ?_
          exact ⟨rfl, Or.inr ⟨d, mn, hd, hmn, rfl, h15, Or.inr ⟨j, f, hj, hf, rfl, rfl, by rw [if_neg (Int64.not_le.mpr c_66)]⟩⟩⟩
      · -- 31 F
        refine z_if_ne (tgt := 41) hX dX6_hour_34 (by decide) (fun c => absurd c (by decide)) (fun _ => ?_)
        refine z_ldc2 hX dX6_hour_37 k_6_99 ?_
        refine z_lret hX hR dX6_hour_40 ?_
        exact ⟨rfl, Or.inr ⟨d, mn, hd, hmn, rfl, h15, Or.inl ⟨fun q => hn_f q.2, rfl⟩⟩⟩
    · -- 19 F
      refine z_if_eq (tgt := 37) hX dX6_hour_22 (by decide) (fun _ => ?_) (fun c => absurd c (by decide))
      refine z_ldc2 hX dX6_hour_37 k_6_99 ?_
      refine z_lret hX hR dX6_hour_40 ?_
      exact ⟨rfl, Or.inr ⟨d, mn, hd, hmn, rfl, h15, Or.inl ⟨fun q => hn_j q.1, rfl⟩⟩⟩
  · -- 1 F
    refine z_if_eq (tgt := 37) hX dX6_hour_4 (by decide) (fun _ => ?_) (fun c => absurd c (by decide))
    refine z_ldc2 hX dX6_hour_37 k_6_99 ?_
    refine z_lret hX hR dX6_hour_40 ?_
    exact ⟨rfl, Or.inl ⟨hn_d, rfl⟩⟩
end
section
/-! ===== the reference: rolling means, the law, the cheapest cuts ===== -/
def cnF (sh : Nat → Int64) (d f n : Nat) : Nat := zfold (fun k t => t + if 0 ≤ nuF sh d (f + k) then 1 else 0) n 0
theorem cnF_s (sh : Nat → Int64) (d f n : Nat) : cnF sh d f (n + 1) = cnF sh d f n + if 0 ≤ nuF sh d (f + n) then 1 else 0 := rfl
theorem cnF_le (sh : Nat → Int64) (d f : Nat) : ∀ n, cnF sh d f n ≤ n
  | 0 => Nat.le_refl 0
  | n + 1 => by
    have := cnF_le sh d f n
    rw [cnF_s]
    split <;> omega
def wsF (sh : Nat → Int64) (d f n : Nat) : Int64 := zfold (fun k t => t + if 0 ≤ nuF sh d (f + k) then nuF sh d (f + k) else 0) n 0
theorem wsF_s (sh : Nat → Int64) (d f n : Nat) : wsF sh d f (n + 1) = wsF sh d f n + if 0 ≤ nuF sh d (f + n) then nuF sh d (f + n) else 0 := rfl
def rlT (sh : Nat → Int64) (d wn f : Nat) (bs : Int64) : Int64 := if wn ≤ 2 * cnF sh d f wn ∧ bs < wsF sh d f wn / lN (cnF sh d f wn) then wsF sh d f wn / lN (cnF sh d f wn) else bs
def rlF (sh : Nat → Int64) (d wn n : Nat) : Int64 := zfold (rlT sh d wn) n (-4)
theorem rlF_s (sh : Nat → Int64) (d wn n : Nat) : rlF sh d wn (n + 1) = rlT sh d wn n (rlF sh d wn n) := rfl
set_option maxHeartbeats 4000000 in
set_option maxRecDepth 100000 in
theorem lp_roll_53 {X : ZX} {post : Option Value → ZW → Prop} (hX : ZOK X 6 cX6_rolling 2) (hR : ZRet X (some .long) post) (a : Nat → Nat → Int32) (b : Nat → Nat → Int64) (c : Nat → Int32) (d mn : Nat) (hd : d < 4) (hmn : mn ≤ 100) (h15 : a 15 d = nI mn) (wn f : Nat) (hwn : wn ≤ 24) (hf : f + wn ≤ mn) (bs : Int64) (K : ZG X 112 [some (.ref 0), some (.int (nI d)), some (.int (nI wn)), some (.long bs), none, some (.int (nI f)), some (.int (nI (cnF (b 16) d f wn))), some (.long (wsF (b 16) d f wn)), none, none, none, none] [] (WM a b c)) : ∀ (n k : Nat), k ≤ wn → wn < k + n → ZG X 53 [some (.ref 0), some (.int (nI d)), some (.int (nI wn)), some (.long bs), none, some (.int (nI f)), some (.int (nI (cnF (b 16) d f k))), some (.long (wsF (b 16) d f k)), none, some (.int (nI (f + k))), none, none] [] (WM a b c) := by
  intro n
  induction n with
  | zero => intro k z1 z2; omega
  | succ n ih =>
    intro k hk1 hk2
    refine z_iload hX dX6_rolling_53 rfl ?_
    refine z_iload hX dX6_rolling_55 rfl ?_
    refine z_iload_n hX dX6_rolling_57 rfl ?_
    first | with_reducible refine z_iaddN hX dX6_rolling_58 ?_ | refine z_iadd hX dX6_rolling_58 ?_
    first | with_reducible refine z_icmp_geN (tgt := 112) hX dX6_rolling_59 (by decide) (by omega) (by omega) (fun c_59 => ?_) (fun c_59 => ?_) | refine z_icmp_ge (tgt := 112) hX dX6_rolling_59 (by decide) (fun c_59 => ?_) (fun c_59 => ?_)
    · -- 59 t
      have zk : k = wn := by omega
      subst zk
      refine z_forget (ls' := [some (.ref 0), some _, some _, some _, none, some _, some _, some _, none, none, none, none]) ⟨rfl, rfl, rfl, rfl, rfl, rfl, rfl, trivial⟩ K
    · -- 59 f
      have ih2 := ih (k + 1) (by omega) (by omega)
      rw [cnF_s, wsF_s] at ih2
      refine z_aload_n hX dX6_rolling_62 rfl ?_
      refine z_iload_n hX dX6_rolling_63 rfl ?_
      refine z_iload hX dX6_rolling_64 rfl ?_
      refine z_callV0 hX dX6_rolling_66 mv_6_145 (c_X6_numberAt a b c d (f + k) (by omega) (by omega)) (by decide) rfl rfl rfl rfl (Nat.le_of_ble_eq_true rfl) (fun r w1 hp _ => ?_)
      obtain ⟨rfl, rfl⟩ := hp
      refine z_lstore (ls' := [_, _, _, _, _, _, _, _, _, _, _, _]) hX dX6_rolling_69 (Nat.le_of_ble_eq_true rfl) rfl ?_
      refine z_iload hX dX6_rolling_71 rfl ?_
      refine z_lload hX dX6_rolling_73 rfl ?_
      refine z_lconst (v := 0) hX dX6_rolling_75 rfl ?_
      refine z_lcmp hX dX6_rolling_76 ?_
      refine z_lif_ge (tgt := 84) hX dX6_rolling_77 (by decide) (fun c_77 => ?_) (fun c_77 => ?_)
      · -- 77 t
        rw [if_pos c_77, if_pos c_77] at ih2
        refine z_iconst (v := nI 1) hX dX6_rolling_84 rfl ?_
        first | with_reducible refine z_iaddN hX dX6_rolling_85 ?_ | refine z_iadd hX dX6_rolling_85 ?_
        refine z_istore (ls' := [_, _, _, _, _, _, _, _, _, _, _, _]) hX dX6_rolling_86 (Nat.le_of_ble_eq_true rfl) rfl ?_
        refine z_lload hX dX6_rolling_88 rfl ?_
        refine z_lload hX dX6_rolling_90 rfl ?_
        refine z_lconst (v := 0) hX dX6_rolling_92 rfl ?_
        refine z_lcmp hX dX6_rolling_93 ?_
        refine z_lif_ge (tgt := 101) hX dX6_rolling_94 (by decide) (fun c_94 => ?_) (fun c_94 => ?_)
        · -- 94 t
          have := c_94
          refine z_lload hX dX6_rolling_101 rfl ?_
          refine z_ladd hX dX6_rolling_103 ?_
          refine z_lstore (ls' := [_, _, _, _, _, _, _, _, _, _, _, _]) hX dX6_rolling_104 (Nat.le_of_ble_eq_true rfl) rfl ?_
          first | refine z_iincN (b := 1) (ls' := [_, _, _, _, _, _, _, _, _, _, _, _]) hX dX6_rolling_106 rfl rfl rfl ?_ | refine z_iinc (ls' := [_, _, _, _, _, _, _, _, _, _, _, _]) hX dX6_rolling_106 rfl rfl ?_
          refine z_goto (tgt := 53) hX dX6_rolling_109 (by decide) ?_
          refine z_forget (ls' := [some (.ref 0), some _, some _, some _, none, some _, some _, some _, none, some _, none, none]) ⟨rfl, rfl, rfl, rfl, rfl, rfl, rfl, rfl, trivial⟩ ih2
        · -- 94 f
          have := c_94
          refine z_lconst (v := 0) hX dX6_rolling_97 rfl ?_
          refine z_goto (tgt := 103) hX dX6_rolling_98 (by decide) ?_
          refine z_ladd hX dX6_rolling_103 ?_
          refine z_lstore (ls' := [_, _, _, _, _, _, _, _, _, _, _, _]) hX dX6_rolling_104 (Nat.le_of_ble_eq_true rfl) rfl ?_
          first | refine z_iincN (b := 1) (ls' := [_, _, _, _, _, _, _, _, _, _, _, _]) hX dX6_rolling_106 rfl rfl rfl ?_ | refine z_iinc (ls' := [_, _, _, _, _, _, _, _, _, _, _, _]) hX dX6_rolling_106 rfl rfl ?_
          refine z_goto (tgt := 53) hX dX6_rolling_109 (by decide) ?_
          exact absurd c_94 (Int64.not_lt.mpr c_77)
      · -- 77 f
        rw [if_neg (Int64.not_le.mpr c_77), if_neg (Int64.not_le.mpr c_77)] at ih2
        refine z_iconst (v := nI 0) hX dX6_rolling_80 rfl ?_
        refine z_goto (tgt := 85) hX dX6_rolling_81 (by decide) ?_
        first | with_reducible refine z_iaddN hX dX6_rolling_85 ?_ | refine z_iadd hX dX6_rolling_85 ?_
        refine z_istore (ls' := [_, _, _, _, _, _, _, _, _, _, _, _]) hX dX6_rolling_86 (Nat.le_of_ble_eq_true rfl) rfl ?_
        refine z_lload hX dX6_rolling_88 rfl ?_
        refine z_lload hX dX6_rolling_90 rfl ?_
        refine z_lconst (v := 0) hX dX6_rolling_92 rfl ?_
        refine z_lcmp hX dX6_rolling_93 ?_
        refine z_lif_ge (tgt := 101) hX dX6_rolling_94 (by decide) (fun c_94 => ?_) (fun c_94 => ?_)
        · -- 94 t
          have := c_94
          refine z_lload hX dX6_rolling_101 rfl ?_
          refine z_ladd hX dX6_rolling_103 ?_
          refine z_lstore (ls' := [_, _, _, _, _, _, _, _, _, _, _, _]) hX dX6_rolling_104 (Nat.le_of_ble_eq_true rfl) rfl ?_
          first | refine z_iincN (b := 1) (ls' := [_, _, _, _, _, _, _, _, _, _, _, _]) hX dX6_rolling_106 rfl rfl rfl ?_ | refine z_iinc (ls' := [_, _, _, _, _, _, _, _, _, _, _, _]) hX dX6_rolling_106 rfl rfl ?_
          refine z_goto (tgt := 53) hX dX6_rolling_109 (by decide) ?_
          exact absurd c_94 (Int64.not_le.mpr c_77)
        · -- 94 f
          have := c_94
          refine z_lconst (v := 0) hX dX6_rolling_97 rfl ?_
          refine z_goto (tgt := 103) hX dX6_rolling_98 (by decide) ?_
          refine z_ladd hX dX6_rolling_103 ?_
          refine z_lstore (ls' := [_, _, _, _, _, _, _, _, _, _, _, _]) hX dX6_rolling_104 (Nat.le_of_ble_eq_true rfl) rfl ?_
          first | refine z_iincN (b := 1) (ls' := [_, _, _, _, _, _, _, _, _, _, _, _]) hX dX6_rolling_106 rfl rfl rfl ?_ | refine z_iinc (ls' := [_, _, _, _, _, _, _, _, _, _, _, _]) hX dX6_rolling_106 rfl rfl ?_
          refine z_goto (tgt := 53) hX dX6_rolling_109 (by decide) ?_
          refine z_forget (ls' := [some (.ref 0), some _, some _, some _, none, some _, some _, some _, none, some _, none, none]) ⟨rfl, rfl, rfl, rfl, rfl, rfl, rfl, rfl, trivial⟩ ih2
set_option maxHeartbeats 4000000 in
set_option maxRecDepth 100000 in
theorem lp_roll_30 {X : ZX} {post : Option Value → ZW → Prop} (hX : ZOK X 6 cX6_rolling 2) (hR : ZRet X (some .long) post) (a : Nat → Nat → Int32) (b : Nat → Nat → Int64) (c : Nat → Int32) (d mn : Nat) (hd : d < 4) (hmn : mn ≤ 100) (h15 : a 15 d = nI mn) (wn : Nat) (hwn1 : 1 ≤ wn) (hwn : wn ≤ 24) (hpost : post (some (.long (rlF (b 16) d wn (mn + 1 - wn)))) (WM a b c)) : ∀ (n f : Nat) (bs : Int64), f ≤ mn + 1 - wn → mn + 1 - wn < f + n → bs = rlF (b 16) d wn f → ZG X 30 [some (.ref 0), some (.int (nI d)), some (.int (nI wn)), some (.long bs), none, some (.int (nI f)), none, none, none, none, none, none] [] (WM a b c) := by
  intro n
  induction n with
  | zero => intro f bs z1 z2; omega
  | succ n ih =>
    intro f bs hf1 hf2 hbs
    refine z_iload hX dX6_rolling_30 rfl ?_
    refine z_iload_n hX dX6_rolling_32 rfl ?_
    first | with_reducible refine z_iaddN hX dX6_rolling_33 ?_ | refine z_iadd hX dX6_rolling_33 ?_
    refine z_aload_n hX dX6_rolling_34 rfl ?_
    refine z_get hX dX6_rolling_35 f_6_54 rfl rfl ?_
    refine z_iload_n hX dX6_rolling_38 rfl ?_
    refine z_iald hX dX6_rolling_39 rfl (by omega) (by decide) ?_
    refine z_top h15 ?_
    first | with_reducible refine z_icmp_gtN (tgt := 144) hX dX6_rolling_40 (by decide) (by omega) (by omega) (fun c_40 => ?_) (fun c_40 => ?_) | refine z_icmp_gt (tgt := 144) hX dX6_rolling_40 (by decide) (fun c_40 => ?_) (fun c_40 => ?_)
    · -- 40 t
      have zf : f = mn + 1 - wn := by omega
      rw [← zf, ← hbs] at hpost
      refine z_lload_n hX dX6_rolling_144 rfl ?_
      refine z_lret hX hR dX6_rolling_145 ?_
      exact hpost
    · -- 40 f
      have hcn := cnF_le (b 16) d f wn
      refine z_iconst (v := nI 0) hX dX6_rolling_43 rfl ?_
      refine z_istore (ls' := [_, _, _, _, _, _, _, _, _, _, _, _]) hX dX6_rolling_44 (Nat.le_of_ble_eq_true rfl) rfl ?_
      refine z_lconst (v := 0) hX dX6_rolling_46 rfl ?_
      refine z_lstore (ls' := [_, _, _, _, _, _, _, _, _, _, _, _]) hX dX6_rolling_47 (Nat.le_of_ble_eq_true rfl) rfl ?_
      refine z_iload hX dX6_rolling_49 rfl ?_
      refine z_istore (ls' := [_, _, _, _, _, _, _, _, _, _, _, _]) hX dX6_rolling_51 (Nat.le_of_ble_eq_true rfl) rfl ?_
      refine lp_roll_53 hX hR a b c d mn hd hmn h15 wn f hwn (by omega) _ ?_ (wn + 1) 0 (by omega) (by omega)
      refine z_iconst (v := nI 2) hX dX6_rolling_112 rfl ?_
      refine z_iload hX dX6_rolling_113 rfl ?_
      first | with_reducible refine z_imulN hX dX6_rolling_115 ?_ | refine z_imul hX dX6_rolling_115 ?_
      refine z_iload_n hX dX6_rolling_116 rfl ?_
      first | with_reducible refine z_icmp_ltN (tgt := 138) hX dX6_rolling_117 (by decide) (by omega) (by omega) (fun c_117 => ?_) (fun c_117 => ?_) | refine z_icmp_lt (tgt := 138) hX dX6_rolling_117 (by decide) (fun c_117 => ?_) (fun c_117 => ?_)
      · -- 117 t
        first | refine z_iincN (b := 1) (ls' := [_, _, _, _, _, _, _, _, _, _, _, _]) hX dX6_rolling_138 rfl rfl rfl ?_ | refine z_iinc (ls' := [_, _, _, _, _, _, _, _, _, _, _, _]) hX dX6_rolling_138 rfl rfl ?_
        refine z_goto (tgt := 30) hX dX6_rolling_141 (by decide) ?_
        refine z_forget (ls' := [some (.ref 0), some _, some _, some _, none, some _, none, none, none, none, none, none]) ⟨rfl, rfl, rfl, rfl, rfl, trivial⟩ (ih (f + 1) _ (by omega) (by omega) ?_)
        rw [rlF_s, ← hbs]
        unfold rlT
        rw [if_neg (fun q => by omega)]
      · -- 117 f
        refine z_lload hX dX6_rolling_120 rfl ?_
        refine z_iload hX dX6_rolling_122 rfl ?_
        first | with_reducible refine z_i2lN hX dX6_rolling_124 (by omega) ?_ | refine z_i2l hX dX6_rolling_124 ?_
        refine z_ldiv hX dX6_rolling_125 (lN_ne (by omega) (by omega)) ?_
        refine z_lload_n hX dX6_rolling_126 rfl ?_
        refine z_lcmp hX dX6_rolling_127 ?_
        refine z_lif_le (tgt := 138) hX dX6_rolling_128 (by decide) (fun c_128 => ?_) (fun c_128 => ?_)
        · -- 128 t
          first | refine z_iincN (b := 1) (ls' := [_, _, _, _, _, _, _, _, _, _, _, _]) hX dX6_rolling_138 rfl rfl rfl ?_ | refine z_iinc (ls' := [_, _, _, _, _, _, _, _, _, _, _, _]) hX dX6_rolling_138 rfl rfl ?_
          refine z_goto (tgt := 30) hX dX6_rolling_141 (by decide) ?_
          refine z_forget (ls' := [some (.ref 0), some _, some _, some _, none, some _, none, none, none, none, none, none]) ⟨rfl, rfl, rfl, rfl, rfl, trivial⟩ (ih (f + 1) _ (by omega) (by omega) ?_)
          rw [rlF_s, ← hbs]
          unfold rlT
          rw [if_neg (fun q => absurd q.2 (Int64.not_lt.mpr c_128))]
        · -- 128 f
          refine z_lload hX dX6_rolling_131 rfl ?_
          refine z_iload hX dX6_rolling_133 rfl ?_
          first | with_reducible refine z_i2lN hX dX6_rolling_135 (by omega) ?_ | refine z_i2l hX dX6_rolling_135 ?_
          refine z_ldiv hX dX6_rolling_136 (lN_ne (by omega) (by omega)) ?_
          refine z_lstore_n (ls' := [_, _, _, _, _, _, _, _, _, _, _, _]) hX dX6_rolling_137 (Nat.le_of_ble_eq_true rfl) rfl ?_
          first | refine z_iincN (b := 1) (ls' := [_, _, _, _, _, _, _, _, _, _, _, _]) hX dX6_rolling_138 rfl rfl rfl ?_ | refine z_iinc (ls' := [_, _, _, _, _, _, _, _, _, _, _, _]) hX dX6_rolling_138 rfl rfl ?_
          refine z_goto (tgt := 30) hX dX6_rolling_141 (by decide) ?_
          refine z_forget (ls' := [some (.ref 0), some _, some _, some _, none, some _, none, none, none, none, none, none]) ⟨rfl, rfl, rfl, rfl, rfl, trivial⟩ (ih (f + 1) _ (by omega) (by omega) ?_)
          rw [rlF_s, ← hbs]
          unfold rlT
          rw [if_pos ⟨by omega, c_128⟩]
set_option maxHeartbeats 4000000 in
set_option maxRecDepth 100000 in
theorem c_X6_rolling (a : Nat → Nat → Int32) (b : Nat → Nat → Int64) (c : Nat → Int32) (hok : okM (a 15)) (x y : Int32) : ∀ l, ZC l yX6_rolling cX6_rolling 12 (some .long) 2 [.ref 0, .int x, .int y] (WM a b c) (fun r w' => w' = WM a b c ∧ ((¬ (zJ x 4 ∧ zB y 1 24) ∧ r = some (.long (-1))) ∨ ∃ d mn wn, d < 4 ∧ mn ≤ 100 ∧ 1 ≤ wn ∧ wn ≤ 24 ∧ x = nI d ∧ y = nI wn ∧ a 15 d = nI mn ∧ r = some (.long (rlF (b 16) d wn (mn + 1 - wn))))) := by
  intro l
  refine zc_intro (oc := 6) (by decide +kernel) rfl (Nat.le_of_ble_eq_true rfl) ?_
  intro X hX hR
  refine z_norm (ls' := [_, _, _, _, _, _, _, _, _, _, _, _]) rfl rfl rfl ?_
  refine z_iload_n hX dX6_rolling_0 rfl ?_
  refine z_callS0 hX dX6_rolling_1 ms_6_131 (c_X6_isDoor _ _) (by decide) rfl rfl (Nat.le_of_ble_eq_true rfl) (fun r w1 hp _ => ?_)
  obtain ⟨rfl, ⟨⟨d, hd, rfl⟩, rfl⟩ | ⟨hn_d, rfl⟩⟩ := hp
  · -- 1 T
    obtain ⟨mn, hmn, h15⟩ := hok d hd
    refine z_if_eq (tgt := 19) hX dX6_rolling_4 (by decide) (fun c => absurd c (by decide)) (fun _ => ?_)
    refine z_iload_n hX dX6_rolling_7 rfl ?_
    first | with_reducible refine z_i2lN hX dX6_rolling_8 (by omega) ?_ | refine z_i2l hX dX6_rolling_8 ?_
    refine z_lconst (v := 1) hX dX6_rolling_9 rfl ?_
    refine z_ldc2 hX dX6_rolling_10 k_6_154 ?_
    refine z_callS0 hX dX6_rolling_13 ms_6_71 (c_X6_in _ _ _ _) (by decide) rfl rfl (Nat.le_of_ble_eq_true rfl) (fun r w1 hp _ => ?_)
    obtain ⟨rfl, hp⟩ := hp
    rcases zinB (a := 1) (b := 24) rfl rfl hp with ⟨hB, rfl⟩ | ⟨hnB, rfl⟩
    · -- 13 T
      obtain ⟨wn, hw1, hw2, rfl⟩ : ∃ wn : Nat, 1 ≤ wn ∧ wn ≤ 24 ∧ y = nI wn := by
        have h5 := hB.1
        have h6 := hB.2
        refine ⟨y.toInt.toNat, by omega, by omega, ?_⟩
        rw [← Int32.toInt_inj, nI_toInt (by omega)]
        omega
      refine z_if_ne (tgt := 23) hX dX6_rolling_16 (by decide) (fun _ => ?_) (fun c => absurd c (by decide))
      refine z_ldc2 hX dX6_rolling_23 k_6_149 ?_
      refine z_lstore_n (ls' := [_, _, _, _, _, _, _, _, _, _, _, _]) hX dX6_rolling_26 (Nat.le_of_ble_eq_true rfl) rfl ?_
      refine z_iconst (v := nI 0) hX dX6_rolling_27 rfl ?_
      refine z_istore (ls' := [_, _, _, _, _, _, _, _, _, _, _, _]) hX dX6_rolling_28 (Nat.le_of_ble_eq_true rfl) rfl ?_
      exact lp_roll_30 hX hR a b c d mn hd hmn h15 wn hw1 hw2 ⟨rfl, Or.inr ⟨d, mn, wn, hd, hmn, hw1, hw2, rfl, rfl, h15, rfl⟩⟩ (mn + 2) 0 (-4) (by omega) (by omega) rfl
    · -- 13 F
      refine z_if_ne (tgt := 23) hX dX6_rolling_16 (by decide) (fun c => absurd c (by decide)) (fun _ => ?_)
      refine z_ldc2 hX dX6_rolling_19 k_6_99 ?_
      refine z_lret hX hR dX6_rolling_22 ?_
      exact ⟨rfl, Or.inl ⟨fun q => hnB q.2, rfl⟩⟩
  · -- 1 F
    refine z_if_eq (tgt := 19) hX dX6_rolling_4 (by decide) (fun _ => ?_) (fun c => absurd c (by decide))
    refine z_ldc2 hX dX6_rolling_19 k_6_99 ?_
    refine z_lret hX hR dX6_rolling_22 ?_
    exact ⟨rfl, Or.inl ⟨fun q => hn_d q.1, rfl⟩⟩
def s3F (sh : Nat → Int64) (t : Nat → Int32) (p n : Nat) : Int64 := zfold (fun q s => s + sh (p + q) * (nI 10 - t q).toInt64) n 0
theorem s3F_s (sh : Nat → Int64) (t : Nat → Int32) (p n : Nat) : s3F sh t p (n + 1) = s3F sh t p n + sh (p + n) * (nI 10 - t n).toInt64 := rfl
def abF (sh : Nat → Int64) (t : Nat → Int32) (lim : Int32) (d n : Nat) : Nat := zfold (fun k m => m + if 0 ≤ sh (300 * d + 3 * k) ∧ 10 * lim.toInt64 < s3F sh t (300 * d + 3 * k) 3 then 1 else 0) n 0
theorem abF_s (sh : Nat → Int64) (t : Nat → Int32) (lim : Int32) (d n : Nat) : abF sh t lim d (n + 1) = abF sh t lim d n + if 0 ≤ sh (300 * d + 3 * n) ∧ 10 * lim.toInt64 < s3F sh t (300 * d + 3 * n) 3 then 1 else 0 := rfl
theorem abF_le (sh : Nat → Int64) (t : Nat → Int32) (lim : Int32) (d : Nat) : ∀ n, abF sh t lim d n ≤ n
  | 0 => Nat.le_refl 0
  | n + 1 => by
    have := abF_le sh t lim d n
    rw [abF_s]
    split <;> omega
def kpP (sh : Nat → Int64) (t : Nat → Int32) (lim oft : Int32) (d mn : Nat) : Prop := nI (abF sh t lim d mn) ≤ oft
set_option maxHeartbeats 4000000 in
set_option maxRecDepth 100000 in
theorem lp_kept_43 {X : ZX} {post : Option Value → ZW → Prop} (hX : ZOK X 6 cX6_isKeptAt 0) (hR : ZRet X (some .boolean) post) (a : Nat → Nat → Int32) (b : Nat → Nat → Int64) (c : Nat → Int32) (d mn : Nat) (hd : d < 4) (hmn : mn ≤ 100) (h15 : a 15 d = nI mn) (k : Nat) (hk : k < mn) (K : ZG X 82 [some (.ref 0), some (.int (nI d)), some (.int (nI (abF (b 16) (a 18) (c 1) d k))), some (.int (nI k)), none, some (.long (s3F (b 16) (a 18) (300 * d + 3 * k) 3)), none, none] [] (WM a b c)) : ∀ (n q : Nat), q ≤ 3 → 3 < q + n → ZG X 43 [some (.ref 0), some (.int (nI d)), some (.int (nI (abF (b 16) (a 18) (c 1) d k))), some (.int (nI k)), some (.int (nI (300 * d + 3 * k))), some (.long (s3F (b 16) (a 18) (300 * d + 3 * k) q)), none, some (.int (nI q))] [] (WM a b c) := by
  intro n
  induction n with
  | zero => intro q z1 z2; omega
  | succ n ih =>
    intro q hq1 hq2
    refine z_iload hX dX6_isKeptAt_43 rfl ?_
    refine z_iconst (v := nI 3) hX dX6_isKeptAt_45 rfl ?_
    first | with_reducible refine z_icmp_geN (tgt := 82) hX dX6_isKeptAt_46 (by decide) (by omega) (by omega) (fun c_46 => ?_) (fun c_46 => ?_) | refine z_icmp_ge (tgt := 82) hX dX6_isKeptAt_46 (by decide) (fun c_46 => ?_) (fun c_46 => ?_)
    · -- 46 t
      have zq : q = 3 := by omega
      subst zq
      refine z_forget (ls' := [some (.ref 0), some _, some _, some _, none, some _, none, none]) ⟨rfl, rfl, rfl, rfl, rfl, trivial⟩ K
    · -- 46 f
      refine z_lload hX dX6_isKeptAt_49 rfl ?_
      refine z_aload_n hX dX6_isKeptAt_51 rfl ?_
      refine z_get hX dX6_isKeptAt_52 f_6_57 rfl rfl ?_
      refine z_iload hX dX6_isKeptAt_55 rfl ?_
      refine z_iload hX dX6_isKeptAt_57 rfl ?_
      first | with_reducible refine z_iaddN hX dX6_isKeptAt_59 ?_ | refine z_iadd hX dX6_isKeptAt_59 ?_
      refine z_lald hX dX6_isKeptAt_60 rfl (by omega) (by decide) ?_
      refine z_bipush (v := nI 10) hX dX6_isKeptAt_61 rfl ?_
      refine z_aload_n hX dX6_isKeptAt_63 rfl ?_
      refine z_get hX dX6_isKeptAt_64 f_6_63 rfl rfl ?_
      refine z_iload hX dX6_isKeptAt_67 rfl ?_
      first | refine z_iald hX dX6_isKeptAt_69 rfl (by omega) (by decide) ?_ | refine z_stld (nm := "FROM") (xs := zFROM) hX dX6_isKeptAt_69 (fun _ _ _ _ h => h.1) (by show _ < 24; omega) (by decide) ?_ | refine z_stld (nm := "TO") (xs := zTO) hX dX6_isKeptAt_69 (fun _ _ _ _ h => h.2.1) (by show _ < 24; omega) (by decide) ?_ | refine z_stld (nm := "FALL") (xs := zFALL) hX dX6_isKeptAt_69 (fun _ _ _ _ h => h.2.2.1) (by show _ < 81; omega) (by decide) ?_
      refine z_isub hX dX6_isKeptAt_70 ?_
      refine z_i2l hX dX6_isKeptAt_71 ?_
      refine z_lmul hX dX6_isKeptAt_72 ?_
      refine z_ladd hX dX6_isKeptAt_73 ?_
      refine z_lstore (ls' := [_, _, _, _, _, _, _, _]) hX dX6_isKeptAt_74 (Nat.le_of_ble_eq_true rfl) rfl ?_
      first | refine z_iincN (b := 1) (ls' := [_, _, _, _, _, _, _, _]) hX dX6_isKeptAt_76 rfl rfl rfl ?_ | refine z_iinc (ls' := [_, _, _, _, _, _, _, _]) hX dX6_isKeptAt_76 rfl rfl ?_
      refine z_goto (tgt := 43) hX dX6_isKeptAt_79 (by decide) ?_
      exact ih (q + 1) (by omega) (by omega)
set_option maxHeartbeats 4000000 in
set_option maxRecDepth 100000 in
theorem lp_kept_4 {X : ZX} {post : Option Value → ZW → Prop} (hX : ZOK X 6 cX6_isKeptAt 0) (hR : ZRet X (some .boolean) post) (a : Nat → Nat → Int32) (b : Nat → Nat → Int64) (c : Nat → Int32) (d mn : Nat) (hd : d < 4) (hmn : mn ≤ 100) (h15 : a 15 d = nI mn) (hpost1 : kpP (b 16) (a 18) (c 1) (c 2) d mn → post (some (.int (nI 1))) (WM a b c)) (hpost2 : ¬ kpP (b 16) (a 18) (c 1) (c 2) d mn → post (some (.int (nI 0))) (WM a b c)) : ∀ (n k : Nat), k ≤ mn → mn < k + n → ZG X 4 [some (.ref 0), some (.int (nI d)), some (.int (nI (abF (b 16) (a 18) (c 1) d k))), some (.int (nI k)), none, none, none, none] [] (WM a b c) := by
  intro n
  induction n with
  | zero => intro k z1 z2; omega
  | succ n ih =>
    intro k hk1 hk2
    refine z_iload_n hX dX6_isKeptAt_4 rfl ?_
    refine z_aload_n hX dX6_isKeptAt_5 rfl ?_
    refine z_get hX dX6_isKeptAt_6 f_6_54 rfl rfl ?_
    refine z_iload_n hX dX6_isKeptAt_9 rfl ?_
    refine z_iald hX dX6_isKeptAt_10 rfl (by omega) (by decide) ?_
    refine z_top h15 ?_
    first | with_reducible refine z_icmp_geN (tgt := 111) hX dX6_isKeptAt_11 (by decide) (by omega) (by omega) (fun c_11 => ?_) (fun c_11 => ?_) | refine z_icmp_ge (tgt := 111) hX dX6_isKeptAt_11 (by decide) (fun c_11 => ?_) (fun c_11 => ?_)
    · -- 11 t
      have zk : k = mn := by omega
      subst zk
      refine z_iload_n hX dX6_isKeptAt_111 rfl ?_
      refine z_aload_n hX dX6_isKeptAt_112 rfl ?_
      refine z_get hX dX6_isKeptAt_113 f_6_161 rfl rfl ?_
      refine z_icmp_gt (tgt := 123) hX dX6_isKeptAt_116 (by decide) (fun c_116 => ?_) (fun c_116 => ?_)
      · -- 116 t
        refine z_iconst (v := nI 0) hX dX6_isKeptAt_123 rfl ?_
        refine z_zret hX hR dX6_isKeptAt_124 (by first | exact Or.inl rfl | exact Or.inr rfl | assumption) ?_
        exact hpost2 (fun q => absurd q (Int32.not_le.mpr c_116))
      · -- 116 f
        refine z_iconst (v := nI 1) hX dX6_isKeptAt_119 rfl ?_
        refine z_goto (tgt := 124) hX dX6_isKeptAt_120 (by decide) ?_
        refine z_zret hX hR dX6_isKeptAt_124 (by first | exact Or.inl rfl | exact Or.inr rfl | assumption) ?_
        exact hpost1 (Int32.not_lt.mp c_116)
    · -- 11 f
      have ih2 := ih (k + 1) (by omega) (by omega)
      rw [abF_s] at ih2
      have hle := abF_le (b 16) (a 18) (c 1) d k
      refine z_sipush (v := nI 300) hX dX6_isKeptAt_14 rfl ?_
      refine z_iload_n hX dX6_isKeptAt_17 rfl ?_
      first | with_reducible refine z_imulN hX dX6_isKeptAt_18 ?_ | refine z_imul hX dX6_isKeptAt_18 ?_
      refine z_iconst (v := nI 3) hX dX6_isKeptAt_19 rfl ?_
      refine z_iload_n hX dX6_isKeptAt_20 rfl ?_
      first | with_reducible refine z_imulN hX dX6_isKeptAt_21 ?_ | refine z_imul hX dX6_isKeptAt_21 ?_
      first | with_reducible refine z_iaddN hX dX6_isKeptAt_22 ?_ | refine z_iadd hX dX6_isKeptAt_22 ?_
      refine z_istore (ls' := [_, _, _, _, _, _, _, _]) hX dX6_isKeptAt_23 (Nat.le_of_ble_eq_true rfl) rfl ?_
      refine z_aload_n hX dX6_isKeptAt_25 rfl ?_
      refine z_get hX dX6_isKeptAt_26 f_6_57 rfl rfl ?_
      refine z_iload hX dX6_isKeptAt_29 rfl ?_
      refine z_lald hX dX6_isKeptAt_31 rfl (by omega) (by decide) ?_
      refine z_lconst (v := 0) hX dX6_isKeptAt_32 rfl ?_
      refine z_lcmp hX dX6_isKeptAt_33 ?_
      refine z_lif_lt (tgt := 105) hX dX6_isKeptAt_34 (by decide) (fun c_34 => ?_) (fun c_34 => ?_)
      · -- 34 t
        rw [if_neg (fun q => absurd q.1 (Int64.not_le.mpr c_34)), Nat.add_zero] at ih2
        first | refine z_iincN (b := 1) (ls' := [_, _, _, _, _, _, _, _]) hX dX6_isKeptAt_105 rfl rfl rfl ?_ | refine z_iinc (ls' := [_, _, _, _, _, _, _, _]) hX dX6_isKeptAt_105 rfl rfl ?_
        refine z_goto (tgt := 4) hX dX6_isKeptAt_108 (by decide) ?_
        refine z_forget (ls' := [some (.ref 0), some _, some _, some _, none, none, none, none]) ⟨rfl, rfl, rfl, rfl, trivial⟩ ih2
      · -- 34 f
        refine z_lconst (v := 0) hX dX6_isKeptAt_37 rfl ?_
        refine z_lstore (ls' := [_, _, _, _, _, _, _, _]) hX dX6_isKeptAt_38 (Nat.le_of_ble_eq_true rfl) rfl ?_
        refine z_iconst (v := nI 0) hX dX6_isKeptAt_40 rfl ?_
        refine z_istore (ls' := [_, _, _, _, _, _, _, _]) hX dX6_isKeptAt_41 (Nat.le_of_ble_eq_true rfl) rfl ?_
        refine lp_kept_43 hX hR a b c d mn hd hmn h15 k c_11 ?_ 4 0 (by omega) (by omega)
        refine z_iload_n hX dX6_isKeptAt_82 rfl ?_
        refine z_lload hX dX6_isKeptAt_83 rfl ?_
        refine z_ldc2 hX dX6_isKeptAt_85 k_6_156 ?_
        refine z_aload_n hX dX6_isKeptAt_88 rfl ?_
        refine z_get hX dX6_isKeptAt_89 f_6_158 rfl rfl ?_
        refine z_i2l hX dX6_isKeptAt_92 ?_
        refine z_lmul hX dX6_isKeptAt_93 ?_
        refine z_lcmp hX dX6_isKeptAt_94 ?_
        refine z_lif_le (tgt := 102) hX dX6_isKeptAt_95 (by decide) (fun c_95 => ?_) (fun c_95 => ?_)
        · -- 95 t
          rw [if_neg (fun q => absurd q.2 (Int64.not_lt.mpr c_95))] at ih2
          refine z_iconst (v := nI 0) hX dX6_isKeptAt_102 rfl ?_
          first | with_reducible refine z_iaddN hX dX6_isKeptAt_103 ?_ | refine z_iadd hX dX6_isKeptAt_103 ?_
          refine z_istore_n (ls' := [_, _, _, _, _, _, _, _]) hX dX6_isKeptAt_104 (Nat.le_of_ble_eq_true rfl) rfl ?_
          first | refine z_iincN (b := 1) (ls' := [_, _, _, _, _, _, _, _]) hX dX6_isKeptAt_105 rfl rfl rfl ?_ | refine z_iinc (ls' := [_, _, _, _, _, _, _, _]) hX dX6_isKeptAt_105 rfl rfl ?_
          refine z_goto (tgt := 4) hX dX6_isKeptAt_108 (by decide) ?_
          refine z_forget (ls' := [some (.ref 0), some _, some _, some _, none, none, none, none]) ⟨rfl, rfl, rfl, rfl, trivial⟩ ih2
        · -- 95 f
          rw [if_pos ⟨c_34, c_95⟩] at ih2
          refine z_iconst (v := nI 1) hX dX6_isKeptAt_98 rfl ?_
          refine z_goto (tgt := 103) hX dX6_isKeptAt_99 (by decide) ?_
          first | with_reducible refine z_iaddN hX dX6_isKeptAt_103 ?_ | refine z_iadd hX dX6_isKeptAt_103 ?_
          refine z_istore_n (ls' := [_, _, _, _, _, _, _, _]) hX dX6_isKeptAt_104 (Nat.le_of_ble_eq_true rfl) rfl ?_
          first | refine z_iincN (b := 1) (ls' := [_, _, _, _, _, _, _, _]) hX dX6_isKeptAt_105 rfl rfl rfl ?_ | refine z_iinc (ls' := [_, _, _, _, _, _, _, _]) hX dX6_isKeptAt_105 rfl rfl ?_
          refine z_goto (tgt := 4) hX dX6_isKeptAt_108 (by decide) ?_
          refine z_forget (ls' := [some (.ref 0), some _, some _, some _, none, none, none, none]) ⟨rfl, rfl, rfl, rfl, trivial⟩ ih2
set_option maxHeartbeats 4000000 in
set_option maxRecDepth 100000 in
theorem c_X6_isKeptAt (a : Nat → Nat → Int32) (b : Nat → Nat → Int64) (c : Nat → Int32) (d mn : Nat) (hd : d < 4) (hmn : mn ≤ 100) (h15 : a 15 d = nI mn) : ∀ l, ZC l yX6_isKeptAt cX6_isKeptAt 8 (some .boolean) 0 [.ref 0, .int (nI d)] (WM a b c) (fun r w' => w' = WM a b c ∧ ((kpP (b 16) (a 18) (c 1) (c 2) d mn ∧ r = some (.int (nI 1))) ∨ (¬ kpP (b 16) (a 18) (c 1) (c 2) d mn ∧ r = some (.int (nI 0))))) := by
  intro l
  refine zc_intro (oc := 6) (by decide +kernel) rfl (Nat.le_of_ble_eq_true rfl) ?_
  intro X hX hR
  refine z_norm (ls' := [_, _, _, _, _, _, _, _]) rfl rfl rfl ?_
  refine z_iconst (v := nI 0) hX dX6_isKeptAt_0 rfl ?_
  refine z_istore_n (ls' := [_, _, _, _, _, _, _, _]) hX dX6_isKeptAt_1 (Nat.le_of_ble_eq_true rfl) rfl ?_
  refine z_iconst (v := nI 0) hX dX6_isKeptAt_2 rfl ?_
  refine z_istore_n (ls' := [_, _, _, _, _, _, _, _]) hX dX6_isKeptAt_3 (Nat.le_of_ble_eq_true rfl) rfl ?_
  exact lp_kept_4 hX hR a b c d mn hd hmn h15 (fun h => ⟨rfl, Or.inl ⟨h, rfl⟩⟩) (fun h => ⟨rfl, Or.inr ⟨h, rfl⟩⟩) (mn + 1) 0 (by omega) (by omega)
def t3F (t : Nat → Int32) (x y z : Int32) : Nat → Int32 := upd (upd (upd t 0 x) 1 y) 2 z
set_option maxHeartbeats 4000000 in
set_option maxRecDepth 100000 in
theorem c_X6_setTenths (a : Nat → Nat → Int32) (b : Nat → Nat → Int64) (c : Nat → Int32) (x y z : Int32) : ∀ l, ZC l yX6_setTenths cX6_setTenths 4 none 0 [.ref 0, .int x, .int y, .int z] (WM a b c) (fun r w' => r = none ∧ w' = WM (va_up a 18 (t3F (a 18) x y z)) b c) := by
  intro l
  refine zc_intro (oc := 6) (by decide +kernel) rfl (Nat.le_of_ble_eq_true rfl) ?_
  intro X hX hR
  refine z_norm (ls' := [_, _, _, _]) rfl rfl rfl ?_
  refine z_aload_n hX dX6_setTenths_0 rfl ?_
  refine z_get hX dX6_setTenths_1 f_6_63 rfl rfl ?_
  refine z_iconst (v := nI 0) hX dX6_setTenths_4 rfl ?_
  refine z_iload_n hX dX6_setTenths_5 rfl ?_
  refine z_iast (w' := [_, _, _, _, _, _, _, _, _, _, _, _, _, _, _, _, _, _, _, _]) hX dX6_setTenths_6 rfl (by omega) (by decide) rfl ?_
  refine z_aload_n hX dX6_setTenths_7 rfl ?_
  refine z_get hX dX6_setTenths_8 f_6_63 rfl rfl ?_
  refine z_iconst (v := nI 1) hX dX6_setTenths_11 rfl ?_
  refine z_iload_n hX dX6_setTenths_12 rfl ?_
  refine z_iast (w' := [_, _, _, _, _, _, _, _, _, _, _, _, _, _, _, _, _, _, _, _]) hX dX6_setTenths_13 rfl (by omega) (by decide) rfl ?_
  refine z_aload_n hX dX6_setTenths_14 rfl ?_
  refine z_get hX dX6_setTenths_15 f_6_63 rfl rfl ?_
  refine z_iconst (v := nI 2) hX dX6_setTenths_18 rfl ?_
  refine z_iload_n hX dX6_setTenths_19 rfl ?_
  refine z_iast (w' := [_, _, _, _, _, _, _, _, _, _, _, _, _, _, _, _, _, _, _, _]) hX dX6_setTenths_20 rfl (by omega) (by decide) rfl ?_
  refine z_vret hX hR dX6_setTenths_21 ?_
  exact ⟨rfl, rfl⟩
set_option maxHeartbeats 4000000 in
set_option maxRecDepth 100000 in
theorem c_X6_price (a : Nat → Nat → Int32) (b : Nat → Nat → Int64) (c : Nat → Int32) (x y : Int32) : ∀ l, ZC l yX6_price cX6_price 4 (some .int) 1 [.ref 0, .int x, .int y] (WM a b c) (fun r w' => (¬ (zJ x 3 ∧ zB y 0 1000) ∧ r = some (.int (-1)) ∧ w' = WM a b c) ∨ ∃ f, f < 3 ∧ x = nI f ∧ zB y 0 1000 ∧ r = some (.int (a 17 f)) ∧ w' = WM (va_up a 17 (upd (a 17) f y)) b c) := by
  intro l
  refine zc_intro (oc := 6) (by decide +kernel) rfl (Nat.le_of_ble_eq_true rfl) ?_
  intro X hX hR
  refine z_norm (ls' := [_, _, _, _]) rfl rfl rfl ?_
  refine z_iload_n hX dX6_price_0 rfl ?_
  first | with_reducible refine z_i2lN hX dX6_price_1 (by omega) ?_ | refine z_i2l hX dX6_price_1 ?_
  refine z_lconst (v := 0) hX dX6_price_2 rfl ?_
  refine z_ldc2 hX dX6_price_3 k_6_79 ?_
  refine z_callS0 hX dX6_price_6 ms_6_71 (c_X6_in _ _ _ _) (by decide) rfl rfl (Nat.le_of_ble_eq_true rfl) (fun r w1 hp _ => ?_)
  obtain ⟨rfl, hp⟩ := hp
  rcases zinJ (n := 3) rfl (by decide) hp with ⟨⟨f, hf, rfl⟩, rfl⟩ | ⟨hn_f, rfl⟩
  · -- 6 T
    refine z_if_eq (tgt := 24) hX dX6_price_9 (by decide) (fun c => absurd c (by decide)) (fun _ => ?_)
    refine z_iload_n hX dX6_price_12 rfl ?_
    first | with_reducible refine z_i2lN hX dX6_price_13 (by omega) ?_ | refine z_i2l hX dX6_price_13 ?_
    refine z_lconst (v := 0) hX dX6_price_14 rfl ?_
    refine z_ldc2 hX dX6_price_15 k_6_127 ?_
    refine z_callS0 hX dX6_price_18 ms_6_71 (c_X6_in _ _ _ _) (by decide) rfl rfl (Nat.le_of_ble_eq_true rfl) (fun r w1 hp _ => ?_)
    obtain ⟨rfl, hp⟩ := hp
    rcases zinB (a := 0) (b := 1000) rfl rfl hp with ⟨hB, rfl⟩ | ⟨hnB, rfl⟩
    · -- 18 T
      refine z_if_ne (tgt := 26) hX dX6_price_21 (by decide) (fun _ => ?_) (fun c => absurd c (by decide))
      refine z_aload_n hX dX6_price_26 rfl ?_
      refine z_get hX dX6_price_27 f_6_60 rfl rfl ?_
      refine z_iload_n hX dX6_price_30 rfl ?_
      first | refine z_iald hX dX6_price_31 rfl (by omega) (by decide) ?_ | refine z_stld (nm := "FROM") (xs := zFROM) hX dX6_price_31 (fun _ _ _ _ h => h.1) (by show _ < 24; omega) (by decide) ?_ | refine z_stld (nm := "TO") (xs := zTO) hX dX6_price_31 (fun _ _ _ _ h => h.2.1) (by show _ < 24; omega) (by decide) ?_ | refine z_stld (nm := "FALL") (xs := zFALL) hX dX6_price_31 (fun _ _ _ _ h => h.2.2.1) (by show _ < 81; omega) (by decide) ?_
      refine z_istore_n (ls' := [_, _, _, _]) hX dX6_price_32 (Nat.le_of_ble_eq_true rfl) rfl ?_
      refine z_aload_n hX dX6_price_33 rfl ?_
      refine z_get hX dX6_price_34 f_6_60 rfl rfl ?_
      refine z_iload_n hX dX6_price_37 rfl ?_
      refine z_iload_n hX dX6_price_38 rfl ?_
      refine z_iast (w' := [_, _, _, _, _, _, _, _, _, _, _, _, _, _, _, _, _, _, _, _]) hX dX6_price_39 rfl (by omega) (by decide) rfl ?_
      refine z_iload_n hX dX6_price_40 rfl ?_
      refine z_iret hX hR dX6_price_41 ?_
      exact Or.inr ⟨f, hf, rfl, hB, rfl, rfl⟩
    · -- 18 F
      refine z_if_ne (tgt := 26) hX dX6_price_21 (by decide) (fun c => absurd c (by decide)) (fun _ => ?_)
      refine z_iconst (v := -1) hX dX6_price_24 rfl ?_
      refine z_iret hX hR dX6_price_25 ?_
      exact Or.inl ⟨fun q => hnB q.2, rfl, rfl⟩
  · -- 6 F
    refine z_if_eq (tgt := 24) hX dX6_price_9 (by decide) (fun _ => ?_) (fun c => absurd c (by decide))
    refine z_iconst (v := -1) hX dX6_price_24 rfl ?_
    refine z_iret hX hR dX6_price_25 ?_
    exact Or.inl ⟨fun q => hn_f q.1, rfl, rfl⟩
def okD (sh : Nat → Int64) (t a14 a15 : Nat → Int32) (lim oft : Int32) (d : Nat) : Prop := kpP sh t lim oft d (a15 d).toNatClampNeg
/-- how many of the first n doors are watched and keep the law -/
def lwF (sh : Nat → Int64) (t a14 a15 : Nat → Int32) (lim oft : Int32) : Nat → Nat → Prop
  | 0, m => m = 0
  | n + 1, m => ∃ m0, lwF sh t a14 a15 lim oft n m0 ∧ ((¬ a14 n = 0 ∧ okD sh t a14 a15 lim oft n ∧ m = m0 + 1) ∨ ((a14 n = 0 ∨ ¬ okD sh t a14 a15 lim oft n) ∧ m = m0))
theorem lwF_le {sh : Nat → Int64} {t a14 a15 : Nat → Int32} {lim oft : Int32} : ∀ {n m : Nat}, lwF sh t a14 a15 lim oft n m → m ≤ n
  | 0, m, h => by have : m = 0 := h; omega
  | n + 1, m, h => by
    obtain ⟨m0, h1, h2⟩ := h
    have := lwF_le h1
    rcases h2 with ⟨-, -, h2⟩ | ⟨-, h2⟩ <;> omega
set_option maxHeartbeats 4000000 in
set_option maxRecDepth 100000 in
theorem lp_law_48 {X : ZX} {post : Option Value → ZW → Prop} (hX : ZOK X 6 cX6_law 1) (hR : ZRet X (some .int) post) (a : Nat → Nat → Int32) (b : Nat → Nat → Int64) (c : Nat → Int32) (hok : okM (a 15)) (x y : Int32) (hpost : ∀ m, lwF (b 16) (a 18) (a 14) (a 15) (c 1) (c 2) 4 m → post (some (.int (nI m))) (WM a b c)) : ∀ (n k m : Nat), k ≤ 4 → 4 < k + n → lwF (b 16) (a 18) (a 14) (a 15) (c 1) (c 2) k m → ZG X 48 [some (.ref 0), some (.int x), some (.int y), some (.int (nI m)), some (.int (nI k))] [] (WM a b c) := by
  intro n
  induction n with
  | zero => intro k m z1 z2; omega
  | succ n ih =>
    intro k m hk1 hk2 hm
    refine z_iload hX dX6_law_48 rfl ?_
    refine z_iconst (v := nI 4) hX dX6_law_50 rfl ?_
    first | with_reducible refine z_icmp_geN (tgt := 87) hX dX6_law_51 (by decide) (by omega) (by omega) (fun c_51 => ?_) (fun c_51 => ?_) | refine z_icmp_ge (tgt := 87) hX dX6_law_51 (by decide) (fun c_51 => ?_) (fun c_51 => ?_)
    · -- 51 t
      have zk : k = 4 := by omega
      subst zk
      refine z_iload_n hX dX6_law_87 rfl ?_
      refine z_iret hX hR dX6_law_88 ?_
      exact hpost m hm
    · -- 51 f
      obtain ⟨zmn, zmn1, zmn2⟩ := hok k (by omega)
      have zcl : (a 15 k).toNatClampNeg = zmn := by rw [zmn2, nI_clamp (by omega)]
      have hle := lwF_le hm
      refine z_iload_n hX dX6_law_54 rfl ?_
      refine z_aload_n hX dX6_law_55 rfl ?_
      refine z_get hX dX6_law_56 f_6_51 rfl rfl ?_
      refine z_iload hX dX6_law_59 rfl ?_
      refine z_zald hX dX6_law_61 rfl (by omega) (by decide) ?_
      refine z_if_eq (tgt := 78) hX dX6_law_62 (by decide) (fun c_62 => ?_) (fun c_62 => ?_)
      · -- 62 t
        refine z_iconst (v := nI 0) hX dX6_law_78 rfl ?_
        first | with_reducible refine z_iaddN hX dX6_law_79 ?_ | refine z_iadd hX dX6_law_79 ?_
        refine z_istore_n (ls' := [_, _, _, _, _]) hX dX6_law_80 (Nat.le_of_ble_eq_true rfl) rfl ?_
        first | refine z_iincN (b := 1) (ls' := [_, _, _, _, _]) hX dX6_law_81 rfl rfl rfl ?_ | refine z_iinc (ls' := [_, _, _, _, _]) hX dX6_law_81 rfl rfl ?_
        refine z_goto (tgt := 48) hX dX6_law_84 (by decide) ?_
        exact ih (k + 1) m (by omega) (by omega) ⟨m, hm, Or.inr ⟨Or.inl c_62, rfl⟩⟩
      · -- 62 f
        refine z_aload_n hX dX6_law_65 rfl ?_
        refine z_iload hX dX6_law_66 rfl ?_
        refine z_callV0 hX dX6_law_68 mv_6_170 (c_X6_isKeptAt a b c k zmn (by omega) zmn1 zmn2) (by decide) rfl rfl rfl rfl (Nat.le_of_ble_eq_true rfl) (fun r w1 hp _ => ?_)
        obtain ⟨rfl, ⟨hK1, rfl⟩ | ⟨hK1, rfl⟩⟩ := hp
        · -- 68 T
          refine z_if_eq (tgt := 78) hX dX6_law_71 (by decide) (fun c => absurd c (by decide)) (fun _ => ?_)
          refine z_iconst (v := nI 1) hX dX6_law_74 rfl ?_
          refine z_goto (tgt := 79) hX dX6_law_75 (by decide) ?_
          first | with_reducible refine z_iaddN hX dX6_law_79 ?_ | refine z_iadd hX dX6_law_79 ?_
          refine z_istore_n (ls' := [_, _, _, _, _]) hX dX6_law_80 (Nat.le_of_ble_eq_true rfl) rfl ?_
          first | refine z_iincN (b := 1) (ls' := [_, _, _, _, _]) hX dX6_law_81 rfl rfl rfl ?_ | refine z_iinc (ls' := [_, _, _, _, _]) hX dX6_law_81 rfl rfl ?_
          refine z_goto (tgt := 48) hX dX6_law_84 (by decide) ?_
          exact ih (k + 1) (m + 1) (by omega) (by omega) ⟨m, hm, Or.inl ⟨c_62, by unfold okD; rw [zcl]; exact hK1, rfl⟩⟩
        · -- 68 F
          refine z_if_eq (tgt := 78) hX dX6_law_71 (by decide) (fun _ => ?_) (fun c => absurd c (by decide))
          refine z_iconst (v := nI 0) hX dX6_law_78 rfl ?_
          first | with_reducible refine z_iaddN hX dX6_law_79 ?_ | refine z_iadd hX dX6_law_79 ?_
          refine z_istore_n (ls' := [_, _, _, _, _]) hX dX6_law_80 (Nat.le_of_ble_eq_true rfl) rfl ?_
          first | refine z_iincN (b := 1) (ls' := [_, _, _, _, _]) hX dX6_law_81 rfl rfl rfl ?_ | refine z_iinc (ls' := [_, _, _, _, _]) hX dX6_law_81 rfl rfl ?_
          refine z_goto (tgt := 48) hX dX6_law_84 (by decide) ?_
          exact ih (k + 1) m (by omega) (by omega) ⟨m, hm, Or.inr ⟨Or.inr (by unfold okD; rw [zcl]; exact hK1), rfl⟩⟩
set_option maxHeartbeats 4000000 in
set_option maxRecDepth 100000 in
theorem c_X6_law (a : Nat → Nat → Int32) (b : Nat → Nat → Int64) (c : Nat → Int32) (hok : okM (a 15)) (x y : Int32) : ∀ l, ZC l yX6_law cX6_law 5 (some .int) 1 [.ref 0, .int x, .int y] (WM a b c) (fun r w' => (¬ (zB x 0 1000000000 ∧ zB y 0 100) ∧ r = some (.int (-1)) ∧ w' = WM a b c) ∨ ∃ m, zB x 0 1000000000 ∧ zB y 0 100 ∧ lwF (b 16) (t3F (a 18) (nI 0) (nI 0) (nI 0)) (a 14) (a 15) x y 4 m ∧ r = some (.int (nI m)) ∧ w' = WM (va_up a 18 (t3F (a 18) (nI 0) (nI 0) (nI 0))) b (va_up (va_up c 1 x) 2 y)) := by
  intro l
  refine zc_intro (oc := 6) (by decide +kernel) rfl (Nat.le_of_ble_eq_true rfl) ?_
  intro X hX hR
  refine z_norm (ls' := [_, _, _, _, _]) rfl rfl rfl ?_
  refine z_iload_n hX dX6_law_0 rfl ?_
  first | with_reducible refine z_i2lN hX dX6_law_1 (by omega) ?_ | refine z_i2l hX dX6_law_1 ?_
  refine z_lconst (v := 0) hX dX6_law_2 rfl ?_
  refine z_ldc2 hX dX6_law_3 k_6_164 ?_
  refine z_callS0 hX dX6_law_6 ms_6_71 (c_X6_in _ _ _ _) (by decide) rfl rfl (Nat.le_of_ble_eq_true rfl) (fun r w1 hp _ => ?_)
  obtain ⟨rfl, hp⟩ := hp
  rcases zinB (a := 0) (b := 1000000000) rfl rfl hp with ⟨hB1, rfl⟩ | ⟨hnB1, rfl⟩
  · -- 6 T
    refine z_if_eq (tgt := 24) hX dX6_law_9 (by decide) (fun c => absurd c (by decide)) (fun _ => ?_)
    refine z_iload_n hX dX6_law_12 rfl ?_
    first | with_reducible refine z_i2lN hX dX6_law_13 (by omega) ?_ | refine z_i2l hX dX6_law_13 ?_
    refine z_lconst (v := 0) hX dX6_law_14 rfl ?_
    refine z_ldc2 hX dX6_law_15 k_6_77 ?_
    refine z_callS0 hX dX6_law_18 ms_6_71 (c_X6_in _ _ _ _) (by decide) rfl rfl (Nat.le_of_ble_eq_true rfl) (fun r w1 hp _ => ?_)
    obtain ⟨rfl, hp⟩ := hp
    rcases zinB (a := 0) (b := 100) rfl rfl hp with ⟨hB, rfl⟩ | ⟨hnB, rfl⟩
    · -- 18 T
      refine z_if_ne (tgt := 26) hX dX6_law_21 (by decide) (fun _ => ?_) (fun c => absurd c (by decide))
      refine z_aload_n hX dX6_law_26 rfl ?_
      refine z_iload_n hX dX6_law_27 rfl ?_
      refine z_puti (fs' := [_, _, _, _, _, _, _, _, _, _, _, _, _, _, _, _, _, _, _, _, _, _]) (w' := [_, _, _, _, _, _, _, _, _, _, _, _, _, _, _, _, _, _, _, _]) hX dX6_law_28 p_6_158 rfl (Nat.le_of_ble_eq_true rfl) rfl rfl ?_
      refine z_aload_n hX dX6_law_31 rfl ?_
      refine z_iload_n hX dX6_law_32 rfl ?_
      refine z_puti (fs' := [_, _, _, _, _, _, _, _, _, _, _, _, _, _, _, _, _, _, _, _, _, _]) (w' := [_, _, _, _, _, _, _, _, _, _, _, _, _, _, _, _, _, _, _, _]) hX dX6_law_33 p_6_161 rfl (Nat.le_of_ble_eq_true rfl) rfl rfl ?_
      refine z_aload_n hX dX6_law_36 rfl ?_
      refine z_iconst (v := nI 0) hX dX6_law_37 rfl ?_
      refine z_iconst (v := nI 0) hX dX6_law_38 rfl ?_
      refine z_iconst (v := nI 0) hX dX6_law_39 rfl ?_
      refine z_callV0 hX dX6_law_40 mv_6_166 (c_X6_setTenths a b (va_up (va_up c 1 x) 2 y) _ _ _) (by decide) rfl rfl rfl rfl (Nat.le_of_ble_eq_true rfl) (fun r w1 hp _ => ?_)
      obtain ⟨rfl, rfl⟩ := hp
      refine z_iconst (v := nI 0) hX dX6_law_43 rfl ?_
      refine z_istore_n (ls' := [_, _, _, _, _]) hX dX6_law_44 (Nat.le_of_ble_eq_true rfl) rfl ?_
      refine z_iconst (v := nI 0) hX dX6_law_45 rfl ?_
      refine z_istore (ls' := [_, _, _, _, _]) hX dX6_law_46 (Nat.le_of_ble_eq_true rfl) rfl ?_
      exact lp_law_48 hX hR (va_up a 18 (t3F (a 18) (nI 0) (nI 0) (nI 0))) b (va_up (va_up c 1 x) 2 y) hok x y (fun m hm => Or.inr ⟨m, hB1, hB, hm, rfl, rfl⟩) 5 0 0 (by omega) (by omega) rfl
    · -- 18 F
      refine z_if_ne (tgt := 26) hX dX6_law_21 (by decide) (fun c => absurd c (by decide)) (fun _ => ?_)
      refine z_iconst (v := -1) hX dX6_law_24 rfl ?_
      refine z_iret hX hR dX6_law_25 ?_
      exact Or.inl ⟨fun q => hnB q.2, rfl, rfl⟩
  · -- 6 F
    refine z_if_eq (tgt := 24) hX dX6_law_9 (by decide) (fun _ => ?_) (fun c => absurd c (by decide))
    refine z_iconst (v := -1) hX dX6_law_24 rfl ?_
    refine z_iret hX hR dX6_law_25 ?_
    exact Or.inl ⟨fun q => hnB1 q.1, rfl, rfl⟩
end
section
/-! ===== the reference: the cheapest cuts ===== -/
def cst (pr : Nat → Int32) (k : Nat) : Int32 := nI (k / 121) * pr 0 + nI (k / 11 % 11) * pr 1 + nI (k % 11) * pr 2
def tC (k : Nat) : Nat → Int32 := t3F (fun _ => 0) (nI (k / 121)) (nI (k / 11 % 11)) (nI (k % 11))
def okX (sh : Nat → Int64) (t a14 a15 : Nat → Int32) (lim oft : Int32) (d : Nat) : Prop := a14 d = 0 ∨ okD sh t a14 a15 lim oft d
def gdP (sh : Nat → Int64) (t a14 a15 : Nat → Int32) (lim oft : Int32) (n : Nat) : Prop := ∀ d, d < n → okX sh t a14 a15 lim oft d
theorem zfold_0 {α : Type} (f : Nat → α → α) (x : α) : zfold f 0 x = x := rfl
theorem s3F_congr {sh : Nat → Int64} {t t1 : Nat → Int32} (h : ∀ q, q < 3 → t q = t1 q) (p : Nat) : ∀ n, n ≤ 3 → s3F sh t p n = s3F sh t1 p n
  | 0, _ => by
    unfold s3F
    rw [zfold_0, zfold_0]
  | n + 1, hn => by rw [s3F_s, s3F_s, s3F_congr h p n (by omega), h n (by omega)]
theorem abF_congr {sh : Nat → Int64} {t t1 : Nat → Int32} (h : ∀ q, q < 3 → t q = t1 q) (lim : Int32) (d : Nat) : ∀ n, abF sh t lim d n = abF sh t1 lim d n
  | 0 => by
    unfold abF
    rw [zfold_0, zfold_0]
  | n + 1 => by rw [abF_s, abF_s, abF_congr h lim d n, s3F_congr h _ 3 (Nat.le_refl 3)]
theorem gdP_congr {sh : Nat → Int64} {t t1 a14 a15 : Nat → Int32} {lim oft : Int32} (h : ∀ q, q < 3 → t q = t1 q) (n : Nat) : gdP sh t a14 a15 lim oft n ↔ gdP sh t1 a14 a15 lim oft n := by
  unfold gdP okX okD kpP
  constructor
  · intro g d hd
    rw [← abF_congr h]
    exact g d hd
  · intro g d hd
    rw [abF_congr h]
    exact g d hd
theorem t3F_in (t t1 : Nat → Int32) (x y z : Int32) : ∀ q, q < 3 → t3F t x y z q = t3F t1 x y z q := by
  intro q hq
  rcases (show q = 0 ∨ q = 1 ∨ q = 2 by omega) with e | e | e <;> subst e <;> rfl
/-- behind k of the 1331 cuts: what is best -/
def bsI (pr : Nat → Int32) (gd : Nat → Prop) (k : Nat) (bs : Nat → Int32) : Prop := (bs 3 = -1 ∧ ∀ i, i < k → ¬ gd i) ∨ ∃ j, j < k ∧ gd j ∧ bs 3 = cst pr j ∧ bs 0 = nI (j / 121) ∧ bs 1 = nI (j / 11 % 11) ∧ bs 2 = nI (j % 11) ∧ (∀ i, i < k → gd i → ¬ cst pr i < cst pr j) ∧ ∀ i, i < j → gd i → cst pr j < cst pr i
theorem bsI_no {pr : Nat → Int32} {gd : Nat → Prop} {k : Nat} {bs : Nat → Int32} (h : bsI pr gd k bs) (hg : ¬ gd k) : bsI pr gd (k + 1) bs := by
  rcases h with ⟨h1, h2⟩ | ⟨j, h1, h2, h3, h4, h5, h6, h7, h8⟩
  · refine Or.inl ⟨h1, fun i hi => ?_⟩
    rcases (show i < k ∨ i = k by omega) with e | e
    · exact h2 i e
    · rw [e]; exact hg
  · refine Or.inr ⟨j, by omega, h2, h3, h4, h5, h6, fun i hi => ?_, h8⟩
    rcases (show i < k ∨ i = k by omega) with e | e
    · exact h7 i e
    · rw [e]; exact fun q => absurd q hg
theorem bsI_dear {pr : Nat → Int32} {gd : Nat → Prop} {k : Nat} {bs : Nat → Int32} (h : bsI pr gd k bs) (h0 : ¬ bs 3 < 0) (hc : ¬ cst pr k < bs 3) : bsI pr gd (k + 1) bs := by
  rcases h with ⟨h1, h2⟩ | ⟨j, h1, h2, h3, h4, h5, h6, h7, h8⟩
  · exact absurd (by rw [h1]; decide) h0
  · refine Or.inr ⟨j, by omega, h2, h3, h4, h5, h6, fun i hi => ?_, h8⟩
    rcases (show i < k ∨ i = k by omega) with e | e
    · exact h7 i e
    · rw [e, ← h3]; exact fun _ => hc
theorem bsI_new {pr : Nat → Int32} {gd : Nat → Prop} {k : Nat} {bs bs1 : Nat → Int32} (hpr : ∀ i, ¬ cst pr i < 0 ∨ 1331 ≤ i) (hk : k < 1331) (h : bsI pr gd k bs) (hg : gd k) (hc : bs 3 < 0 ∨ cst pr k < bs 3) (e3 : bs1 3 = cst pr k) (e0 : bs1 0 = nI (k / 121)) (e1 : bs1 1 = nI (k / 11 % 11)) (e2 : bs1 2 = nI (k % 11)) : bsI pr gd (k + 1) bs1 := by
  rcases h with ⟨h1, h2⟩ | ⟨j, h1, h2, h3, h4, h5, h6, h7, h8⟩
  · refine Or.inr ⟨k, by omega, hg, e3, e0, e1, e2, fun i hi hgi => ?_, fun i hi hgi => absurd hgi (h2 i hi)⟩
    rcases (show i < k ∨ i = k by omega) with e | e
    · exact absurd hgi (h2 i e)
    · rw [e]; exact Int32.lt_irrefl
  · have hlt : cst pr k < cst pr j := by
      rcases hc with hc | hc
      · rcases hpr j with e | e
        · rw [h3] at hc; exact absurd hc e
        · omega
      · rw [← h3]; exact hc
    refine Or.inr ⟨k, by omega, hg, e3, e0, e1, e2, fun i hi hgi => ?_, fun i hi hgi => ?_⟩
    · rcases (show i < k ∨ i = k by omega) with e | e
      · have h9 := h7 i e hgi
        rw [Int32.lt_iff_toInt_lt] at h9 hlt ⊢
        omega
      · rw [e]; exact Int32.lt_irrefl
    · have h9 := h7 i hi hgi
      rw [Int32.lt_iff_toInt_lt] at h9 hlt ⊢
      omega
theorem cst_0 {pr : Nat → Int32} (hp : ∀ q, q < 3 → zB (pr q) 0 1000) {k : Nat} (hk : k < 1331) : (cst pr k).toInt = (k / 121 : Nat) * (pr 0).toInt + (k / 11 % 11 : Nat) * (pr 1).toInt + (k % 11 : Nat) * (pr 2).toInt := by
  have h0 := hp 0 (by omega)
  have h1 := hp 1 (by omega)
  have h2 := hp 2 (by omega)
  unfold zB at h0 h1 h2
  have k0 : k / 121 ≤ 10 := by omega
  have k1 : k / 11 % 11 ≤ 10 := by omega
  have k2 : k % 11 ≤ 10 := by omega
  have m0 := zmul_le (x := ((k / 121 : Nat) : Int)) (y := (pr 0).toInt) (a := 10) (b := 1000) (by omega) (by omega) (by decide) (by decide)
  have m1 := zmul_le (x := ((k / 11 % 11 : Nat) : Int)) (y := (pr 1).toInt) (a := 10) (b := 1000) (by omega) (by omega) (by decide) (by decide)
  have m2 := zmul_le (x := ((k % 11 : Nat) : Int)) (y := (pr 2).toInt) (a := 10) (b := 1000) (by omega) (by omega) (by decide) (by decide)
  unfold cst
  rw [Int32.toInt_add, Int32.toInt_add, Int32.toInt_mul, Int32.toInt_mul, Int32.toInt_mul, nI_toInt (by omega), nI_toInt (by omega), nI_toInt (by omega)]
  rw [Int.bmod_eq_of_le (n := ((k / 121 : Nat) : Int) * (pr 0).toInt) (by omega) (by omega), Int.bmod_eq_of_le (n := ((k / 11 % 11 : Nat) : Int) * (pr 1).toInt) (by omega) (by omega), Int.bmod_eq_of_le (n := ((k % 11 : Nat) : Int) * (pr 2).toInt) (by omega) (by omega)]
  rw [Int.bmod_eq_of_le (n := ((k / 121 : Nat) : Int) * (pr 0).toInt + ((k / 11 % 11 : Nat) : Int) * (pr 1).toInt) (by omega) (by omega)]
  rw [Int.bmod_eq_of_le (by omega) (by omega)]
theorem cst_n {pr : Nat → Int32} (hp : ∀ q, q < 3 → zB (pr q) 0 1000) (k : Nat) : ¬ cst pr k < 0 ∨ 1331 ≤ k := by
  by_cases hk : k < 1331
  · left
    have h := cst_0 hp hk
    have h0 := hp 0 (by omega)
    have h1 := hp 1 (by omega)
    have h2 := hp 2 (by omega)
    unfold zB at h0 h1 h2
    have m0 : 0 ≤ ((k / 121 : Nat) : Int) * (pr 0).toInt := Int.mul_nonneg (by omega) h0.1
    have m1 : 0 ≤ ((k / 11 % 11 : Nat) : Int) * (pr 1).toInt := Int.mul_nonneg (by omega) h1.1
    have m2 : 0 ≤ ((k % 11 : Nat) : Int) * (pr 2).toInt := Int.mul_nonneg (by omega) h2.1
    rw [Int32.lt_iff_toInt_lt, h]
    have z : (0 : Int32).toInt = 0 := rfl
    omega
  · right
    omega
set_option maxHeartbeats 4000000 in
set_option maxRecDepth 100000 in
theorem lp_ch_119 {X : ZX} {post : Option Value → ZW → Prop} (hX : ZOK X 6 cX6_cheapest 1) (hR : ZRet X (some .int) post) (a : Nat → Nat → Int32) (b : Nat → Nat → Int64) (c : Nat → Int32) (hok : okM (a 15)) (t bs : Nat → Int32) (wh cd : Nat) (cs : Int32) (K1 : gdP (b 16) t (a 14) (a 15) (c 1) (c 2) 4 → ZG X 162 [some (.ref 0), some (.int (nI wh)), some (.int (nI cd)), some (.int cs), some (.int (nI 1)), none] [] (WM (va_up (va_up a 18 t) 19 bs) b c)) (K0 : ¬ gdP (b 16) t (a 14) (a 15) (c 1) (c 2) 4 → ZG X 162 [some (.ref 0), some (.int (nI wh)), some (.int (nI cd)), some (.int cs), some (.int (nI 0)), none] [] (WM (va_up (va_up a 18 t) 19 bs) b c)) : ∀ (n k g : Nat), k ≤ 4 → 4 < k + n → ((g = 1 ∧ gdP (b 16) t (a 14) (a 15) (c 1) (c 2) k) ∨ (g = 0 ∧ ¬ gdP (b 16) t (a 14) (a 15) (c 1) (c 2) k)) → ZG X 119 [some (.ref 0), some (.int (nI wh)), some (.int (nI cd)), some (.int cs), some (.int (nI g)), some (.int (nI k))] [] (WM (va_up (va_up a 18 t) 19 bs) b c) := by
  intro n
  induction n with
  | zero => intro k g z1 z2; omega
  | succ n ih =>
    intro k g hk1 hk2 hg
    refine z_iload hX dX6_cheapest_119 rfl ?_
    refine z_iconst (v := nI 4) hX dX6_cheapest_121 rfl ?_
    first | with_reducible refine z_icmp_geN (tgt := 162) hX dX6_cheapest_122 (by decide) (by omega) (by omega) (fun c_122 => ?_) (fun c_122 => ?_) | refine z_icmp_ge (tgt := 162) hX dX6_cheapest_122 (by decide) (fun c_122 => ?_) (fun c_122 => ?_)
    · -- 122 t
      have zk : k = 4 := by omega
      subst zk
      refine z_forget (ls' := [some (.ref 0), some _, some _, some _, some _, none]) ⟨rfl, rfl, rfl, rfl, rfl, trivial⟩ ?_
      rcases hg with ⟨rfl, hg⟩ | ⟨rfl, hg⟩
      · exact K1 hg
      · exact K0 hg
    · -- 122 f
      obtain ⟨zmn, zmn1, zmn2⟩ := hok k (by omega)
      have zcl : (a 15 k).toNatClampNeg = zmn := by rw [zmn2, nI_clamp (by omega)]
      have gs : ∀ (h1 : gdP (b 16) t (a 14) (a 15) (c 1) (c 2) k) (h2 : okX (b 16) t (a 14) (a 15) (c 1) (c 2) k), gdP (b 16) t (a 14) (a 15) (c 1) (c 2) (k + 1) := fun h1 h2 d hd => by
        rcases (show d < k ∨ d = k by omega) with e | e
        · exact h1 d e
        · rw [e]; exact h2
      refine z_iload hX dX6_cheapest_125 rfl ?_
      refine z_if_eq (tgt := 153) hX dX6_cheapest_127 (by decide) (fun c_127 => ?_) (fun c_127 => ?_)
      · -- 127 t
        have hg2 : ¬ gdP (b 16) t (a 14) (a 15) (c 1) (c 2) k := by
          rcases hg with ⟨e, hg⟩ | ⟨e, hg⟩
          · rw [e] at c_127
            exact absurd c_127 (by decide)
          · exact hg
        refine z_iconst (v := nI 0) hX dX6_cheapest_153 rfl ?_
        refine z_istore (ls' := [_, _, _, _, _, _]) hX dX6_cheapest_154 (Nat.le_of_ble_eq_true rfl) rfl ?_
        first | refine z_iincN (b := 1) (ls' := [_, _, _, _, _, _]) hX dX6_cheapest_156 rfl rfl rfl ?_ | refine z_iinc (ls' := [_, _, _, _, _, _]) hX dX6_cheapest_156 rfl rfl ?_
        refine z_goto (tgt := 119) hX dX6_cheapest_159 (by decide) ?_
        exact ih (k + 1) 0 (by omega) (by omega) (Or.inr ⟨rfl, fun q => hg2 (fun d hd => q d (by omega))⟩)
      · -- 127 f
        have hg2 : gdP (b 16) t (a 14) (a 15) (c 1) (c 2) k := by
          rcases hg with ⟨e, hg⟩ | ⟨e, hg⟩
          · exact hg
          · rw [e] at c_127
            exact absurd rfl c_127
        refine z_aload_n hX dX6_cheapest_130 rfl ?_
        refine z_get hX dX6_cheapest_131 f_6_51 rfl rfl ?_
        refine z_iload hX dX6_cheapest_134 rfl ?_
        refine z_zald hX dX6_cheapest_136 rfl (by omega) (by decide) ?_
        refine z_if_eq (tgt := 149) hX dX6_cheapest_137 (by decide) (fun c_137 => ?_) (fun c_137 => ?_)
        · -- 137 t
          refine z_iconst (v := nI 1) hX dX6_cheapest_149 rfl ?_
          refine z_goto (tgt := 154) hX dX6_cheapest_150 (by decide) ?_
          refine z_istore (ls' := [_, _, _, _, _, _]) hX dX6_cheapest_154 (Nat.le_of_ble_eq_true rfl) rfl ?_
          first | refine z_iincN (b := 1) (ls' := [_, _, _, _, _, _]) hX dX6_cheapest_156 rfl rfl rfl ?_ | refine z_iinc (ls' := [_, _, _, _, _, _]) hX dX6_cheapest_156 rfl rfl ?_
          refine z_goto (tgt := 119) hX dX6_cheapest_159 (by decide) ?_
          exact ih (k + 1) 1 (by omega) (by omega) (Or.inl ⟨rfl, gs hg2 (Or.inl c_137)⟩)
        · -- 137 f
          refine z_aload_n hX dX6_cheapest_140 rfl ?_
          refine z_iload hX dX6_cheapest_141 rfl ?_
          refine z_callV0 hX dX6_cheapest_143 mv_6_170 (c_X6_isKeptAt (va_up (va_up a 18 t) 19 bs) b c k zmn (by omega) zmn1 zmn2) (by decide) rfl rfl rfl rfl (Nat.le_of_ble_eq_true rfl) (fun r w1 hp _ => ?_)
          obtain ⟨rfl, ⟨hK1, rfl⟩ | ⟨hK1, rfl⟩⟩ := hp
          · -- 143 T
            refine z_if_eq (tgt := 153) hX dX6_cheapest_146 (by decide) (fun c => absurd c (by decide)) (fun _ => ?_)
            refine z_iconst (v := nI 1) hX dX6_cheapest_149 rfl ?_
            refine z_goto (tgt := 154) hX dX6_cheapest_150 (by decide) ?_
            refine z_istore (ls' := [_, _, _, _, _, _]) hX dX6_cheapest_154 (Nat.le_of_ble_eq_true rfl) rfl ?_
            first | refine z_iincN (b := 1) (ls' := [_, _, _, _, _, _]) hX dX6_cheapest_156 rfl rfl rfl ?_ | refine z_iinc (ls' := [_, _, _, _, _, _]) hX dX6_cheapest_156 rfl rfl ?_
            refine z_goto (tgt := 119) hX dX6_cheapest_159 (by decide) ?_
            exact ih (k + 1) 1 (by omega) (by omega) (Or.inl ⟨rfl, gs hg2 (Or.inr (by unfold okD; rw [zcl]; exact hK1))⟩)
          · -- 143 F
            refine z_if_eq (tgt := 153) hX dX6_cheapest_146 (by decide) (fun _ => ?_) (fun c => absurd c (by decide))
            refine z_iconst (v := nI 0) hX dX6_cheapest_153 rfl ?_
            refine z_istore (ls' := [_, _, _, _, _, _]) hX dX6_cheapest_154 (Nat.le_of_ble_eq_true rfl) rfl ?_
            first | refine z_iincN (b := 1) (ls' := [_, _, _, _, _, _]) hX dX6_cheapest_156 rfl rfl rfl ?_ | refine z_iinc (ls' := [_, _, _, _, _, _]) hX dX6_cheapest_156 rfl rfl ?_
            refine z_goto (tgt := 119) hX dX6_cheapest_159 (by decide) ?_
            refine ih (k + 1) 0 (by omega) (by omega) (Or.inr ⟨rfl, fun q => ?_⟩)
            rcases q k (by omega) with e | e
            · exact c_137 e
            · unfold okD at e
              rw [zcl] at e
              exact hK1 e
set_option maxHeartbeats 4000000 in
set_option maxRecDepth 100000 in
theorem lp_ch_23 {X : ZX} {post : Option Value → ZW → Prop} (hX : ZOK X 6 cX6_cheapest 1) (hR : ZRet X (some .int) post) (a : Nat → Nat → Int32) (b : Nat → Nat → Int64) (c : Nat → Int32) (hok : okM (a 15)) (hpr : ∀ q, q < 3 → zB (a 17 q) 0 1000) (wh : Nat) (hwh : wh < 4) (hpost : ∀ t bs, bsI (a 17) (fun i => gdP (b 16) (tC i) (a 14) (a 15) (c 1) (c 2) 4) 1331 bs → post (some (.int (bs wh))) (WM (va_up (va_up a 18 t) 19 bs) b c)) : ∀ (n k : Nat) (t bs : Nat → Int32), k ≤ 1331 → 1331 < k + n → bsI (a 17) (fun i => gdP (b 16) (tC i) (a 14) (a 15) (c 1) (c 2) 4) k bs → ZG X 23 [some (.ref 0), some (.int (nI wh)), some (.int (nI k)), none, none, none] [] (WM (va_up (va_up a 18 t) 19 bs) b c) := by
  intro n
  induction n with
  | zero => intro k t bs z1 z2; omega
  | succ n ih =>
    intro k t bs hk1 hk2 hI
    refine z_iload_n hX dX6_cheapest_23 rfl ?_
    refine z_sipush (v := nI 1331) hX dX6_cheapest_24 rfl ?_
    first | with_reducible refine z_icmp_geN (tgt := 216) hX dX6_cheapest_27 (by decide) (by omega) (by omega) (fun c_27 => ?_) (fun c_27 => ?_) | refine z_icmp_ge (tgt := 216) hX dX6_cheapest_27 (by decide) (fun c_27 => ?_) (fun c_27 => ?_)
    · -- 27 t
      have zk : k = 1331 := by omega
      subst zk
      refine z_aload_n hX dX6_cheapest_216 rfl ?_
      refine z_get hX dX6_cheapest_217 f_6_66 rfl rfl ?_
      refine z_iload_n hX dX6_cheapest_220 rfl ?_
      first | refine z_iald hX dX6_cheapest_221 rfl (by omega) (by decide) ?_ | refine z_stld (nm := "FROM") (xs := zFROM) hX dX6_cheapest_221 (fun _ _ _ _ h => h.1) (by show _ < 24; omega) (by decide) ?_ | refine z_stld (nm := "TO") (xs := zTO) hX dX6_cheapest_221 (fun _ _ _ _ h => h.2.1) (by show _ < 24; omega) (by decide) ?_ | refine z_stld (nm := "FALL") (xs := zFALL) hX dX6_cheapest_221 (fun _ _ _ _ h => h.2.2.1) (by show _ < 81; omega) (by decide) ?_
      refine z_iret hX hR dX6_cheapest_222 ?_
      exact hpost t bs hI
    · -- 27 f
      refine z_aload_n hX dX6_cheapest_30 rfl ?_
      refine z_iload_n hX dX6_cheapest_31 rfl ?_
      refine z_bipush (v := nI 121) hX dX6_cheapest_32 rfl ?_
      first | with_reducible refine z_idivN hX dX6_cheapest_34 (by omega) (by decide) (by decide) ?_ | refine z_idiv hX dX6_cheapest_34 (by decide) ?_
      refine z_iload_n hX dX6_cheapest_35 rfl ?_
      refine z_bipush (v := nI 11) hX dX6_cheapest_36 rfl ?_
      first | with_reducible refine z_idivN hX dX6_cheapest_38 (by omega) (by decide) (by decide) ?_ | refine z_idiv hX dX6_cheapest_38 (by decide) ?_
      refine z_bipush (v := nI 11) hX dX6_cheapest_39 rfl ?_
      first | with_reducible refine z_iremN hX dX6_cheapest_41 (by omega) (by decide) (by decide) ?_ | refine z_irem hX dX6_cheapest_41 (by decide) ?_
      refine z_iload_n hX dX6_cheapest_42 rfl ?_
      refine z_bipush (v := nI 11) hX dX6_cheapest_43 rfl ?_
      first | with_reducible refine z_iremN hX dX6_cheapest_45 (by omega) (by decide) (by decide) ?_ | refine z_irem hX dX6_cheapest_45 (by decide) ?_
      refine z_callV0 hX dX6_cheapest_46 mv_6_166 (c_X6_setTenths (va_up (va_up a 18 t) 19 bs) b c _ _ _) (by decide) rfl rfl rfl rfl (Nat.le_of_ble_eq_true rfl) (fun r w1 hp _ => ?_)
      obtain ⟨rfl, rfl⟩ := hp
      refine z_aload_n hX dX6_cheapest_49 rfl ?_
      refine z_get hX dX6_cheapest_50 f_6_63 rfl rfl ?_
      refine z_iconst (v := nI 0) hX dX6_cheapest_53 rfl ?_
      first | refine z_iald hX dX6_cheapest_54 rfl (by omega) (by decide) ?_ | refine z_stld (nm := "FROM") (xs := zFROM) hX dX6_cheapest_54 (fun _ _ _ _ h => h.1) (by show _ < 24; omega) (by decide) ?_ | refine z_stld (nm := "TO") (xs := zTO) hX dX6_cheapest_54 (fun _ _ _ _ h => h.2.1) (by show _ < 24; omega) (by decide) ?_ | refine z_stld (nm := "FALL") (xs := zFALL) hX dX6_cheapest_54 (fun _ _ _ _ h => h.2.2.1) (by show _ < 81; omega) (by decide) ?_
      refine z_aload_n hX dX6_cheapest_55 rfl ?_
      refine z_get hX dX6_cheapest_56 f_6_60 rfl rfl ?_
      refine z_iconst (v := nI 0) hX dX6_cheapest_59 rfl ?_
      first | refine z_iald hX dX6_cheapest_60 rfl (by omega) (by decide) ?_ | refine z_stld (nm := "FROM") (xs := zFROM) hX dX6_cheapest_60 (fun _ _ _ _ h => h.1) (by show _ < 24; omega) (by decide) ?_ | refine z_stld (nm := "TO") (xs := zTO) hX dX6_cheapest_60 (fun _ _ _ _ h => h.2.1) (by show _ < 24; omega) (by decide) ?_ | refine z_stld (nm := "FALL") (xs := zFALL) hX dX6_cheapest_60 (fun _ _ _ _ h => h.2.2.1) (by show _ < 81; omega) (by decide) ?_
      first | with_reducible refine z_imulN hX dX6_cheapest_61 ?_ | refine z_imul hX dX6_cheapest_61 ?_
      refine z_aload_n hX dX6_cheapest_62 rfl ?_
      refine z_get hX dX6_cheapest_63 f_6_63 rfl rfl ?_
      refine z_iconst (v := nI 1) hX dX6_cheapest_66 rfl ?_
      first | refine z_iald hX dX6_cheapest_67 rfl (by omega) (by decide) ?_ | refine z_stld (nm := "FROM") (xs := zFROM) hX dX6_cheapest_67 (fun _ _ _ _ h => h.1) (by show _ < 24; omega) (by decide) ?_ | refine z_stld (nm := "TO") (xs := zTO) hX dX6_cheapest_67 (fun _ _ _ _ h => h.2.1) (by show _ < 24; omega) (by decide) ?_ | refine z_stld (nm := "FALL") (xs := zFALL) hX dX6_cheapest_67 (fun _ _ _ _ h => h.2.2.1) (by show _ < 81; omega) (by decide) ?_
      refine z_aload_n hX dX6_cheapest_68 rfl ?_
      refine z_get hX dX6_cheapest_69 f_6_60 rfl rfl ?_
      refine z_iconst (v := nI 1) hX dX6_cheapest_72 rfl ?_
      first | refine z_iald hX dX6_cheapest_73 rfl (by omega) (by decide) ?_ | refine z_stld (nm := "FROM") (xs := zFROM) hX dX6_cheapest_73 (fun _ _ _ _ h => h.1) (by show _ < 24; omega) (by decide) ?_ | refine z_stld (nm := "TO") (xs := zTO) hX dX6_cheapest_73 (fun _ _ _ _ h => h.2.1) (by show _ < 24; omega) (by decide) ?_ | refine z_stld (nm := "FALL") (xs := zFALL) hX dX6_cheapest_73 (fun _ _ _ _ h => h.2.2.1) (by show _ < 81; omega) (by decide) ?_
      first | with_reducible refine z_imulN hX dX6_cheapest_74 ?_ | refine z_imul hX dX6_cheapest_74 ?_
      first | with_reducible refine z_iaddN hX dX6_cheapest_75 ?_ | refine z_iadd hX dX6_cheapest_75 ?_
      refine z_aload_n hX dX6_cheapest_76 rfl ?_
      refine z_get hX dX6_cheapest_77 f_6_63 rfl rfl ?_
      refine z_iconst (v := nI 2) hX dX6_cheapest_80 rfl ?_
      first | refine z_iald hX dX6_cheapest_81 rfl (by omega) (by decide) ?_ | refine z_stld (nm := "FROM") (xs := zFROM) hX dX6_cheapest_81 (fun _ _ _ _ h => h.1) (by show _ < 24; omega) (by decide) ?_ | refine z_stld (nm := "TO") (xs := zTO) hX dX6_cheapest_81 (fun _ _ _ _ h => h.2.1) (by show _ < 24; omega) (by decide) ?_ | refine z_stld (nm := "FALL") (xs := zFALL) hX dX6_cheapest_81 (fun _ _ _ _ h => h.2.2.1) (by show _ < 81; omega) (by decide) ?_
      refine z_aload_n hX dX6_cheapest_82 rfl ?_
      refine z_get hX dX6_cheapest_83 f_6_60 rfl rfl ?_
      refine z_iconst (v := nI 2) hX dX6_cheapest_86 rfl ?_
      first | refine z_iald hX dX6_cheapest_87 rfl (by omega) (by decide) ?_ | refine z_stld (nm := "FROM") (xs := zFROM) hX dX6_cheapest_87 (fun _ _ _ _ h => h.1) (by show _ < 24; omega) (by decide) ?_ | refine z_stld (nm := "TO") (xs := zTO) hX dX6_cheapest_87 (fun _ _ _ _ h => h.2.1) (by show _ < 24; omega) (by decide) ?_ | refine z_stld (nm := "FALL") (xs := zFALL) hX dX6_cheapest_87 (fun _ _ _ _ h => h.2.2.1) (by show _ < 81; omega) (by decide) ?_
      first | with_reducible refine z_imulN hX dX6_cheapest_88 ?_ | refine z_imul hX dX6_cheapest_88 ?_
      first | with_reducible refine z_iaddN hX dX6_cheapest_89 ?_ | refine z_iadd hX dX6_cheapest_89 ?_
      refine z_top (y := cst (a 17) k) rfl ?_
      refine z_istore_n (ls' := [_, _, _, _, _, _]) hX dX6_cheapest_90 (Nat.le_of_ble_eq_true rfl) rfl ?_
      refine z_aload_n hX dX6_cheapest_91 rfl ?_
      refine z_get hX dX6_cheapest_92 f_6_66 rfl rfl ?_
      refine z_iconst (v := nI 3) hX dX6_cheapest_95 rfl ?_
      first | refine z_iald hX dX6_cheapest_96 rfl (by omega) (by decide) ?_ | refine z_stld (nm := "FROM") (xs := zFROM) hX dX6_cheapest_96 (fun _ _ _ _ h => h.1) (by show _ < 24; omega) (by decide) ?_ | refine z_stld (nm := "TO") (xs := zTO) hX dX6_cheapest_96 (fun _ _ _ _ h => h.2.1) (by show _ < 24; omega) (by decide) ?_ | refine z_stld (nm := "FALL") (xs := zFALL) hX dX6_cheapest_96 (fun _ _ _ _ h => h.2.2.1) (by show _ < 81; omega) (by decide) ?_
      refine z_if_lt (tgt := 113) hX dX6_cheapest_97 (by decide) (fun c_97 => ?_) (fun c_97 => ?_)
      · -- 97 t
        refine z_iconst (v := nI 1) hX dX6_cheapest_113 rfl ?_
        refine z_istore (ls' := [_, _, _, _, _, _]) hX dX6_cheapest_114 (Nat.le_of_ble_eq_true rfl) rfl ?_
        refine z_iconst (v := nI 0) hX dX6_cheapest_116 rfl ?_
        refine z_istore (ls' := [_, _, _, _, _, _]) hX dX6_cheapest_117 (Nat.le_of_ble_eq_true rfl) rfl ?_
        have hcg := gdP_congr (sh := b 16) (a14 := a 14) (a15 := a 15) (lim := c 1) (oft := c 2) (t3F_in t (fun _ => 0) (nI (k / 121)) (nI (k / 11 % 11)) (nI (k % 11))) 4
        refine lp_ch_119 hX hR a b c hok (t3F t (nI (k / 121)) (nI (k / 11 % 11)) (nI (k % 11))) bs wh k (cst (a 17) k) (fun hg => ?_) (fun hg => ?_) 5 0 1 (by omega) (by omega) (Or.inl ⟨rfl, fun d hd => by omega⟩)
        · -- 119 case 0
          refine z_iload hX dX6_cheapest_162 rfl ?_
          refine z_if_eq (tgt := 210) hX dX6_cheapest_164 (by decide) (fun c => absurd c (by decide)) (fun _ => ?_)
          refine z_aload_n hX dX6_cheapest_167 rfl ?_
          refine z_get hX dX6_cheapest_168 f_6_66 rfl rfl ?_
          refine z_iconst (v := nI 0) hX dX6_cheapest_171 rfl ?_
          refine z_aload_n hX dX6_cheapest_172 rfl ?_
          refine z_get hX dX6_cheapest_173 f_6_63 rfl rfl ?_
          refine z_iconst (v := nI 0) hX dX6_cheapest_176 rfl ?_
          first | refine z_iald hX dX6_cheapest_177 rfl (by omega) (by decide) ?_ | refine z_stld (nm := "FROM") (xs := zFROM) hX dX6_cheapest_177 (fun _ _ _ _ h => h.1) (by show _ < 24; omega) (by decide) ?_ | refine z_stld (nm := "TO") (xs := zTO) hX dX6_cheapest_177 (fun _ _ _ _ h => h.2.1) (by show _ < 24; omega) (by decide) ?_ | refine z_stld (nm := "FALL") (xs := zFALL) hX dX6_cheapest_177 (fun _ _ _ _ h => h.2.2.1) (by show _ < 81; omega) (by decide) ?_
          refine z_iast (w' := [_, _, _, _, _, _, _, _, _, _, _, _, _, _, _, _, _, _, _, _]) hX dX6_cheapest_178 rfl (by omega) (by decide) rfl ?_
          refine z_aload_n hX dX6_cheapest_179 rfl ?_
          refine z_get hX dX6_cheapest_180 f_6_66 rfl rfl ?_
          refine z_iconst (v := nI 1) hX dX6_cheapest_183 rfl ?_
          refine z_aload_n hX dX6_cheapest_184 rfl ?_
          refine z_get hX dX6_cheapest_185 f_6_63 rfl rfl ?_
          refine z_iconst (v := nI 1) hX dX6_cheapest_188 rfl ?_
          first | refine z_iald hX dX6_cheapest_189 rfl (by omega) (by decide) ?_ | refine z_stld (nm := "FROM") (xs := zFROM) hX dX6_cheapest_189 (fun _ _ _ _ h => h.1) (by show _ < 24; omega) (by decide) ?_ | refine z_stld (nm := "TO") (xs := zTO) hX dX6_cheapest_189 (fun _ _ _ _ h => h.2.1) (by show _ < 24; omega) (by decide) ?_ | refine z_stld (nm := "FALL") (xs := zFALL) hX dX6_cheapest_189 (fun _ _ _ _ h => h.2.2.1) (by show _ < 81; omega) (by decide) ?_
          refine z_iast (w' := [_, _, _, _, _, _, _, _, _, _, _, _, _, _, _, _, _, _, _, _]) hX dX6_cheapest_190 rfl (by omega) (by decide) rfl ?_
          refine z_aload_n hX dX6_cheapest_191 rfl ?_
          refine z_get hX dX6_cheapest_192 f_6_66 rfl rfl ?_
          refine z_iconst (v := nI 2) hX dX6_cheapest_195 rfl ?_
          refine z_aload_n hX dX6_cheapest_196 rfl ?_
          refine z_get hX dX6_cheapest_197 f_6_63 rfl rfl ?_
          refine z_iconst (v := nI 2) hX dX6_cheapest_200 rfl ?_
          first | refine z_iald hX dX6_cheapest_201 rfl (by omega) (by decide) ?_ | refine z_stld (nm := "FROM") (xs := zFROM) hX dX6_cheapest_201 (fun _ _ _ _ h => h.1) (by show _ < 24; omega) (by decide) ?_ | refine z_stld (nm := "TO") (xs := zTO) hX dX6_cheapest_201 (fun _ _ _ _ h => h.2.1) (by show _ < 24; omega) (by decide) ?_ | refine z_stld (nm := "FALL") (xs := zFALL) hX dX6_cheapest_201 (fun _ _ _ _ h => h.2.2.1) (by show _ < 81; omega) (by decide) ?_
          refine z_iast (w' := [_, _, _, _, _, _, _, _, _, _, _, _, _, _, _, _, _, _, _, _]) hX dX6_cheapest_202 rfl (by omega) (by decide) rfl ?_
          refine z_aload_n hX dX6_cheapest_203 rfl ?_
          refine z_get hX dX6_cheapest_204 f_6_66 rfl rfl ?_
          refine z_iconst (v := nI 3) hX dX6_cheapest_207 rfl ?_
          refine z_iload_n hX dX6_cheapest_208 rfl ?_
          refine z_iast (w' := [_, _, _, _, _, _, _, _, _, _, _, _, _, _, _, _, _, _, _, _]) hX dX6_cheapest_209 rfl (by omega) (by decide) rfl ?_
          first | refine z_iincN (b := 1) (ls' := [_, _, _, _, _, _]) hX dX6_cheapest_210 rfl rfl rfl ?_ | refine z_iinc (ls' := [_, _, _, _, _, _]) hX dX6_cheapest_210 rfl rfl ?_
          refine z_goto (tgt := 23) hX dX6_cheapest_213 (by decide) ?_
          refine z_forget (ls' := [some (.ref 0), some _, some _, none, none, none]) ⟨rfl, rfl, rfl, trivial⟩ ?_
          exact ih (k + 1) _ _ (by omega) (by omega) (bsI_new (cst_n hpr) (by omega) hI (hcg.mp hg) (Or.inl c_97) rfl rfl rfl rfl)
        · -- 119 case 1
          refine z_iload hX dX6_cheapest_162 rfl ?_
          refine z_if_eq (tgt := 210) hX dX6_cheapest_164 (by decide) (fun _ => ?_) (fun c => absurd c (by decide))
          first | refine z_iincN (b := 1) (ls' := [_, _, _, _, _, _]) hX dX6_cheapest_210 rfl rfl rfl ?_ | refine z_iinc (ls' := [_, _, _, _, _, _]) hX dX6_cheapest_210 rfl rfl ?_
          refine z_goto (tgt := 23) hX dX6_cheapest_213 (by decide) ?_
          refine z_forget (ls' := [some (.ref 0), some _, some _, none, none, none]) ⟨rfl, rfl, rfl, trivial⟩ ?_
          exact ih (k + 1) _ bs (by omega) (by omega) (bsI_no hI (fun q => hg (hcg.mpr q)))
      · -- 97 f
        refine z_iload_n hX dX6_cheapest_100 rfl ?_
        refine z_aload_n hX dX6_cheapest_101 rfl ?_
        refine z_get hX dX6_cheapest_102 f_6_66 rfl rfl ?_
        refine z_iconst (v := nI 3) hX dX6_cheapest_105 rfl ?_
        first | refine z_iald hX dX6_cheapest_106 rfl (by omega) (by decide) ?_ | refine z_stld (nm := "FROM") (xs := zFROM) hX dX6_cheapest_106 (fun _ _ _ _ h => h.1) (by show _ < 24; omega) (by decide) ?_ | refine z_stld (nm := "TO") (xs := zTO) hX dX6_cheapest_106 (fun _ _ _ _ h => h.2.1) (by show _ < 24; omega) (by decide) ?_ | refine z_stld (nm := "FALL") (xs := zFALL) hX dX6_cheapest_106 (fun _ _ _ _ h => h.2.2.1) (by show _ < 81; omega) (by decide) ?_
        refine z_icmp_lt (tgt := 113) hX dX6_cheapest_107 (by decide) (fun c_107 => ?_) (fun c_107 => ?_)
        · -- 107 t
          refine z_iconst (v := nI 1) hX dX6_cheapest_113 rfl ?_
          refine z_istore (ls' := [_, _, _, _, _, _]) hX dX6_cheapest_114 (Nat.le_of_ble_eq_true rfl) rfl ?_
          refine z_iconst (v := nI 0) hX dX6_cheapest_116 rfl ?_
          refine z_istore (ls' := [_, _, _, _, _, _]) hX dX6_cheapest_117 (Nat.le_of_ble_eq_true rfl) rfl ?_
          have hcg := gdP_congr (sh := b 16) (a14 := a 14) (a15 := a 15) (lim := c 1) (oft := c 2) (t3F_in t (fun _ => 0) (nI (k / 121)) (nI (k / 11 % 11)) (nI (k % 11))) 4
          refine lp_ch_119 hX hR a b c hok (t3F t (nI (k / 121)) (nI (k / 11 % 11)) (nI (k % 11))) bs wh k (cst (a 17) k) (fun hg => ?_) (fun hg => ?_) 5 0 1 (by omega) (by omega) (Or.inl ⟨rfl, fun d hd => by omega⟩)
          · -- 119 case 0
            refine z_iload hX dX6_cheapest_162 rfl ?_
            refine z_if_eq (tgt := 210) hX dX6_cheapest_164 (by decide) (fun c => absurd c (by decide)) (fun _ => ?_)
            refine z_aload_n hX dX6_cheapest_167 rfl ?_
            refine z_get hX dX6_cheapest_168 f_6_66 rfl rfl ?_
            refine z_iconst (v := nI 0) hX dX6_cheapest_171 rfl ?_
            refine z_aload_n hX dX6_cheapest_172 rfl ?_
            refine z_get hX dX6_cheapest_173 f_6_63 rfl rfl ?_
            refine z_iconst (v := nI 0) hX dX6_cheapest_176 rfl ?_
            first | refine z_iald hX dX6_cheapest_177 rfl (by omega) (by decide) ?_ | refine z_stld (nm := "FROM") (xs := zFROM) hX dX6_cheapest_177 (fun _ _ _ _ h => h.1) (by show _ < 24; omega) (by decide) ?_ | refine z_stld (nm := "TO") (xs := zTO) hX dX6_cheapest_177 (fun _ _ _ _ h => h.2.1) (by show _ < 24; omega) (by decide) ?_ | refine z_stld (nm := "FALL") (xs := zFALL) hX dX6_cheapest_177 (fun _ _ _ _ h => h.2.2.1) (by show _ < 81; omega) (by decide) ?_
            refine z_iast (w' := [_, _, _, _, _, _, _, _, _, _, _, _, _, _, _, _, _, _, _, _]) hX dX6_cheapest_178 rfl (by omega) (by decide) rfl ?_
            refine z_aload_n hX dX6_cheapest_179 rfl ?_
            refine z_get hX dX6_cheapest_180 f_6_66 rfl rfl ?_
            refine z_iconst (v := nI 1) hX dX6_cheapest_183 rfl ?_
            refine z_aload_n hX dX6_cheapest_184 rfl ?_
            refine z_get hX dX6_cheapest_185 f_6_63 rfl rfl ?_
            refine z_iconst (v := nI 1) hX dX6_cheapest_188 rfl ?_
            first | refine z_iald hX dX6_cheapest_189 rfl (by omega) (by decide) ?_ | refine z_stld (nm := "FROM") (xs := zFROM) hX dX6_cheapest_189 (fun _ _ _ _ h => h.1) (by show _ < 24; omega) (by decide) ?_ | refine z_stld (nm := "TO") (xs := zTO) hX dX6_cheapest_189 (fun _ _ _ _ h => h.2.1) (by show _ < 24; omega) (by decide) ?_ | refine z_stld (nm := "FALL") (xs := zFALL) hX dX6_cheapest_189 (fun _ _ _ _ h => h.2.2.1) (by show _ < 81; omega) (by decide) ?_
            refine z_iast (w' := [_, _, _, _, _, _, _, _, _, _, _, _, _, _, _, _, _, _, _, _]) hX dX6_cheapest_190 rfl (by omega) (by decide) rfl ?_
            refine z_aload_n hX dX6_cheapest_191 rfl ?_
            refine z_get hX dX6_cheapest_192 f_6_66 rfl rfl ?_
            refine z_iconst (v := nI 2) hX dX6_cheapest_195 rfl ?_
            refine z_aload_n hX dX6_cheapest_196 rfl ?_
            refine z_get hX dX6_cheapest_197 f_6_63 rfl rfl ?_
            refine z_iconst (v := nI 2) hX dX6_cheapest_200 rfl ?_
            first | refine z_iald hX dX6_cheapest_201 rfl (by omega) (by decide) ?_ | refine z_stld (nm := "FROM") (xs := zFROM) hX dX6_cheapest_201 (fun _ _ _ _ h => h.1) (by show _ < 24; omega) (by decide) ?_ | refine z_stld (nm := "TO") (xs := zTO) hX dX6_cheapest_201 (fun _ _ _ _ h => h.2.1) (by show _ < 24; omega) (by decide) ?_ | refine z_stld (nm := "FALL") (xs := zFALL) hX dX6_cheapest_201 (fun _ _ _ _ h => h.2.2.1) (by show _ < 81; omega) (by decide) ?_
            refine z_iast (w' := [_, _, _, _, _, _, _, _, _, _, _, _, _, _, _, _, _, _, _, _]) hX dX6_cheapest_202 rfl (by omega) (by decide) rfl ?_
            refine z_aload_n hX dX6_cheapest_203 rfl ?_
            refine z_get hX dX6_cheapest_204 f_6_66 rfl rfl ?_
            refine z_iconst (v := nI 3) hX dX6_cheapest_207 rfl ?_
            refine z_iload_n hX dX6_cheapest_208 rfl ?_
            refine z_iast (w' := [_, _, _, _, _, _, _, _, _, _, _, _, _, _, _, _, _, _, _, _]) hX dX6_cheapest_209 rfl (by omega) (by decide) rfl ?_
            first | refine z_iincN (b := 1) (ls' := [_, _, _, _, _, _]) hX dX6_cheapest_210 rfl rfl rfl ?_ | refine z_iinc (ls' := [_, _, _, _, _, _]) hX dX6_cheapest_210 rfl rfl ?_
            refine z_goto (tgt := 23) hX dX6_cheapest_213 (by decide) ?_
            refine z_forget (ls' := [some (.ref 0), some _, some _, none, none, none]) ⟨rfl, rfl, rfl, trivial⟩ ?_
            exact ih (k + 1) _ _ (by omega) (by omega) (bsI_new (cst_n hpr) (by omega) hI (hcg.mp hg) (Or.inr c_107) rfl rfl rfl rfl)
          · -- 119 case 1
            refine z_iload hX dX6_cheapest_162 rfl ?_
            refine z_if_eq (tgt := 210) hX dX6_cheapest_164 (by decide) (fun _ => ?_) (fun c => absurd c (by decide))
            first | refine z_iincN (b := 1) (ls' := [_, _, _, _, _, _]) hX dX6_cheapest_210 rfl rfl rfl ?_ | refine z_iinc (ls' := [_, _, _, _, _, _]) hX dX6_cheapest_210 rfl rfl ?_
            refine z_goto (tgt := 23) hX dX6_cheapest_213 (by decide) ?_
            refine z_forget (ls' := [some (.ref 0), some _, some _, none, none, none]) ⟨rfl, rfl, rfl, trivial⟩ ?_
            exact ih (k + 1) _ bs (by omega) (by omega) (bsI_no hI (fun q => hg (hcg.mpr q)))
        · -- 107 f
          refine z_goto (tgt := 210) hX dX6_cheapest_110 (by decide) ?_
          first | refine z_iincN (b := 1) (ls' := [_, _, _, _, _, _]) hX dX6_cheapest_210 rfl rfl rfl ?_ | refine z_iinc (ls' := [_, _, _, _, _, _]) hX dX6_cheapest_210 rfl rfl ?_
          refine z_goto (tgt := 23) hX dX6_cheapest_213 (by decide) ?_
          refine z_forget (ls' := [some (.ref 0), some _, some _, none, none, none]) ⟨rfl, rfl, rfl, trivial⟩ ?_
          exact ih (k + 1) _ bs (by omega) (by omega) (bsI_dear hI c_97 c_107)
set_option maxHeartbeats 4000000 in
set_option maxRecDepth 100000 in
theorem c_X6_cheapest (a : Nat → Nat → Int32) (b : Nat → Nat → Int64) (c : Nat → Int32) (hok : okM (a 15)) (hpr : ∀ q, q < 3 → zB (a 17 q) 0 1000) (x : Int32) : ∀ l, ZC l yX6_cheapest cX6_cheapest 6 (some .int) 1 [.ref 0, .int x] (WM a b c) (fun r w' => (¬ zJ x 4 ∧ r = some (.int (-1)) ∧ w' = WM a b c) ∨ ∃ wh t bs, wh < 4 ∧ x = nI wh ∧ bsI (a 17) (fun i => gdP (b 16) (tC i) (a 14) (a 15) (c 1) (c 2) 4) 1331 bs ∧ r = some (.int (bs wh)) ∧ w' = WM (va_up (va_up a 18 t) 19 bs) b c) := by
  intro l
  refine zc_intro (oc := 6) (by decide +kernel) rfl (Nat.le_of_ble_eq_true rfl) ?_
  intro X hX hR
  refine z_norm (ls' := [_, _, _, _, _, _]) rfl rfl rfl ?_
  refine z_iload_n hX dX6_cheapest_0 rfl ?_
  first | with_reducible refine z_i2lN hX dX6_cheapest_1 (by omega) ?_ | refine z_i2l hX dX6_cheapest_1 ?_
  refine z_lconst (v := 0) hX dX6_cheapest_2 rfl ?_
  refine z_ldc2 hX dX6_cheapest_3 k_6_112 ?_
  refine z_callS0 hX dX6_cheapest_6 ms_6_71 (c_X6_in _ _ _ _) (by decide) rfl rfl (Nat.le_of_ble_eq_true rfl) (fun r w1 hp _ => ?_)
  obtain ⟨rfl, hp⟩ := hp
  rcases zinJ (n := 4) rfl (by decide) hp with ⟨⟨wh, hwh, rfl⟩, rfl⟩ | ⟨hn_wh, rfl⟩
  · -- 6 T
    refine z_if_ne (tgt := 14) hX dX6_cheapest_9 (by decide) (fun _ => ?_) (fun c => absurd c (by decide))
    refine z_aload_n hX dX6_cheapest_14 rfl ?_
    refine z_get hX dX6_cheapest_15 f_6_66 rfl rfl ?_
    refine z_iconst (v := nI 3) hX dX6_cheapest_18 rfl ?_
    refine z_iconst (v := -1) hX dX6_cheapest_19 rfl ?_
    refine z_iast (w' := [_, _, _, _, _, _, _, _, _, _, _, _, _, _, _, _, _, _, _, _]) hX dX6_cheapest_20 rfl (by omega) (by decide) rfl ?_
    refine z_iconst (v := nI 0) hX dX6_cheapest_21 rfl ?_
    refine z_istore_n (ls' := [_, _, _, _, _, _]) hX dX6_cheapest_22 (Nat.le_of_ble_eq_true rfl) rfl ?_
    exact lp_ch_23 hX hR a b c hok hpr wh hwh (fun t bs hI => Or.inr ⟨wh, t, bs, hwh, rfl, hI, rfl, rfl⟩) 1332 0 (a 18) (upd (a 19) 3 (-1)) (by omega) (by omega) (Or.inl ⟨rfl, fun i hi => by omega⟩)
  · -- 6 F
    refine z_if_ne (tgt := 14) hX dX6_cheapest_9 (by decide) (fun c => absurd c (by decide)) (fun _ => ?_)
    refine z_iconst (v := -1) hX dX6_cheapest_12 rfl ?_
    refine z_iret hX hR dX6_cheapest_13 ?_
    exact Or.inl ⟨hn_wh, rfl, rfl⟩
end
section
/-! ===== the class: JDK members, air, sheets ===== -/
theorem zc_introF {l : Launch} {y : MethodName} {B : ByteArray} {maxL : Nat} {ret : Option FieldType} {d oc : Nat} {av : List Value} {w : ZW} {post : Option Value → ZW → Prop} (hy : plainFor y = true) (hoc : y.cls = zcn oc) (hav : (zen av).length ≤ maxL) (body : ∀ X : ZX, ZOK X oc B d → ZRet X ret post → ZG X 0 (zent maxL av) [] w) : ZC l y B maxL ret d av w post := by
  intro D cy ad sz
  refine va_MetF (cc := B) (maxL := maxL) (ret := ret) hy rfl ?_
  intro p e s m args below meth c s₁ B0 hml hv
  obtain ⟨rfl, hsz, hP, hK, hI, hS⟩ := hv
  have hts := atoms_spec (ws := .code y B maxL ret :: zwd) B0.pre
  have hown : s.vm.findClass (zcn oc) = some m.cls := by rw [← hoc]; exact findClass_of_methodNamed B0.named
  subst hsz
  have hb := body (p, l, e, (headSpec (.code y B maxL ret :: zwd) (zrm d)).room, s, m, (av.map (zv ad)).toArray, below, meth, c, D, cy, ad, va_A (zcw cy ad w) s.heap.size, w.length, 0, 0, MQ below (ZQc D cy ad w.length (va_A (zcw cy ad w) s.heap.size) post) (av.map (zv ad)).toArray s 0 0 (va_A (zcw cy ad w) s.heap.size))
    ⟨B0.exec, B0.bytes, hown, fun w hw => hts w (List.mem_cons_of_mem _ hw), hK, hI, fun i hi => zA_in hi, hS, ⟨Nat.le_refl _, Nat.le_refl _⟩, ⟨Nat.zero_le _, Nat.zero_le _⟩, fun q h => Or.inr h⟩ ⟨B0.returns, B0.notSynchronized, rfl⟩
  rw [lg_entry_eq]
  exact hb s.heap [] _ rfl hP va_S.rf (by rw [hml]; exact zent_ok ad av maxL hav)
set_option maxHeartbeats 4000000 in
set_option maxRecDepth 100000 in
theorem c_J_abs (x : Int64) (w : ZW) : ∀ l, ZC l yJ9_abs_067f4 cJ9_abs_067f4 2 (some .long) 0 [.long x] w (fun r w' => w' = w ∧ r = some (.long (if 0 ≤ x then x else -x))) := by
  intro l
  refine zc_introF (oc := 7) (by decide +kernel) rfl (Nat.le_of_ble_eq_true rfl) ?_
  intro X hX hR
  refine z_norm (ls' := [_, _]) rfl rfl rfl ?_
  refine z_lload_n hX dJ9_abs_067f4_0 rfl ?_
  refine z_lconst (v := 0) hX dJ9_abs_067f4_1 rfl ?_
  refine z_lcmp hX dJ9_abs_067f4_2 ?_
  refine z_lif_ge (tgt := 11) hX dJ9_abs_067f4_3 (by decide) (fun c_3 => ?_) (fun c_3 => ?_)
  · -- 3 t
    refine z_lload_n hX dJ9_abs_067f4_11 rfl ?_
    refine z_lret hX hR dJ9_abs_067f4_12 ?_
    exact ⟨rfl, by rw [if_pos c_3]⟩
  · -- 3 f
    refine z_lload_n hX dJ9_abs_067f4_6 rfl ?_
    refine z_lneg hX dJ9_abs_067f4_7 ?_
    refine z_goto (tgt := 12) hX dJ9_abs_067f4_8 (by decide) ?_
    refine z_lret hX hR dJ9_abs_067f4_12 ?_
    exact ⟨rfl, by rw [if_neg (Int64.not_le.mpr c_3)]⟩
set_option maxHeartbeats 4000000 in
set_option maxRecDepth 100000 in
theorem c_J_max (x y : Int64) (w : ZW) : ∀ l, ZC l yJ9_max_f86c9 cJ9_max_f86c9 4 (some .long) 0 [.long x, .long y] w (fun r w' => w' = w ∧ r = some (.long (if y ≤ x then x else y))) := by
  intro l
  refine zc_introF (oc := 7) (by decide +kernel) rfl (Nat.le_of_ble_eq_true rfl) ?_
  intro X hX hR
  refine z_norm (ls' := [_, _, _, _]) rfl rfl rfl ?_
  refine z_lload_n hX dJ9_max_f86c9_0 rfl ?_
  refine z_lload_n hX dJ9_max_f86c9_1 rfl ?_
  refine z_lcmp hX dJ9_max_f86c9_2 ?_
  refine z_lif_lt (tgt := 10) hX dJ9_max_f86c9_3 (by decide) (fun c_3 => ?_) (fun c_3 => ?_)
  · -- 3 t
    refine z_lload_n hX dJ9_max_f86c9_10 rfl ?_
    refine z_lret hX hR dJ9_max_f86c9_11 ?_
    exact ⟨rfl, by rw [if_neg (Int64.not_le.mpr c_3)]⟩
  · -- 3 f
    refine z_lload_n hX dJ9_max_f86c9_6 rfl ?_
    refine z_goto (tgt := 11) hX dJ9_max_f86c9_7 (by decide) ?_
    refine z_lret hX hR dJ9_max_f86c9_11 ?_
    exact ⟨rfl, by rw [if_pos c_3]⟩
set_option maxHeartbeats 4000000 in
set_option maxRecDepth 100000 in
theorem c_J_min (x y : Nat) (hx : x < 2147483648) (hy : y < 2147483648) (w : ZW) : ∀ l, ZC l yJ9_min_7cf53 cJ9_min_7cf53 2 (some .int) 0 [.int (nI x), .int (nI y)] w (fun r w' => w' = w ∧ r = some (.int (nI (if x ≤ y then x else y)))) := by
  intro l
  refine zc_introF (oc := 7) (by decide +kernel) rfl (Nat.le_of_ble_eq_true rfl) ?_
  intro X hX hR
  refine z_norm (ls' := [_, _]) rfl rfl rfl ?_
  refine z_iload_n hX dJ9_min_7cf53_0 rfl ?_
  refine z_iload_n hX dJ9_min_7cf53_1 rfl ?_
  first | with_reducible refine z_icmp_gtN (tgt := 9) hX dJ9_min_7cf53_2 (by decide) (by omega) (by omega) (fun c_2 => ?_) (fun c_2 => ?_) | refine z_icmp_gt (tgt := 9) hX dJ9_min_7cf53_2 (by decide) (fun c_2 => ?_) (fun c_2 => ?_)
  · -- 2 t
    refine z_iload_n hX dJ9_min_7cf53_9 rfl ?_
    refine z_iret hX hR dJ9_min_7cf53_10 ?_
    exact ⟨rfl, by rw [if_neg (by omega)]⟩
  · -- 2 f
    refine z_iload_n hX dJ9_min_7cf53_5 rfl ?_
    refine z_goto (tgt := 10) hX dJ9_min_7cf53_6 (by decide) ?_
    refine z_iret hX hR dJ9_min_7cf53_10 ?_
    exact ⟨rfl, by rw [if_pos c_2]⟩
theorem zFALL_le (k : Nat) : zFALL.getD k 0 ≤ 84 := by
  by_cases h : k < 81
  · exact (by decide +kernel : ∀ k, k < 81 → zFALL.getD k 0 ≤ 84) k h
  · rw [List.getD_eq_getElem?_getD, List.getElem?_eq_none (by show 81 ≤ k; omega)]
    exact Nat.zero_le _
theorem nx_xor (a b : Nat) : nI a ^^^ nI b = nI (a ^^^ b) := by
  apply Int32.toBitVec_inj.1
  show BitVec.ofNat 32 a ^^^ BitVec.ofNat 32 b = BitVec.ofNat 32 (a ^^^ b)
  apply BitVec.eq_of_getLsbD_eq
  intro i hi
  simp [hi]
theorem zxor24 {x : Nat} (hx : x < 2147483648) : 0 ≤ nI x ^^^ nI 24 := by
  rw [nx_xor]
  exact nI_pos' (Nat.xor_lt_two_pow (n := 31) hx (by decide))
set_option maxHeartbeats 4000000 in
set_option maxRecDepth 100000 in
theorem c_J_fmod (x : Nat) (hx : x < 2147483648) (w : ZW) : ∀ l, ZC l yJ9_floorMod_7cf53 cJ9_floorMod_7cf53 3 (some .int) 0 [.int (nI x), .int (nI 24)] w (fun r w' => w' = w ∧ r = some (.int (nI (x % 24)))) := by
  intro l
  refine zc_introF (oc := 7) (by decide +kernel) rfl (Nat.le_of_ble_eq_true rfl) ?_
  intro X hX hR
  refine z_norm (ls' := [_, _, _]) rfl rfl rfl ?_
  refine z_iload_n hX dJ9_floorMod_7cf53_0 rfl ?_
  refine z_iload_n hX dJ9_floorMod_7cf53_1 rfl ?_
  first | with_reducible refine z_iremN hX dJ9_floorMod_7cf53_2 (by omega) (by decide) (by decide) ?_ | refine z_irem hX dJ9_floorMod_7cf53_2 (by decide) ?_
  refine z_istore_n (ls' := [_, _, _]) hX dJ9_floorMod_7cf53_3 (Nat.le_of_ble_eq_true rfl) rfl ?_
  refine z_iload_n hX dJ9_floorMod_7cf53_4 rfl ?_
  refine z_iload_n hX dJ9_floorMod_7cf53_5 rfl ?_
  refine z_ixor hX dJ9_floorMod_7cf53_6 ?_
  refine z_if_ge (tgt := 18) hX dJ9_floorMod_7cf53_7 (by decide) (fun c_7 => ?_) (fun c_7 => ?_)
  · -- 7 t
    refine z_iload_n hX dJ9_floorMod_7cf53_18 rfl ?_
    refine z_iret hX hR dJ9_floorMod_7cf53_19 ?_
    exact ⟨rfl, rfl⟩
  · -- 7 f
    exact absurd (zxor24 hx) c_7
set_option maxHeartbeats 4000000 in
set_option maxRecDepth 100000 in
theorem lp_fillL {X : ZX} {post : Option Value → ZW → Prop} (hX : ZOK X 8 cJ7_fill_d0a16 0) (hR : ZRet X none post) (N : Nat) (hN : N < 2147483648) (v : Int64) (hpost : ∀ f, (∀ q, q < N → f q = v) → post none [.inl (1, N, .inr f)]) : ∀ (n k : Nat) (f : Nat → Int64), k ≤ N → N < k + n → (∀ q, q < k → f q = v) → ZG X 6 [some (.ref 0), some (.long v), none, some (.int (nI k)), some (.int (nI N))] [] [.inl (1, N, .inr f)] := by
  intro n
  induction n with
  | zero => intro k f z1 z2; omega
  | succ n ih =>
    intro k f hk1 hk2 hf
    refine z_iload_n hX dJ7_fill_d0a16_6 rfl ?_
    refine z_iload hX dJ7_fill_d0a16_7 rfl ?_
    first | with_reducible refine z_icmp_geN (tgt := 22) hX dJ7_fill_d0a16_9 (by decide) (by omega) (by omega) (fun c_9 => ?_) (fun c_9 => ?_) | refine z_icmp_ge (tgt := 22) hX dJ7_fill_d0a16_9 (by decide) (fun c_9 => ?_) (fun c_9 => ?_)
    · -- 9 t
      refine z_vret hX hR dJ7_fill_d0a16_22 ?_
      exact hpost f (fun q hq => hf q (by omega))
    · -- 9 f
      refine z_aload_n hX dJ7_fill_d0a16_12 rfl ?_
      refine z_iload_n hX dJ7_fill_d0a16_13 rfl ?_
      refine z_lload_n hX dJ7_fill_d0a16_14 rfl ?_
      refine z_last (w' := [_]) hX dJ7_fill_d0a16_15 rfl c_9 hN rfl ?_
      first | refine z_iincN (b := 1) (ls' := [_, _, _, _, _]) hX dJ7_fill_d0a16_16 rfl rfl rfl ?_ | refine z_iinc (ls' := [_, _, _, _, _]) hX dJ7_fill_d0a16_16 rfl rfl ?_
      refine z_goto (tgt := 6) hX dJ7_fill_d0a16_19 (by decide) ?_
      refine ih (k + 1) (vp_updL f k v) (by omega) (by omega) (fun q hq => ?_)
      by_cases e : q = k
      · rw [e, pk_uLs]
      · rw [pk_uLn e]
        exact hf q (by omega)
set_option maxHeartbeats 4000000 in
set_option maxRecDepth 100000 in
theorem c_J_fillL (N : Nat) (hN : N < 2147483648) (v : Int64) (f : Nat → Int64) : ∀ l, ZC l yJ7_fill_d0a16 cJ7_fill_d0a16 5 none 0 [.ref 0, .long v] [.inl (1, N, .inr f)] (fun r w' => r = none ∧ ∃ f1, w' = [.inl (1, N, .inr f1)] ∧ ∀ q, q < N → f1 q = v) := by
  intro l
  refine zc_intro (oc := 8) (by decide +kernel) rfl (Nat.le_of_ble_eq_true rfl) ?_
  intro X hX hR
  refine z_norm (ls' := [_, _, _, _, _]) rfl rfl rfl ?_
  refine z_iconst (v := nI 0) hX dJ7_fill_d0a16_0 rfl ?_
  refine z_istore_n (ls' := [_, _, _, _, _]) hX dJ7_fill_d0a16_1 (Nat.le_of_ble_eq_true rfl) rfl ?_
  refine z_aload_n hX dJ7_fill_d0a16_2 rfl ?_
  refine z_ilen hX dJ7_fill_d0a16_3 rfl (by decide) ?_
  refine z_istore (ls' := [_, _, _, _, _]) hX dJ7_fill_d0a16_4 (Nat.le_of_ble_eq_true rfl) rfl ?_
  exact lp_fillL hX hR N hN v (fun f1 e => ⟨rfl, f1, rfl, e⟩) (N + 1) 0 f (by omega) (by omega) (fun q hq => by omega)
set_option maxHeartbeats 4000000 in
set_option maxRecDepth 100000 in
theorem lp_fillI {X : ZX} {post : Option Value → ZW → Prop} (hX : ZOK X 8 cJ7_fill_53178 0) (hR : ZRet X none post) (N : Nat) (hN : N < 2147483648) (v : Int32) (hpost : ∀ f, (∀ q, q < N → f q = v) → post none [.inl (0, N, .inl f)]) : ∀ (n k : Nat) (f : Nat → Int32), k ≤ N → N < k + n → (∀ q, q < k → f q = v) → ZG X 5 [some (.ref 0), some (.int v), some (.int (nI k)), some (.int (nI N))] [] [.inl (0, N, .inl f)] := by
  intro n
  induction n with
  | zero => intro k f z1 z2; omega
  | succ n ih =>
    intro k f hk1 hk2 hf
    refine z_iload_n hX dJ7_fill_53178_5 rfl ?_
    refine z_iload_n hX dJ7_fill_53178_6 rfl ?_
    first | with_reducible refine z_icmp_geN (tgt := 20) hX dJ7_fill_53178_7 (by decide) (by omega) (by omega) (fun c_7 => ?_) (fun c_7 => ?_) | refine z_icmp_ge (tgt := 20) hX dJ7_fill_53178_7 (by decide) (fun c_7 => ?_) (fun c_7 => ?_)
    · -- 7 t
      refine z_vret hX hR dJ7_fill_53178_20 ?_
      exact hpost f (fun q hq => hf q (by omega))
    · -- 7 f
      refine z_aload_n hX dJ7_fill_53178_10 rfl ?_
      refine z_iload_n hX dJ7_fill_53178_11 rfl ?_
      refine z_iload_n hX dJ7_fill_53178_12 rfl ?_
      refine z_iast (w' := [_]) hX dJ7_fill_53178_13 rfl c_7 hN rfl ?_
      first | refine z_iincN (b := 1) (ls' := [_, _, _, _]) hX dJ7_fill_53178_14 rfl rfl rfl ?_ | refine z_iinc (ls' := [_, _, _, _]) hX dJ7_fill_53178_14 rfl rfl ?_
      refine z_goto (tgt := 5) hX dJ7_fill_53178_17 (by decide) ?_
      refine ih (k + 1) (upd f k v) (by omega) (by omega) (fun q hq => ?_)
      by_cases e : q = k
      · rw [e, pk_us]
      · rw [pk_un e]
        exact hf q (by omega)
set_option maxHeartbeats 4000000 in
set_option maxRecDepth 100000 in
theorem c_J_fillI (N : Nat) (hN : N < 2147483648) (v : Int32) (f : Nat → Int32) : ∀ l, ZC l yJ7_fill_53178 cJ7_fill_53178 4 none 0 [.ref 0, .int v] [.inl (0, N, .inl f)] (fun r w' => r = none ∧ ∃ f1, w' = [.inl (0, N, .inl f1)] ∧ ∀ q, q < N → f1 q = v) := by
  intro l
  refine zc_intro (oc := 8) (by decide +kernel) rfl (Nat.le_of_ble_eq_true rfl) ?_
  intro X hX hR
  refine z_norm (ls' := [_, _, _, _]) rfl rfl rfl ?_
  refine z_iconst (v := nI 0) hX dJ7_fill_53178_0 rfl ?_
  refine z_istore_n (ls' := [_, _, _, _]) hX dJ7_fill_53178_1 (Nat.le_of_ble_eq_true rfl) rfl ?_
  refine z_aload_n hX dJ7_fill_53178_2 rfl ?_
  refine z_ilen hX dJ7_fill_53178_3 rfl (by decide) ?_
  refine z_istore_n (ls' := [_, _, _, _]) hX dJ7_fill_53178_4 (Nat.le_of_ble_eq_true rfl) rfl ?_
  exact lp_fillI hX hR N hN v (fun f1 e => ⟨rfl, f1, rfl, e⟩) (N + 1) 0 f (by omega) (by omega) (fun q hq => by omega)
theorem zJ_lt {x : Int32} {n : Nat} (h1 : ¬ x < 0) (h2 : ¬ nI n ≤ x) (hn : n < 2147483648) : zJ x n := by
  rw [zJ_iff hn]
  rw [Int32.lt_iff_toInt_lt] at h1
  rw [Int32.le_iff_toInt_le, nI_toInt hn] at h2
  have h3 : (0 : Int32).toInt = 0 := rfl
  omega
theorem zJ_ge {x : Int32} {n : Nat} (hn : n < 2147483648) (h : nI n ≤ x) : ¬ zJ x n := by
  rw [zJ_iff hn]
  rw [Int32.le_iff_toInt_le, nI_toInt hn] at h
  omega
theorem zJ_neg {x : Int32} {n : Nat} (hn : n < 2147483648) (h : x < 0) : ¬ zJ x n := by
  rw [zJ_iff hn]
  rw [Int32.lt_iff_toInt_lt] at h
  have h3 : (0 : Int32).toInt = 0 := rfl
  omega
theorem zJ_2 {x : Int32} (h1 : ¬ x = 0) (h2 : ¬ x = nI 1) : ¬ zJ x 2 := by
  rintro ⟨j, hj, rfl⟩
  rcases (show j = 0 ∨ j = 1 by omega) with e | e
  · exact h1 (by rw [e]; rfl)
  · exact h2 (by rw [e])
set_option maxHeartbeats 4000000 in
set_option maxRecDepth 100000 in
theorem c_X5_isBelow (x : Int32) (n : Nat) (hn : n < 2147483648) (w : ZW) : ∀ l, ZC l yX5_isBelow cX5_isBelow 2 (some .boolean) 0 [.int x, .int (nI n)] w (fun r w' => w' = w ∧ ((zJ x n ∧ r = some (.int (nI 1))) ∨ (¬ zJ x n ∧ r = some (.int (nI 0))))) := by
  intro l
  refine zc_intro (oc := 5) (by decide +kernel) rfl (Nat.le_of_ble_eq_true rfl) ?_
  intro X hX hR
  refine z_norm (ls' := [_, _]) rfl rfl rfl ?_
  refine z_iload_n hX dX5_isBelow_0 rfl ?_
  refine z_if_lt (tgt := 13) hX dX5_isBelow_1 (by decide) (fun c_1 => ?_) (fun c_1 => ?_)
  · -- 1 t
    refine z_iconst (v := nI 0) hX dX5_isBelow_13 rfl ?_
    refine z_zret hX hR dX5_isBelow_14 (by first | exact Or.inl rfl | exact Or.inr rfl | assumption) ?_
    exact ⟨rfl, Or.inr ⟨zJ_neg hn c_1, rfl⟩⟩
  · -- 1 f
    refine z_iload_n hX dX5_isBelow_4 rfl ?_
    refine z_iload_n hX dX5_isBelow_5 rfl ?_
    first | with_reducible refine z_icmp_geN (tgt := 13) hX dX5_isBelow_6 (by decide) (by omega) (by omega) (fun c_6 => ?_) (fun c_6 => ?_) | refine z_icmp_ge (tgt := 13) hX dX5_isBelow_6 (by decide) (fun c_6 => ?_) (fun c_6 => ?_)
    · -- 6 t
      refine z_iconst (v := nI 0) hX dX5_isBelow_13 rfl ?_
      refine z_zret hX hR dX5_isBelow_14 (by first | exact Or.inl rfl | exact Or.inr rfl | assumption) ?_
      exact ⟨rfl, Or.inr ⟨zJ_ge hn c_6, rfl⟩⟩
    · -- 6 f
      refine z_iconst (v := nI 1) hX dX5_isBelow_9 rfl ?_
      refine z_goto (tgt := 14) hX dX5_isBelow_10 (by decide) ?_
      refine z_zret hX hR dX5_isBelow_14 (by first | exact Or.inl rfl | exact Or.inr rfl | assumption) ?_
      exact ⟨rfl, Or.inl ⟨zJ_lt c_1 c_6 hn, rfl⟩⟩
set_option maxHeartbeats 4000000 in
set_option maxRecDepth 100000 in
theorem c_X5_isLane (x : Int32) (w : ZW) : ∀ l, ZC l yX5_isLane cX5_isLane 1 (some .boolean) 0 [.int x] w (fun r w' => w' = w ∧ ((zJ x 2 ∧ r = some (.int (nI 1))) ∨ (¬ zJ x 2 ∧ r = some (.int (nI 0))))) := by
  intro l
  refine zc_intro (oc := 5) (by decide +kernel) rfl (Nat.le_of_ble_eq_true rfl) ?_
  intro X hX hR
  refine z_norm (ls' := [_]) rfl rfl rfl ?_
  refine z_iload_n hX dX5_isLane_0 rfl ?_
  refine z_if_eq (tgt := 9) hX dX5_isLane_1 (by decide) (fun c_1 => ?_) (fun c_1 => ?_)
  · -- 1 t
    refine z_iconst (v := nI 1) hX dX5_isLane_9 rfl ?_
    refine z_goto (tgt := 14) hX dX5_isLane_10 (by decide) ?_
    refine z_zret hX hR dX5_isLane_14 (by first | exact Or.inl rfl | exact Or.inr rfl | assumption) ?_
    exact ⟨rfl, Or.inl ⟨⟨0, by omega, c_1⟩, rfl⟩⟩
  · -- 1 f
    refine z_iload_n hX dX5_isLane_4 rfl ?_
    refine z_iconst (v := nI 1) hX dX5_isLane_5 rfl ?_
    first | with_reducible refine z_icmp_neN (tgt := 13) hX dX5_isLane_6 (by decide) (by omega) (by omega) (fun c_6 => ?_) (fun c_6 => ?_) | refine z_icmp_ne (tgt := 13) hX dX5_isLane_6 (by decide) (fun c_6 => ?_) (fun c_6 => ?_)
    · -- 6 t
      refine z_iconst (v := nI 0) hX dX5_isLane_13 rfl ?_
      refine z_zret hX hR dX5_isLane_14 (by first | exact Or.inl rfl | exact Or.inr rfl | assumption) ?_
      exact ⟨rfl, Or.inr ⟨zJ_2 c_1 c_6, rfl⟩⟩
    · -- 6 f
      refine z_iconst (v := nI 1) hX dX5_isLane_9 rfl ?_
      refine z_goto (tgt := 14) hX dX5_isLane_10 (by decide) ?_
      refine z_zret hX hR dX5_isLane_14 (by first | exact Or.inl rfl | exact Or.inr rfl | assumption) ?_
      exact ⟨rfl, Or.inl ⟨⟨1, by omega, c_6⟩, rfl⟩⟩
def WA (wn : Nat → Int32) (h nt : Nat → Int64) : ZW := [.inr (0, [.ref 1, .ref 2, .ref 3]), .inl (0, 24, .inl wn), .inl (1, 10, .inr h), .inl (1, 24, .inr nt)]
def surF (wn : Nat → Int32) (bx : Nat) : Int32 := wn (bx + bx / 3 + 1) - wn (bx + bx / 3) + wn (12 + bx + 3) - wn (12 + bx)
set_option maxHeartbeats 4000000 in
set_option maxRecDepth 100000 in
theorem c_X0_surplus (wn : Nat → Int32) (h nt : Nat → Int64) (bx : Nat) (hb : bx < 9) : ∀ l, ZC l yX0_surplus cX0_surplus 5 (some .int) 0 [.ref 0, .int (nI bx)] (WA wn h nt) (fun r w' => w' = WA wn h nt ∧ r = some (.int (surF wn bx))) := by
  intro l
  refine zc_intro (oc := 0) (by decide +kernel) rfl (Nat.le_of_ble_eq_true rfl) ?_
  intro X hX hR
  refine z_norm (ls' := [_, _, _, _, _]) rfl rfl rfl ?_
  refine z_iload_n hX dX0_surplus_0 rfl ?_
  refine z_iload_n hX dX0_surplus_1 rfl ?_
  refine z_iconst (v := nI 3) hX dX0_surplus_2 rfl ?_
  first | with_reducible refine z_idivN hX dX0_surplus_3 (by omega) (by decide) (by decide) ?_ | refine z_idiv hX dX0_surplus_3 (by decide) ?_
  first | with_reducible refine z_iaddN hX dX0_surplus_4 ?_ | refine z_iadd hX dX0_surplus_4 ?_
  refine z_istore_n (ls' := [_, _, _, _, _]) hX dX0_surplus_5 (Nat.le_of_ble_eq_true rfl) rfl ?_
  refine z_bipush (v := nI 12) hX dX0_surplus_6 rfl ?_
  refine z_iload_n hX dX0_surplus_8 rfl ?_
  first | with_reducible refine z_iaddN hX dX0_surplus_9 ?_ | refine z_iadd hX dX0_surplus_9 ?_
  refine z_istore_n (ls' := [_, _, _, _, _]) hX dX0_surplus_10 (Nat.le_of_ble_eq_true rfl) rfl ?_
  refine z_iload_n hX dX0_surplus_11 rfl ?_
  refine z_iconst (v := nI 3) hX dX0_surplus_12 rfl ?_
  first | with_reducible refine z_iaddN hX dX0_surplus_13 ?_ | refine z_iadd hX dX0_surplus_13 ?_
  refine z_istore (ls' := [_, _, _, _, _]) hX dX0_surplus_14 (Nat.le_of_ble_eq_true rfl) rfl ?_
  refine z_aload_n hX dX0_surplus_16 rfl ?_
  refine z_get hX dX0_surplus_17 f_0_9 rfl rfl ?_
  refine z_iload_n hX dX0_surplus_20 rfl ?_
  refine z_iconst (v := nI 1) hX dX0_surplus_21 rfl ?_
  first | with_reducible refine z_iaddN hX dX0_surplus_22 ?_ | refine z_iadd hX dX0_surplus_22 ?_
  first | refine z_iald hX dX0_surplus_23 rfl (by omega) (by decide) ?_ | refine z_stld (nm := "FROM") (xs := zFROM) hX dX0_surplus_23 (fun _ _ _ _ h => h.1) (by show _ < 24; omega) (by decide) ?_ | refine z_stld (nm := "TO") (xs := zTO) hX dX0_surplus_23 (fun _ _ _ _ h => h.2.1) (by show _ < 24; omega) (by decide) ?_ | refine z_stld (nm := "FALL") (xs := zFALL) hX dX0_surplus_23 (fun _ _ _ _ h => h.2.2.1) (by show _ < 81; omega) (by decide) ?_
  refine z_aload_n hX dX0_surplus_24 rfl ?_
  refine z_get hX dX0_surplus_25 f_0_9 rfl rfl ?_
  refine z_iload_n hX dX0_surplus_28 rfl ?_
  first | refine z_iald hX dX0_surplus_29 rfl (by omega) (by decide) ?_ | refine z_stld (nm := "FROM") (xs := zFROM) hX dX0_surplus_29 (fun _ _ _ _ h => h.1) (by show _ < 24; omega) (by decide) ?_ | refine z_stld (nm := "TO") (xs := zTO) hX dX0_surplus_29 (fun _ _ _ _ h => h.2.1) (by show _ < 24; omega) (by decide) ?_ | refine z_stld (nm := "FALL") (xs := zFALL) hX dX0_surplus_29 (fun _ _ _ _ h => h.2.2.1) (by show _ < 81; omega) (by decide) ?_
  first | with_reducible refine z_isubN hX dX0_surplus_30 (by omega) ?_ | refine z_isub hX dX0_surplus_30 ?_
  refine z_aload_n hX dX0_surplus_31 rfl ?_
  refine z_get hX dX0_surplus_32 f_0_9 rfl rfl ?_
  refine z_iload hX dX0_surplus_35 rfl ?_
  first | refine z_iald hX dX0_surplus_37 rfl (by omega) (by decide) ?_ | refine z_stld (nm := "FROM") (xs := zFROM) hX dX0_surplus_37 (fun _ _ _ _ h => h.1) (by show _ < 24; omega) (by decide) ?_ | refine z_stld (nm := "TO") (xs := zTO) hX dX0_surplus_37 (fun _ _ _ _ h => h.2.1) (by show _ < 24; omega) (by decide) ?_ | refine z_stld (nm := "FALL") (xs := zFALL) hX dX0_surplus_37 (fun _ _ _ _ h => h.2.2.1) (by show _ < 81; omega) (by decide) ?_
  first | with_reducible refine z_iaddN hX dX0_surplus_38 ?_ | refine z_iadd hX dX0_surplus_38 ?_
  refine z_aload_n hX dX0_surplus_39 rfl ?_
  refine z_get hX dX0_surplus_40 f_0_9 rfl rfl ?_
  refine z_iload_n hX dX0_surplus_43 rfl ?_
  first | refine z_iald hX dX0_surplus_44 rfl (by omega) (by decide) ?_ | refine z_stld (nm := "FROM") (xs := zFROM) hX dX0_surplus_44 (fun _ _ _ _ h => h.1) (by show _ < 24; omega) (by decide) ?_ | refine z_stld (nm := "TO") (xs := zTO) hX dX0_surplus_44 (fun _ _ _ _ h => h.2.1) (by show _ < 24; omega) (by decide) ?_ | refine z_stld (nm := "FALL") (xs := zFALL) hX dX0_surplus_44 (fun _ _ _ _ h => h.2.2.1) (by show _ < 81; omega) (by decide) ?_
  first | with_reducible refine z_isubN hX dX0_surplus_45 (by omega) ?_ | refine z_isub hX dX0_surplus_45 ?_
  refine z_iret hX hR dX0_surplus_46 ?_
  exact ⟨rfl, rfl⟩
set_option maxHeartbeats 4000000 in
set_option maxRecDepth 100000 in
theorem c_X0_changeAt (wn : Nat → Int32) (h nt : Nat → Int64) (k : Nat) (hk : k < 24) : ∀ l, ZC l yX0_changeAt cX0_changeAt 2 (some .long) 0 [.ref 0, .int (nI k)] (WA wn h nt) (fun r w' => w' = WA wn h nt ∧ r = some (.long (h (zFROM.getD k 0) - h (zTO.getD k 0)))) := by
  intro l
  refine zc_intro (oc := 0) (by decide +kernel) rfl (Nat.le_of_ble_eq_true rfl) ?_
  intro X hX hR
  refine z_norm (ls' := [_, _]) rfl rfl rfl ?_
  have hF := zFROM_le k
  have hT := zTO_le k
  refine z_aload_n hX dX0_changeAt_0 rfl ?_
  refine z_get hX dX0_changeAt_1 f_0_15 rfl rfl ?_
  refine z_stat (nm := "FROM") (xs := zFROM) (k := 1000) hX dX0_changeAt_4 (fun _ _ _ _ h => ⟨h.1, h.2.2.2.2.1⟩) ?_
  refine z_iload_n hX dX0_changeAt_7 rfl ?_
  first | refine z_iald hX dX0_changeAt_8 rfl (by omega) (by decide) ?_ | refine z_stld (nm := "FROM") (xs := zFROM) hX dX0_changeAt_8 (fun _ _ _ _ h => h.1) (by show _ < 24; omega) (by decide) ?_ | refine z_stld (nm := "TO") (xs := zTO) hX dX0_changeAt_8 (fun _ _ _ _ h => h.2.1) (by show _ < 24; omega) (by decide) ?_ | refine z_stld (nm := "FALL") (xs := zFALL) hX dX0_changeAt_8 (fun _ _ _ _ h => h.2.2.1) (by show _ < 81; omega) (by decide) ?_
  refine z_lald hX dX0_changeAt_9 rfl (by omega) (by decide) ?_
  refine z_aload_n hX dX0_changeAt_10 rfl ?_
  refine z_get hX dX0_changeAt_11 f_0_15 rfl rfl ?_
  refine z_stat (nm := "TO") (xs := zTO) (k := 1001) hX dX0_changeAt_14 (fun _ _ _ _ h => ⟨h.2.1, h.2.2.2.2.2.1⟩) ?_
  refine z_iload_n hX dX0_changeAt_17 rfl ?_
  first | refine z_iald hX dX0_changeAt_18 rfl (by omega) (by decide) ?_ | refine z_stld (nm := "FROM") (xs := zFROM) hX dX0_changeAt_18 (fun _ _ _ _ h => h.1) (by show _ < 24; omega) (by decide) ?_ | refine z_stld (nm := "TO") (xs := zTO) hX dX0_changeAt_18 (fun _ _ _ _ h => h.2.1) (by show _ < 24; omega) (by decide) ?_ | refine z_stld (nm := "FALL") (xs := zFALL) hX dX0_changeAt_18 (fun _ _ _ _ h => h.2.2.1) (by show _ < 81; omega) (by decide) ?_
  refine z_lald hX dX0_changeAt_19 rfl (by omega) (by decide) ?_
  refine z_lsub hX dX0_changeAt_20 ?_
  refine z_lret hX hR dX0_changeAt_21 ?_
  exact ⟨rfl, rfl⟩
set_option maxHeartbeats 4000000 in
set_option maxRecDepth 100000 in
theorem lp_sq_4 {X : ZX} {post : Option Value → ZW → Prop} (hX : ZOK X 0 cX0_squaresOfChanges 1) (hR : ZRet X (some .long) post) (wn : Nat → Int32) (h nt : Nat → Int64) (hpost : post (some (.long (chF h 24))) (WA wn h nt)) : ∀ (n k : Nat), k ≤ 24 → 24 < k + n → ZG X 4 [some (.ref 0), some (.long (chF h k)), none, some (.int (nI k))] [] (WA wn h nt) := by
  intro n
  induction n with
  | zero => intro k z1 z2; omega
  | succ n ih =>
    intro k hk1 hk2
    refine z_iload_n hX dX0_squaresOfChanges_4 rfl ?_
    refine z_bipush (v := nI 24) hX dX0_squaresOfChanges_5 rfl ?_
    first | with_reducible refine z_icmp_geN (tgt := 30) hX dX0_squaresOfChanges_7 (by decide) (by omega) (by omega) (fun c_7 => ?_) (fun c_7 => ?_) | refine z_icmp_ge (tgt := 30) hX dX0_squaresOfChanges_7 (by decide) (fun c_7 => ?_) (fun c_7 => ?_)
    · -- 7 t
      have zk : k = 24 := by omega
      subst zk
      refine z_lload_n hX dX0_squaresOfChanges_30 rfl ?_
      refine z_lret hX hR dX0_squaresOfChanges_31 ?_
      exact hpost
    · -- 7 f
      refine z_lload_n hX dX0_squaresOfChanges_10 rfl ?_
      refine z_aload_n hX dX0_squaresOfChanges_11 rfl ?_
      refine z_iload_n hX dX0_squaresOfChanges_12 rfl ?_
      refine z_callV0 hX dX0_squaresOfChanges_13 mv_0_39 (c_X0_changeAt wn h nt k (by omega)) (by decide) rfl rfl rfl rfl (Nat.le_of_ble_eq_true rfl) (fun r w1 hp _ => ?_)
      obtain ⟨rfl, rfl⟩ := hp
      refine z_aload_n hX dX0_squaresOfChanges_16 rfl ?_
      refine z_iload_n hX dX0_squaresOfChanges_17 rfl ?_
      refine z_callV0 hX dX0_squaresOfChanges_18 mv_0_39 (c_X0_changeAt wn h nt k (by omega)) (by decide) rfl rfl rfl rfl (Nat.le_of_ble_eq_true rfl) (fun r w1 hp _ => ?_)
      obtain ⟨rfl, rfl⟩ := hp
      refine z_lmul hX dX0_squaresOfChanges_21 ?_
      refine z_ladd hX dX0_squaresOfChanges_22 ?_
      refine z_lstore_n (ls' := [_, _, _, _]) hX dX0_squaresOfChanges_23 (Nat.le_of_ble_eq_true rfl) rfl ?_
      first | refine z_iincN (b := 1) (ls' := [_, _, _, _]) hX dX0_squaresOfChanges_24 rfl rfl rfl ?_ | refine z_iinc (ls' := [_, _, _, _]) hX dX0_squaresOfChanges_24 rfl rfl ?_
      refine z_goto (tgt := 4) hX dX0_squaresOfChanges_27 (by decide) ?_
      exact ih (k + 1) (by omega) (by omega)
set_option maxHeartbeats 4000000 in
set_option maxRecDepth 100000 in
theorem c_X0_squares (wn : Nat → Int32) (h nt : Nat → Int64) : ∀ l, ZC l yX0_squaresOfChanges cX0_squaresOfChanges 4 (some .long) 1 [.ref 0] (WA wn h nt) (fun r w' => w' = WA wn h nt ∧ r = some (.long (chF h 24))) := by
  intro l
  refine zc_intro (oc := 0) (by decide +kernel) rfl (Nat.le_of_ble_eq_true rfl) ?_
  intro X hX hR
  refine z_norm (ls' := [_, _, _, _]) rfl rfl rfl ?_
  refine z_lconst (v := 0) hX dX0_squaresOfChanges_0 rfl ?_
  refine z_lstore_n (ls' := [_, _, _, _]) hX dX0_squaresOfChanges_1 (Nat.le_of_ble_eq_true rfl) rfl ?_
  refine z_iconst (v := nI 0) hX dX0_squaresOfChanges_2 rfl ?_
  refine z_istore_n (ls' := [_, _, _, _]) hX dX0_squaresOfChanges_3 (Nat.le_of_ble_eq_true rfl) rfl ?_
  exact lp_sq_4 hX hR wn h nt ⟨rfl, rfl⟩ 25 0 (by omega) (by omega)
set_option maxHeartbeats 4000000 in
set_option maxRecDepth 100000 in
theorem lp_set_75 {X : ZX} {post : Option Value → ZW → Prop} (hX : ZOK X 0 cX0_settle 1) (hR : ZRet X none post) (wn : Nat → Int32) (h nt0 : Nat → Int64) (hpost : ∀ nt, (∀ q, nt q = if q < 24 then 100352 * (wn q).toInt64 + (h (zFROM.getD q 0) - h (zTO.getD q 0)) else nt0 q) → post none (WA wn h nt)) : ∀ (n k : Nat) (nt : Nat → Int64), k ≤ 24 → 24 < k + n → (∀ q, nt q = if q < k then 100352 * (wn q).toInt64 + (h (zFROM.getD q 0) - h (zTO.getD q 0)) else nt0 q) → ZG X 75 [some (.ref 0), some (.int (nI k)), none, none, none] [] (WA wn h nt) := by
  intro n
  induction n with
  | zero => intro k nt z1 z2; omega
  | succ n ih =>
    intro k nt hk1 hk2 hn
    refine z_iload_n hX dX0_settle_75 rfl ?_
    refine z_bipush (v := nI 24) hX dX0_settle_76 rfl ?_
    first | with_reducible refine z_icmp_geN (tgt := 110) hX dX0_settle_78 (by decide) (by omega) (by omega) (fun c_78 => ?_) (fun c_78 => ?_) | refine z_icmp_ge (tgt := 110) hX dX0_settle_78 (by decide) (fun c_78 => ?_) (fun c_78 => ?_)
    · -- 78 t
      have zk : k = 24 := by omega
      subst zk
      refine z_vret hX hR dX0_settle_110 ?_
      exact hpost nt hn
    · -- 78 f
      refine z_aload_n hX dX0_settle_81 rfl ?_
      refine z_get hX dX0_settle_82 f_0_19 rfl rfl ?_
      refine z_iload_n hX dX0_settle_85 rfl ?_
      refine z_ldc2 hX dX0_settle_86 k_0_37 ?_
      refine z_aload_n hX dX0_settle_89 rfl ?_
      refine z_get hX dX0_settle_90 f_0_9 rfl rfl ?_
      refine z_iload_n hX dX0_settle_93 rfl ?_
      first | refine z_iald hX dX0_settle_94 rfl (by omega) (by decide) ?_ | refine z_stld (nm := "FROM") (xs := zFROM) hX dX0_settle_94 (fun _ _ _ _ h => h.1) (by show _ < 24; omega) (by decide) ?_ | refine z_stld (nm := "TO") (xs := zTO) hX dX0_settle_94 (fun _ _ _ _ h => h.2.1) (by show _ < 24; omega) (by decide) ?_ | refine z_stld (nm := "FALL") (xs := zFALL) hX dX0_settle_94 (fun _ _ _ _ h => h.2.2.1) (by show _ < 81; omega) (by decide) ?_
      first | with_reducible refine z_i2lN hX dX0_settle_95 (by omega) ?_ | refine z_i2l hX dX0_settle_95 ?_
      refine z_lmul hX dX0_settle_96 ?_
      refine z_aload_n hX dX0_settle_97 rfl ?_
      refine z_iload_n hX dX0_settle_98 rfl ?_
      refine z_callV0 hX dX0_settle_99 mv_0_39 (c_X0_changeAt wn h nt k (by omega)) (by decide) rfl rfl rfl rfl (Nat.le_of_ble_eq_true rfl) (fun r w1 hp _ => ?_)
      obtain ⟨rfl, rfl⟩ := hp
      refine z_ladd hX dX0_settle_102 ?_
      refine z_last (w' := [_, _, _, _]) hX dX0_settle_103 rfl (by omega) (by decide) rfl ?_
      first | refine z_iincN (b := 1) (ls' := [_, _, _, _, _]) hX dX0_settle_104 rfl rfl rfl ?_ | refine z_iinc (ls' := [_, _, _, _, _]) hX dX0_settle_104 rfl rfl ?_
      refine z_goto (tgt := 75) hX dX0_settle_107 (by decide) ?_
      refine ih (k + 1) (vp_updL nt k _) (by omega) (by omega) (fun q => ?_)
      by_cases e : q = k
      · rw [e, pk_uLs, if_pos (by omega)]
      · rw [pk_uLn e, hn q]
        by_cases e2 : q < k
        · rw [if_pos e2, if_pos (by omega)]
        · rw [if_neg e2, if_neg (by omega)]
/-- the heights as the class finds them: behind k givers, the last one's first j boxes too -/
def stT (wn : Nat → Int32) (k q : Nat) : Int64 := 448 * (surF wn k).toInt64 * lN (zFALL.getD (k * 9 + q) 0)
def stF (wn : Nat → Int32) (q k : Nat) : Int64 := zfold (fun i s => s - stT wn i q) k 0
theorem stF_s (wn : Nat → Int32) (q k : Nat) : stF wn q (k + 1) = stF wn q k - stT wn k q := rfl
set_option maxHeartbeats 4000000 in
set_option maxRecDepth 100000 in
theorem lp_set_30 {X : ZX} {post : Option Value → ZW → Prop} (hX : ZOK X 0 cX0_settle 1) (hR : ZRet X none post) (wn : Nat → Int32) (h nt : Nat → Int64) (k : Nat) (hk : k < 9) (K : ∀ h1, (∀ q, q < 9 → h1 q = stF wn q (k + 1)) → h1 9 = 0 → ZG X 67 [some (.ref 0), some (.int (nI k)), some (.long (448 * (surF wn k).toInt64)), none, none] [] (WA wn h1 nt)) : ∀ (n j : Nat) (h : Nat → Int64), j ≤ 9 → 9 < j + n → (∀ q, q < 9 → h q = if q < j then stF wn q (k + 1) else stF wn q k) → h 9 = 0 → ZG X 30 [some (.ref 0), some (.int (nI k)), some (.long (448 * (surF wn k).toInt64)), none, some (.int (nI j))] [] (WA wn h nt) := by
  intro n
  induction n with
  | zero => intro j h z1 z2; omega
  | succ n ih =>
    intro j h hj1 hj2 hh h9
    refine z_iload hX dX0_settle_30 rfl ?_
    refine z_bipush (v := nI 9) hX dX0_settle_32 rfl ?_
    first | with_reducible refine z_icmp_geN (tgt := 67) hX dX0_settle_34 (by decide) (by omega) (by omega) (fun c_34 => ?_) (fun c_34 => ?_) | refine z_icmp_ge (tgt := 67) hX dX0_settle_34 (by decide) (fun c_34 => ?_) (fun c_34 => ?_)
    · -- 34 t
      have zj : j = 9 := by omega
      subst zj
      refine z_forget (ls' := [some (.ref 0), some _, some _, none, none]) ⟨rfl, rfl, rfl, trivial⟩ (K h (fun q hq => by rw [hh q hq, if_pos hq]) h9)
    · -- 34 f
      refine z_aload_n hX dX0_settle_37 rfl ?_
      refine z_get hX dX0_settle_38 f_0_15 rfl rfl ?_
      refine z_iload hX dX0_settle_41 rfl ?_
      first | refine z_dup2_2 hX dX0_settle_43 rfl ?_ | refine z_dup2_11 hX dX0_settle_43 rfl rfl ?_
      refine z_lald hX dX0_settle_44 rfl (by omega) (by decide) ?_
      refine z_lload_n hX dX0_settle_45 rfl ?_
      refine z_stat (nm := "FALL") (xs := zFALL) (k := 1002) hX dX0_settle_46 (fun _ _ _ _ h => ⟨h.2.2.1, h.2.2.2.1⟩) ?_
      refine z_iload_n hX dX0_settle_49 rfl ?_
      refine z_bipush (v := nI 9) hX dX0_settle_50 rfl ?_
      first | with_reducible refine z_imulN hX dX0_settle_52 ?_ | refine z_imul hX dX0_settle_52 ?_
      refine z_iload hX dX0_settle_53 rfl ?_
      first | with_reducible refine z_iaddN hX dX0_settle_55 ?_ | refine z_iadd hX dX0_settle_55 ?_
      refine z_stld (nm := "FALL") (xs := zFALL) hX dX0_settle_56 (fun _ _ _ _ h => h.2.2.1) (by show _ < 81; omega) (by decide) ?_
      have zfl := zFALL_le (k * 9 + j)
      first | with_reducible refine z_i2lN hX dX0_settle_57 (by omega) ?_ | refine z_i2l hX dX0_settle_57 ?_
      refine z_lmul hX dX0_settle_58 ?_
      refine z_lsub hX dX0_settle_59 ?_
      refine z_last (w' := [_, _, _, _]) hX dX0_settle_60 rfl (by omega) (by decide) rfl ?_
      first | refine z_iincN (b := 1) (ls' := [_, _, _, _, _]) hX dX0_settle_61 rfl rfl rfl ?_ | refine z_iinc (ls' := [_, _, _, _, _]) hX dX0_settle_61 rfl rfl ?_
      refine z_goto (tgt := 30) hX dX0_settle_64 (by decide) ?_
      refine ih (j + 1) (vp_updL h j (h j - 448 * (surF wn k).toInt64 * lN (zFALL.getD (k * 9 + j) 0))) (by omega) (by omega) (fun q hq => ?_) (by rw [pk_uLn (by omega)]; exact h9)
      by_cases e : q = j
      · rw [e, pk_uLs, if_pos (by omega), hh j (by omega), if_neg (by omega), stF_s]
        rfl
      · rw [pk_uLn e, hh q hq]
        by_cases e2 : q < j
        · rw [if_pos e2, if_pos (by omega)]
        · rw [if_neg e2, if_neg (by omega)]
set_option maxHeartbeats 4000000 in
set_option maxRecDepth 100000 in
theorem lp_set_10 {X : ZX} {post : Option Value → ZW → Prop} (hX : ZOK X 0 cX0_settle 1) (hR : ZRet X none post) (wn : Nat → Int32) (h nt : Nat → Int64) (hpost : ∀ h1 nt1, (∀ q, q < 9 → h1 q = stF wn q 9) → h1 9 = 0 → (∀ q, nt1 q = if q < 24 then 100352 * (wn q).toInt64 + (h1 (zFROM.getD q 0) - h1 (zTO.getD q 0)) else nt q) → post none (WA wn h1 nt1)) : ∀ (n k : Nat) (h : Nat → Int64), k ≤ 9 → 9 < k + n → (∀ q, q < 9 → h q = stF wn q k) → h 9 = 0 → ZG X 10 [some (.ref 0), some (.int (nI k)), none, none, none] [] (WA wn h nt) := by
  intro n
  induction n with
  | zero => intro k h z1 z2; omega
  | succ n ih =>
    intro k h hk1 hk2 hh h9
    refine z_iload_n hX dX0_settle_10 rfl ?_
    refine z_bipush (v := nI 9) hX dX0_settle_11 rfl ?_
    first | with_reducible refine z_icmp_geN (tgt := 73) hX dX0_settle_13 (by decide) (by omega) (by omega) (fun c_13 => ?_) (fun c_13 => ?_) | refine z_icmp_ge (tgt := 73) hX dX0_settle_13 (by decide) (fun c_13 => ?_) (fun c_13 => ?_)
    · -- 13 t
      refine z_iconst (v := nI 0) hX dX0_settle_73 rfl ?_
      refine z_istore_n (ls' := [_, _, _, _, _]) hX dX0_settle_74 (Nat.le_of_ble_eq_true rfl) rfl ?_
      have zk : k = 9 := by omega
      subst zk
      exact lp_set_75 hX hR wn h nt (fun nt1 e => hpost h nt1 hh h9 e) 25 0 nt (by omega) (by omega) (fun q => by rw [if_neg (by omega)])
    · -- 13 f
      refine z_ldc2 hX dX0_settle_16 k_0_28 ?_
      refine z_aload_n hX dX0_settle_19 rfl ?_
      refine z_iload_n hX dX0_settle_20 rfl ?_
      refine z_callV0 hX dX0_settle_21 mv_0_30 (c_X0_surplus wn h nt k (by omega)) (by decide) rfl rfl rfl rfl (Nat.le_of_ble_eq_true rfl) (fun r w1 hp _ => ?_)
      obtain ⟨rfl, rfl⟩ := hp
      refine z_i2l hX dX0_settle_24 ?_
      refine z_lmul hX dX0_settle_25 ?_
      refine z_lstore_n (ls' := [_, _, _, _, _]) hX dX0_settle_26 (Nat.le_of_ble_eq_true rfl) rfl ?_
      refine z_iconst (v := nI 0) hX dX0_settle_27 rfl ?_
      refine z_istore (ls' := [_, _, _, _, _]) hX dX0_settle_28 (Nat.le_of_ble_eq_true rfl) rfl ?_
      refine lp_set_30 hX hR wn h nt k (by omega) (fun h1 e1 e2 => ?_) 10 0 h (by omega) (by omega) (fun q hq => by rw [if_neg (by omega)]; exact hh q hq) h9
      first | refine z_iincN (b := 1) (ls' := [_, _, _, _, _]) hX dX0_settle_67 rfl rfl rfl ?_ | refine z_iinc (ls' := [_, _, _, _, _]) hX dX0_settle_67 rfl rfl ?_
      refine z_goto (tgt := 10) hX dX0_settle_70 (by decide) ?_
      refine z_forget (ls' := [some (.ref 0), some _, none, none, none]) ⟨rfl, rfl, trivial⟩ (ih (k + 1) h1 (by omega) (by omega) e1 e2)
set_option maxHeartbeats 4000000 in
set_option maxRecDepth 100000 in
theorem c_X0_settle (wn : Nat → Int32) (h nt : Nat → Int64) : ∀ l, ZC l yX0_settle cX0_settle 5 none 1 [.ref 0] (WA wn h nt) (fun r w' => r = none ∧ ∃ h1 nt1, w' = WA wn h1 nt1 ∧ (∀ q, q < 9 → h1 q = stF wn q 9) ∧ h1 9 = 0 ∧ ∀ q, nt1 q = if q < 24 then 100352 * (wn q).toInt64 + (h1 (zFROM.getD q 0) - h1 (zTO.getD q 0)) else nt q) := by
  intro l
  refine zc_intro (oc := 0) (by decide +kernel) rfl (Nat.le_of_ble_eq_true rfl) ?_
  intro X hX hR
  refine z_norm (ls' := [_, _, _, _, _]) rfl rfl rfl ?_
  refine z_aload_n hX dX0_settle_0 rfl ?_
  refine z_get hX dX0_settle_1 f_0_15 rfl rfl ?_
  refine z_lconst (v := 0) hX dX0_settle_4 rfl ?_
  refine z_callS hX dX0_settle_5 ms_0_22 [2] (c_J_fillL 10 (by decide) 0 h) (by decide) rfl rfl (Nat.le_of_ble_eq_true rfl) rfl rfl (Nat.le_of_ble_eq_true rfl) (fun r w1 hp _ => ?_)
  obtain ⟨rfl, h1, rfl, e1⟩ := hp
  refine z_norm (w' := WA wn h1 nt) rfl rfl rfl ?_
  refine z_iconst (v := nI 0) hX dX0_settle_8 rfl ?_
  refine z_istore_n (ls' := [_, _, _, _, _]) hX dX0_settle_9 (Nat.le_of_ble_eq_true rfl) rfl ?_
  exact lp_set_10 hX hR wn h1 nt (fun h2 nt2 q1 q2 q3 => ⟨rfl, h2, nt2, rfl, q1, q2, q3⟩) 10 0 h1 (by omega) (by omega) (fun q hq => by rw [e1 q (by omega)]; rfl) (e1 9 (by omega))
end
section
/-! ===== the class: sheets and stuff ===== -/
def WSh (it : Nat → Int32) (f : Nat → Int32) : ZW := [.inr (3, [.ref 1, .int (f 0), .int (f 1), .int (f 2)]), .inl (0, 24, .inl it)]
set_option maxHeartbeats 4000000 in
set_option maxRecDepth 100000 in
theorem c_X3_isOf (it f : Nat → Int32) (y : Int32) : ∀ l, ZC l yX3_isOf cX3_isOf 2 (some .boolean) 0 [.ref 0, .int y] (WSh it f) (fun r w' => w' = WSh it f ∧ (((¬ f 0 = 0 ∧ f 1 = y) ∧ r = some (.int (nI 1))) ∨ (¬ (¬ f 0 = 0 ∧ f 1 = y) ∧ r = some (.int (nI 0))))) := by
  intro l
  refine zc_intro (oc := 3) (by decide +kernel) rfl (Nat.le_of_ble_eq_true rfl) ?_
  intro X hX hR
  refine z_norm (ls' := [_, _]) rfl rfl rfl ?_
  refine z_aload_n hX dX3_isOf_0 rfl ?_
  refine z_get hX dX3_isOf_1 f_3_15 rfl rfl ?_
  refine z_if_eq (tgt := 19) hX dX3_isOf_4 (by decide) (fun c_4 => ?_) (fun c_4 => ?_)
  · -- 4 t
    refine z_iconst (v := nI 0) hX dX3_isOf_19 rfl ?_
    refine z_zret hX hR dX3_isOf_20 (by first | exact Or.inl rfl | exact Or.inr rfl | assumption) ?_
    exact ⟨rfl, Or.inr ⟨fun q => q.1 c_4, rfl⟩⟩
  · -- 4 f
    refine z_aload_n hX dX3_isOf_7 rfl ?_
    refine z_get hX dX3_isOf_8 f_3_19 rfl rfl ?_
    refine z_iload_n hX dX3_isOf_11 rfl ?_
    first | with_reducible refine z_icmp_neN (tgt := 19) hX dX3_isOf_12 (by decide) (by omega) (by omega) (fun c_12 => ?_) (fun c_12 => ?_) | refine z_icmp_ne (tgt := 19) hX dX3_isOf_12 (by decide) (fun c_12 => ?_) (fun c_12 => ?_)
    · -- 12 t
      refine z_iconst (v := nI 0) hX dX3_isOf_19 rfl ?_
      refine z_zret hX hR dX3_isOf_20 (by first | exact Or.inl rfl | exact Or.inr rfl | assumption) ?_
      exact ⟨rfl, Or.inr ⟨fun q => c_12 q.2, rfl⟩⟩
    · -- 12 f
      refine z_iconst (v := nI 1) hX dX3_isOf_15 rfl ?_
      refine z_goto (tgt := 20) hX dX3_isOf_16 (by decide) ?_
      refine z_zret hX hR dX3_isOf_20 (by first | exact Or.inl rfl | exact Or.inr rfl | assumption) ?_
      exact ⟨rfl, Or.inl ⟨⟨c_4, c_12⟩, rfl⟩⟩
set_option maxHeartbeats 4000000 in
set_option maxRecDepth 100000 in
theorem c_X3_begin (it f : Nat → Int32) (x y : Int32) : ∀ l, ZC l yX3_begin cX3_begin 3 none 1 [.ref 0, .int x, .int y] (WSh it f) (fun r w' => r = none ∧ ∃ it1 f1, w' = WSh it1 f1 ∧ (∀ q, q < 24 → it1 q = 0) ∧ f1 0 = nI 1 ∧ f1 1 = x ∧ f1 2 = y) := by
  intro l
  refine zc_intro (oc := 3) (by decide +kernel) rfl (Nat.le_of_ble_eq_true rfl) ?_
  intro X hX hR
  refine z_norm (ls' := [_, _, _]) rfl rfl rfl ?_
  refine z_aload_n hX dX3_begin_0 rfl ?_
  refine z_get hX dX3_begin_1 f_3_9 rfl rfl ?_
  refine z_iconst (v := nI 0) hX dX3_begin_4 rfl ?_
  refine z_callS hX dX3_begin_5 ms_3_26 [1] (c_J_fillI 24 (by decide) (nI 0) it) (by decide) rfl rfl (Nat.le_of_ble_eq_true rfl) rfl rfl (Nat.le_of_ble_eq_true rfl) (fun r w1 hp _ => ?_)
  obtain ⟨rfl, it1, rfl, e1⟩ := hp
  refine z_norm (w' := WSh it1 f) rfl rfl rfl ?_
  refine z_aload_n hX dX3_begin_8 rfl ?_
  refine z_iconst (v := nI 1) hX dX3_begin_9 rfl ?_
  refine z_putz (fs' := [_, _, _, _]) (w' := [_, _]) hX dX3_begin_10 p_3_15 rfl (by first | exact Or.inl rfl | exact Or.inr rfl | assumption) (Nat.le_of_ble_eq_true rfl) rfl rfl ?_
  refine z_aload_n hX dX3_begin_13 rfl ?_
  refine z_iload_n hX dX3_begin_14 rfl ?_
  refine z_puti (fs' := [_, _, _, _]) (w' := [_, _]) hX dX3_begin_15 p_3_19 rfl (Nat.le_of_ble_eq_true rfl) rfl rfl ?_
  refine z_aload_n hX dX3_begin_18 rfl ?_
  refine z_iload_n hX dX3_begin_19 rfl ?_
  refine z_puti (fs' := [_, _, _, _]) (w' := [_, _]) hX dX3_begin_20 p_3_23 rfl (Nat.le_of_ble_eq_true rfl) rfl rfl ?_
  refine z_vret hX hR dX3_begin_23 ?_
  exact ⟨rfl, it1, va_up (va_up (va_up f 0 (nI 1)) 1 x) 2 y, rfl, e1, rfl, rfl, rfl⟩
set_option maxHeartbeats 4000000 in
set_option maxRecDepth 100000 in
theorem lp_ar_2 {X : ZX} {post : Option Value → ZW → Prop} (hX : ZOK X 3 cX3_areRates 0) (hR : ZRet X (some .boolean) post) (it f : Nat → Int32) (N : Nat) (hN : N ≤ 24) (hf : f 2 = nI N) (hpost1 : (∀ q, q < N → zB (it q) 0 1000000) → post (some (.int (nI 1))) (WSh it f)) (hpost2 : ¬ (∀ q, q < N → zB (it q) 0 1000000) → post (some (.int (nI 0))) (WSh it f)) : ∀ (n k : Nat), k ≤ N → N < k + n → (∀ q, q < k → zB (it q) 0 1000000) → ZG X 2 [some (.ref 0), some (.int (nI k))] [] (WSh it f) := by
  intro n
  induction n with
  | zero => intro k z1 z2; omega
  | succ n ih =>
    intro k hk1 hk2 hi
    refine z_iload_n hX dX3_areRates_2 rfl ?_
    refine z_aload_n hX dX3_areRates_3 rfl ?_
    refine z_get hX dX3_areRates_4 f_3_23 rfl rfl ?_
    refine z_top hf ?_
    first | with_reducible refine z_icmp_geN (tgt := 38) hX dX3_areRates_7 (by decide) (by omega) (by omega) (fun c_7 => ?_) (fun c_7 => ?_) | refine z_icmp_ge (tgt := 38) hX dX3_areRates_7 (by decide) (fun c_7 => ?_) (fun c_7 => ?_)
    · -- 7 t
      have zk : k = N := by omega
      subst zk
      refine z_iconst (v := nI 1) hX dX3_areRates_38 rfl ?_
      refine z_zret hX hR dX3_areRates_39 (by first | exact Or.inl rfl | exact Or.inr rfl | assumption) ?_
      exact hpost1 hi
    · -- 7 f
      refine z_aload_n hX dX3_areRates_10 rfl ?_
      refine z_get hX dX3_areRates_11 f_3_9 rfl rfl ?_
      refine z_iload_n hX dX3_areRates_14 rfl ?_
      first | refine z_iald hX dX3_areRates_15 rfl (by omega) (by decide) ?_ | refine z_stld (nm := "FROM") (xs := zFROM) hX dX3_areRates_15 (fun _ _ _ _ h => h.1) (by show _ < 24; omega) (by decide) ?_ | refine z_stld (nm := "TO") (xs := zTO) hX dX3_areRates_15 (fun _ _ _ _ h => h.2.1) (by show _ < 24; omega) (by decide) ?_ | refine z_stld (nm := "FALL") (xs := zFALL) hX dX3_areRates_15 (fun _ _ _ _ h => h.2.2.1) (by show _ < 81; omega) (by decide) ?_
      refine z_if_lt (tgt := 30) hX dX3_areRates_16 (by decide) (fun c_16 => ?_) (fun c_16 => ?_)
      · -- 16 t
        refine z_iconst (v := nI 0) hX dX3_areRates_30 rfl ?_
        refine z_zret hX hR dX3_areRates_31 (by first | exact Or.inl rfl | exact Or.inr rfl | assumption) ?_
        refine hpost2 (fun q => ?_)
        have h := q k (by omega)
        unfold zB at h
        rw [Int32.lt_iff_toInt_lt] at c_16
        have g0 : (0 : Int32).toInt = 0 := rfl
        omega
      · -- 16 f
        refine z_aload_n hX dX3_areRates_19 rfl ?_
        refine z_get hX dX3_areRates_20 f_3_9 rfl rfl ?_
        refine z_iload_n hX dX3_areRates_23 rfl ?_
        first | refine z_iald hX dX3_areRates_24 rfl (by omega) (by decide) ?_ | refine z_stld (nm := "FROM") (xs := zFROM) hX dX3_areRates_24 (fun _ _ _ _ h => h.1) (by show _ < 24; omega) (by decide) ?_ | refine z_stld (nm := "TO") (xs := zTO) hX dX3_areRates_24 (fun _ _ _ _ h => h.2.1) (by show _ < 24; omega) (by decide) ?_ | refine z_stld (nm := "FALL") (xs := zFALL) hX dX3_areRates_24 (fun _ _ _ _ h => h.2.2.1) (by show _ < 81; omega) (by decide) ?_
        refine z_ldc hX dX3_areRates_25 k_3_32 ?_
        refine z_icmp_le (tgt := 32) hX dX3_areRates_27 (by decide) (fun c_27 => ?_) (fun c_27 => ?_)
        · -- 27 t
          first | refine z_iincN (b := 1) (ls' := [_, _]) hX dX3_areRates_32 rfl rfl rfl ?_ | refine z_iinc (ls' := [_, _]) hX dX3_areRates_32 rfl rfl ?_
          refine z_goto (tgt := 2) hX dX3_areRates_35 (by decide) ?_
          refine ih (k + 1) (by omega) (by omega) (fun q hq => ?_)
          rcases (show q < k ∨ q = k by omega) with e | e
          · exact hi q e
          · rw [e]
            rw [Int32.lt_iff_toInt_lt] at c_16
            rw [Int32.le_iff_toInt_le] at c_27
            have g0 : (0 : Int32).toInt = 0 := rfl
            have g1 : (1000000 : Int32).toInt = 1000000 := rfl
            exact ⟨by omega, by omega⟩
        · -- 27 f
          refine z_iconst (v := nI 0) hX dX3_areRates_30 rfl ?_
          refine z_zret hX hR dX3_areRates_31 (by first | exact Or.inl rfl | exact Or.inr rfl | assumption) ?_
          refine hpost2 (fun q => ?_)
          have h := q k (by omega)
          unfold zB at h
          rw [Int32.le_iff_toInt_le] at c_27
          have g1 : (1000000 : Int32).toInt = 1000000 := rfl
          omega
set_option maxHeartbeats 4000000 in
set_option maxRecDepth 100000 in
theorem c_X3_areRates (it f : Nat → Int32) (N : Nat) (hN : N ≤ 24) (hf : f 2 = nI N) : ∀ l, ZC l yX3_areRates cX3_areRates 2 (some .boolean) 0 [.ref 0] (WSh it f) (fun r w' => w' = WSh it f ∧ (((∀ q, q < N → zB (it q) 0 1000000) ∧ r = some (.int (nI 1))) ∨ (¬ (∀ q, q < N → zB (it q) 0 1000000) ∧ r = some (.int (nI 0))))) := by
  intro l
  refine zc_intro (oc := 3) (by decide +kernel) rfl (Nat.le_of_ble_eq_true rfl) ?_
  intro X hX hR
  refine z_norm (ls' := [_, _]) rfl rfl rfl ?_
  refine z_iconst (v := nI 0) hX dX3_areRates_0 rfl ?_
  refine z_istore_n (ls' := [_, _]) hX dX3_areRates_1 (Nat.le_of_ble_eq_true rfl) rfl ?_
  exact lp_ar_2 hX hR it f N hN hf (fun e => ⟨rfl, Or.inl ⟨e, rfl⟩⟩) (fun e => ⟨rfl, Or.inr ⟨e, rfl⟩⟩) (N + 1) 0 (by omega) (by omega) (fun q hq => by omega)
/-- a source's world; e: one cell more -/
def WSt (rt : Nat → Int32) (pl bf : Nat → Int64) (hm : Int32) (g : Nat → Int64) (e : ZW) : ZW := .inr (4, [.ref 1, .ref 2, .ref 3, .int hm, .long (g 0), .long (g 1), .long (g 2)]) :: .inl (0, 24, .inl rt) :: .inl (1, 10, .inr pl) :: .inl (1, 10, .inr bf) :: e
set_option maxHeartbeats 4000000 in
set_option maxRecDepth 100000 in
theorem lp_sd_10 {X : ZX} {post : Option Value → ZW → Prop} (hX : ZOK X 4 cX4_stand 0) (hR : ZRet X (some .int) post) (rt0 : Nat → Int32) (pl bf : Nat → Int64) (hm : Int32) (g : Nat → Int64) (it : Nat → Int32) (y : Int32) (hpost : ∀ rt, (∀ q, rt q = if q < 24 then it q else rt0 q) → post (some (.int (srcF it 0 24))) (WSt rt pl bf hm g [.inl (0, 24, .inl it)])) : ∀ (n k : Nat) (rt : Nat → Int32), k ≤ 24 → 24 < k + n → (∀ q, rt q = if q < k then it q else rt0 q) → ZG X 10 [some (.ref 0), some (.int y), some (.ref 4), some (.int (srcF it 0 k)), some (.int (nI k))] [] (WSt rt pl bf hm g [.inl (0, 24, .inl it)]) := by
  intro n
  induction n with
  | zero => intro k rt z1 z2; omega
  | succ n ih =>
    intro k rt hk1 hk2 hr
    refine z_iload hX dX4_stand_10 rfl ?_
    refine z_bipush (v := nI 24) hX dX4_stand_12 rfl ?_
    first | with_reducible refine z_icmp_geN (tgt := 44) hX dX4_stand_14 (by decide) (by omega) (by omega) (fun c_14 => ?_) (fun c_14 => ?_) | refine z_icmp_ge (tgt := 44) hX dX4_stand_14 (by decide) (fun c_14 => ?_) (fun c_14 => ?_)
    · -- 14 t
      have zk : k = 24 := by omega
      subst zk
      refine z_iload_n hX dX4_stand_44 rfl ?_
      refine z_iret hX hR dX4_stand_45 ?_
      exact hpost rt hr
    · -- 14 f
      refine z_aload_n hX dX4_stand_17 rfl ?_
      refine z_get hX dX4_stand_18 f_4_9 rfl rfl ?_
      refine z_iload hX dX4_stand_21 rfl ?_
      refine z_aload_n hX dX4_stand_23 rfl ?_
      refine z_iload hX dX4_stand_24 rfl ?_
      first | refine z_iald hX dX4_stand_26 rfl (by omega) (by decide) ?_ | refine z_stld (nm := "FROM") (xs := zFROM) hX dX4_stand_26 (fun _ _ _ _ h => h.1) (by show _ < 24; omega) (by decide) ?_ | refine z_stld (nm := "TO") (xs := zTO) hX dX4_stand_26 (fun _ _ _ _ h => h.2.1) (by show _ < 24; omega) (by decide) ?_ | refine z_stld (nm := "FALL") (xs := zFALL) hX dX4_stand_26 (fun _ _ _ _ h => h.2.2.1) (by show _ < 81; omega) (by decide) ?_
      refine z_iast (w' := [_, _, _, _, _]) hX dX4_stand_27 rfl (by omega) (by decide) rfl ?_
      refine z_iload_n hX dX4_stand_28 rfl ?_
      refine z_aload_n hX dX4_stand_29 rfl ?_
      refine z_get hX dX4_stand_30 f_4_9 rfl rfl ?_
      refine z_iload hX dX4_stand_33 rfl ?_
      refine z_iald hX dX4_stand_35 rfl (by omega) (by decide) ?_
      refine z_top (y := it (24 * 0 + k)) (by rw [pk_us, Nat.mul_zero, Nat.zero_add]) ?_
      first | with_reducible refine z_iaddN hX dX4_stand_36 ?_ | refine z_iadd hX dX4_stand_36 ?_
      refine z_istore_n (ls' := [_, _, _, _, _]) hX dX4_stand_37 (Nat.le_of_ble_eq_true rfl) rfl ?_
      first | refine z_iincN (b := 1) (ls' := [_, _, _, _, _]) hX dX4_stand_38 rfl rfl rfl ?_ | refine z_iinc (ls' := [_, _, _, _, _]) hX dX4_stand_38 rfl rfl ?_
      refine z_goto (tgt := 10) hX dX4_stand_41 (by decide) ?_
      refine ih (k + 1) (upd rt k (it k)) (by omega) (by omega) (fun q => ?_)
      by_cases e : q = k
      · rw [e, pk_us, if_pos (by omega)]
      · rw [pk_un e, hr q]
        by_cases e2 : q < k
        · rw [if_pos e2, if_pos (by omega)]
        · rw [if_neg e2, if_neg (by omega)]
set_option maxHeartbeats 4000000 in
set_option maxRecDepth 100000 in
theorem c_X4_stand (rt : Nat → Int32) (pl bf : Nat → Int64) (hm : Int32) (g : Nat → Int64) (it : Nat → Int32) (y : Int32) : ∀ l, ZC l yX4_stand cX4_stand 5 (some .int) 0 [.ref 0, .int y, .ref 4] (WSt rt pl bf hm g [.inl (0, 24, .inl it)]) (fun r w' => r = some (.int (srcF it 0 24)) ∧ ∃ rt1, w' = WSt rt1 pl bf y g [.inl (0, 24, .inl it)] ∧ ∀ q, rt1 q = if q < 24 then it q else rt q) := by
  intro l
  refine zc_intro (oc := 4) (by decide +kernel) rfl (Nat.le_of_ble_eq_true rfl) ?_
  intro X hX hR
  refine z_norm (ls' := [_, _, _, _, _]) rfl rfl rfl ?_
  refine z_aload_n hX dX4_stand_0 rfl ?_
  refine z_iload_n hX dX4_stand_1 rfl ?_
  refine z_puti (fs' := [_, _, _, _, _, _, _]) (w' := [_, _, _, _, _]) hX dX4_stand_2 p_4_22 rfl (Nat.le_of_ble_eq_true rfl) rfl rfl ?_
  refine z_iconst (v := nI 0) hX dX4_stand_5 rfl ?_
  refine z_istore_n (ls' := [_, _, _, _, _]) hX dX4_stand_6 (Nat.le_of_ble_eq_true rfl) rfl ?_
  refine z_iconst (v := nI 0) hX dX4_stand_7 rfl ?_
  refine z_istore (ls' := [_, _, _, _, _]) hX dX4_stand_8 (Nat.le_of_ble_eq_true rfl) rfl ?_
  exact lp_sd_10 hX hR rt pl bf y g it y (fun rt1 e => ⟨rfl, rt1, rfl, e⟩) 25 0 rt (by omega) (by omega) (fun q => by rw [if_neg (by omega)])
set_option maxHeartbeats 4000000 in
set_option maxRecDepth 100000 in
theorem c_X4_giveOff (rt : Nat → Int32) (pl bf : Nat → Int64) (hm : Int32) (g : Nat → Int64) (k hmn : Nat) (hk : k < 24) (hh : hmn < 9) (hm1 : hm = nI hmn) : ∀ l, ZC l yX4_giveOff cX4_giveOff 2 none 0 [.ref 0, .int (nI k)] (WSt rt pl bf hm g []) (fun r w' => r = none ∧ w' = WSt rt (vp_updL pl hmn (pl hmn + (rt k).toInt64)) bf hm (va_up g 0 (g 0 + (rt k).toInt64)) []) := by
  intro l
  refine zc_intro (oc := 4) (by decide +kernel) rfl (Nat.le_of_ble_eq_true rfl) ?_
  intro X hX hR
  refine z_norm (ls' := [_, _]) rfl rfl rfl ?_
  refine z_aload_n hX dX4_giveOff_0 rfl ?_
  refine z_get hX dX4_giveOff_1 f_4_15 rfl rfl ?_
  refine z_aload_n hX dX4_giveOff_4 rfl ?_
  refine z_get hX dX4_giveOff_5 f_4_22 rfl rfl ?_
  refine z_top hm1 ?_
  first | refine z_dup2_2 hX dX4_giveOff_8 rfl ?_ | refine z_dup2_11 hX dX4_giveOff_8 rfl rfl ?_
  refine z_lald hX dX4_giveOff_9 rfl (by omega) (by decide) ?_
  refine z_aload_n hX dX4_giveOff_10 rfl ?_
  refine z_get hX dX4_giveOff_11 f_4_9 rfl rfl ?_
  refine z_iload_n hX dX4_giveOff_14 rfl ?_
  first | refine z_iald hX dX4_giveOff_15 rfl (by omega) (by decide) ?_ | refine z_stld (nm := "FROM") (xs := zFROM) hX dX4_giveOff_15 (fun _ _ _ _ h => h.1) (by show _ < 24; omega) (by decide) ?_ | refine z_stld (nm := "TO") (xs := zTO) hX dX4_giveOff_15 (fun _ _ _ _ h => h.2.1) (by show _ < 24; omega) (by decide) ?_ | refine z_stld (nm := "FALL") (xs := zFALL) hX dX4_giveOff_15 (fun _ _ _ _ h => h.2.2.1) (by show _ < 81; omega) (by decide) ?_
  refine z_i2l hX dX4_giveOff_16 ?_
  refine z_ladd hX dX4_giveOff_17 ?_
  refine z_last (w' := [_, _, _, _]) hX dX4_giveOff_18 rfl (by omega) (by decide) rfl ?_
  refine z_aload_n hX dX4_giveOff_19 rfl ?_
  refine z_dup hX dX4_giveOff_20 rfl ?_
  refine z_get hX dX4_giveOff_21 f_4_26 rfl rfl ?_
  refine z_aload_n hX dX4_giveOff_24 rfl ?_
  refine z_get hX dX4_giveOff_25 f_4_9 rfl rfl ?_
  refine z_iload_n hX dX4_giveOff_28 rfl ?_
  first | refine z_iald hX dX4_giveOff_29 rfl (by omega) (by decide) ?_ | refine z_stld (nm := "FROM") (xs := zFROM) hX dX4_giveOff_29 (fun _ _ _ _ h => h.1) (by show _ < 24; omega) (by decide) ?_ | refine z_stld (nm := "TO") (xs := zTO) hX dX4_giveOff_29 (fun _ _ _ _ h => h.2.1) (by show _ < 24; omega) (by decide) ?_ | refine z_stld (nm := "FALL") (xs := zFALL) hX dX4_giveOff_29 (fun _ _ _ _ h => h.2.2.1) (by show _ < 81; omega) (by decide) ?_
  refine z_i2l hX dX4_giveOff_30 ?_
  refine z_ladd hX dX4_giveOff_31 ?_
  refine z_putl (fs' := [_, _, _, _, _, _, _]) (w' := [_, _, _, _]) hX dX4_giveOff_32 p_4_26 rfl (Nat.le_of_ble_eq_true rfl) rfl rfl ?_
  refine z_vret hX hR dX4_giveOff_35 ?_
  exact ⟨rfl, rfl⟩
set_option maxHeartbeats 4000000 in
set_option maxRecDepth 100000 in
theorem lp_ib_4 {X : ZX} {post : Option Value → ZW → Prop} (hX : ZOK X 4 cX4_inBoxes 0) (hR : ZRet X (some .long) post) (rt : Nat → Int32) (pl bf : Nat → Int64) (hm : Int32) (g : Nat → Int64) (hpost : post (some (.long (sum9 pl 9))) (WSt rt pl bf hm g [])) : ∀ (n k : Nat), k ≤ 9 → 9 < k + n → ZG X 4 [some (.ref 0), some (.long (sum9 pl k)), none, some (.int (nI k))] [] (WSt rt pl bf hm g []) := by
  intro n
  induction n with
  | zero => intro k z1 z2; omega
  | succ n ih =>
    intro k hk1 hk2
    refine z_iload_n hX dX4_inBoxes_4 rfl ?_
    refine z_bipush (v := nI 9) hX dX4_inBoxes_5 rfl ?_
    first | with_reducible refine z_icmp_geN (tgt := 25) hX dX4_inBoxes_7 (by decide) (by omega) (by omega) (fun c_7 => ?_) (fun c_7 => ?_) | refine z_icmp_ge (tgt := 25) hX dX4_inBoxes_7 (by decide) (fun c_7 => ?_) (fun c_7 => ?_)
    · -- 7 t
      have zk : k = 9 := by omega
      subst zk
      refine z_lload_n hX dX4_inBoxes_25 rfl ?_
      refine z_lret hX hR dX4_inBoxes_26 ?_
      exact hpost
    · -- 7 f
      refine z_lload_n hX dX4_inBoxes_10 rfl ?_
      refine z_aload_n hX dX4_inBoxes_11 rfl ?_
      refine z_get hX dX4_inBoxes_12 f_4_15 rfl rfl ?_
      refine z_iload_n hX dX4_inBoxes_15 rfl ?_
      refine z_lald hX dX4_inBoxes_16 rfl (by omega) (by decide) ?_
      refine z_ladd hX dX4_inBoxes_17 ?_
      refine z_lstore_n (ls' := [_, _, _, _]) hX dX4_inBoxes_18 (Nat.le_of_ble_eq_true rfl) rfl ?_
      first | refine z_iincN (b := 1) (ls' := [_, _, _, _]) hX dX4_inBoxes_19 rfl rfl rfl ?_ | refine z_iinc (ls' := [_, _, _, _]) hX dX4_inBoxes_19 rfl rfl ?_
      refine z_goto (tgt := 4) hX dX4_inBoxes_22 (by decide) ?_
      exact ih (k + 1) (by omega) (by omega)
set_option maxHeartbeats 4000000 in
set_option maxRecDepth 100000 in
theorem c_X4_inBoxes (rt : Nat → Int32) (pl bf : Nat → Int64) (hm : Int32) (g : Nat → Int64) : ∀ l, ZC l yX4_inBoxes cX4_inBoxes 4 (some .long) 0 [.ref 0] (WSt rt pl bf hm g []) (fun r w' => r = some (.long (sum9 pl 9)) ∧ w' = WSt rt pl bf hm g []) := by
  intro l
  refine zc_intro (oc := 4) (by decide +kernel) rfl (Nat.le_of_ble_eq_true rfl) ?_
  intro X hX hR
  refine z_norm (ls' := [_, _, _, _]) rfl rfl rfl ?_
  refine z_lconst (v := 0) hX dX4_inBoxes_0 rfl ?_
  refine z_lstore_n (ls' := [_, _, _, _]) hX dX4_inBoxes_1 (Nat.le_of_ble_eq_true rfl) rfl ?_
  refine z_iconst (v := nI 0) hX dX4_inBoxes_2 rfl ?_
  refine z_istore_n (ls' := [_, _, _, _]) hX dX4_inBoxes_3 (Nat.le_of_ble_eq_true rfl) rfl ?_
  exact lp_ib_4 hX hR rt pl bf hm g ⟨rfl, rfl⟩ 10 0 (by omega) (by omega)
set_option maxHeartbeats 4000000 in
set_option maxRecDepth 100000 in
theorem lp_fo_2 {X : ZX} {post : Option Value → ZW → Prop} (hX : ZOK X 4 cX4_fallOut 0) (hR : ZRet X none post) (rt : Nat → Int32) (pl0 bf : Nat → Int64) (hm : Int32) (g0 : Nat → Int64) (y : Int32) (hpost : ∀ pl g, (∀ q, pl q = if q < 9 then pl0 q - (washF (pl0 q) y + laidF (pl0 q) y) else pl0 q) → g 0 = g0 0 → g 1 = accA (fun x => washF (pl0 x) y) 9 (g0 1) → g 2 = accA (fun x => laidF (pl0 x) y) 9 (g0 2) → post none (WSt rt pl bf hm g [])) : ∀ (n k : Nat) (pl g : Nat → Int64), k ≤ 9 → 9 < k + n → (∀ q, pl q = if q < k then pl0 q - (washF (pl0 q) y + laidF (pl0 q) y) else pl0 q) → g 0 = g0 0 → g 1 = accA (fun x => washF (pl0 x) y) k (g0 1) → g 2 = accA (fun x => laidF (pl0 x) y) k (g0 2) → ZG X 2 [some (.ref 0), some (.int y), some (.int (nI k)), none, none, none, none] [] (WSt rt pl bf hm g []) := by
  intro n
  induction n with
  | zero => intro k pl g z1 z2; omega
  | succ n ih =>
    intro k pl g hk1 hk2 hp e0 e1 e2
    refine z_iload_n hX dX4_fallOut_2 rfl ?_
    refine z_bipush (v := nI 9) hX dX4_fallOut_3 rfl ?_
    first | with_reducible refine z_icmp_geN (tgt := 76) hX dX4_fallOut_5 (by decide) (by omega) (by omega) (fun c_5 => ?_) (fun c_5 => ?_) | refine z_icmp_ge (tgt := 76) hX dX4_fallOut_5 (by decide) (fun c_5 => ?_) (fun c_5 => ?_)
    · -- 5 t
      have zk : k = 9 := by omega
      subst zk
      refine z_vret hX hR dX4_fallOut_76 ?_
      exact hpost pl g hp e0 e1 e2
    · -- 5 f
      have hpk : pl k = pl0 k := by rw [hp k, if_neg (by omega)]
      refine z_aload_n hX dX4_fallOut_8 rfl ?_
      refine z_get hX dX4_fallOut_9 f_4_15 rfl rfl ?_
      refine z_iload_n hX dX4_fallOut_12 rfl ?_
      refine z_lald hX dX4_fallOut_13 rfl (by omega) (by decide) ?_
      refine z_topl hpk ?_
      refine z_iload_n hX dX4_fallOut_14 rfl ?_
      refine z_i2l hX dX4_fallOut_15 ?_
      refine z_lmul hX dX4_fallOut_16 ?_
      refine z_ldc2 hX dX4_fallOut_17 k_4_36 ?_
      refine z_ldiv hX dX4_fallOut_20 (by decide) ?_
      refine z_lstore_n (ls' := [_, _, _, _, _, _, _]) hX dX4_fallOut_21 (Nat.le_of_ble_eq_true rfl) rfl ?_
      refine z_aload_n hX dX4_fallOut_22 rfl ?_
      refine z_get hX dX4_fallOut_23 f_4_15 rfl rfl ?_
      refine z_iload_n hX dX4_fallOut_26 rfl ?_
      refine z_lald hX dX4_fallOut_27 rfl (by omega) (by decide) ?_
      refine z_topl hpk ?_
      refine z_lload_n hX dX4_fallOut_28 rfl ?_
      refine z_lsub hX dX4_fallOut_29 ?_
      refine z_ldc2 hX dX4_fallOut_30 k_4_36 ?_
      refine z_ldiv hX dX4_fallOut_33 (by decide) ?_
      refine z_lstore (ls' := [_, _, _, _, _, _, _]) hX dX4_fallOut_34 (Nat.le_of_ble_eq_true rfl) rfl ?_
      refine z_aload_n hX dX4_fallOut_36 rfl ?_
      refine z_get hX dX4_fallOut_37 f_4_15 rfl rfl ?_
      refine z_iload_n hX dX4_fallOut_40 rfl ?_
      first | refine z_dup2_2 hX dX4_fallOut_41 rfl ?_ | refine z_dup2_11 hX dX4_fallOut_41 rfl rfl ?_
      refine z_lald hX dX4_fallOut_42 rfl (by omega) (by decide) ?_
      refine z_topl hpk ?_
      refine z_lload_n hX dX4_fallOut_43 rfl ?_
      refine z_lload hX dX4_fallOut_44 rfl ?_
      refine z_ladd hX dX4_fallOut_46 ?_
      refine z_lsub hX dX4_fallOut_47 ?_
      refine z_last (w' := [_, _, _, _]) hX dX4_fallOut_48 rfl (by omega) (by decide) rfl ?_
      refine z_aload_n hX dX4_fallOut_49 rfl ?_
      refine z_dup hX dX4_fallOut_50 rfl ?_
      refine z_get hX dX4_fallOut_51 f_4_30 rfl rfl ?_
      refine z_lload_n hX dX4_fallOut_54 rfl ?_
      refine z_ladd hX dX4_fallOut_55 ?_
      refine z_putl (fs' := [_, _, _, _, _, _, _]) (w' := [_, _, _, _]) hX dX4_fallOut_56 p_4_30 rfl (Nat.le_of_ble_eq_true rfl) rfl rfl ?_
      refine z_aload_n hX dX4_fallOut_59 rfl ?_
      refine z_dup hX dX4_fallOut_60 rfl ?_
      refine z_get hX dX4_fallOut_61 f_4_33 rfl rfl ?_
      refine z_lload hX dX4_fallOut_64 rfl ?_
      refine z_ladd hX dX4_fallOut_66 ?_
      refine z_putl (fs' := [_, _, _, _, _, _, _]) (w' := [_, _, _, _]) hX dX4_fallOut_67 p_4_33 rfl (Nat.le_of_ble_eq_true rfl) rfl rfl ?_
      first | refine z_iincN (b := 1) (ls' := [_, _, _, _, _, _, _]) hX dX4_fallOut_70 rfl rfl rfl ?_ | refine z_iinc (ls' := [_, _, _, _, _, _, _]) hX dX4_fallOut_70 rfl rfl ?_
      refine z_goto (tgt := 2) hX dX4_fallOut_73 (by decide) ?_
      refine z_forget (ls' := [some (.ref 0), some _, some _, none, none, none, none]) ⟨rfl, rfl, rfl, trivial⟩ ?_
      refine ih (k + 1) (vp_updL pl k (pl0 k - (washF (pl0 k) y + laidF (pl0 k) y))) (va_up (va_up g 1 (g 1 + washF (pl0 k) y)) 2 (g 2 + laidF (pl0 k) y)) (by omega) (by omega) (fun q => ?_) e0 ?_ ?_
      · by_cases e : q = k
        · rw [e, pk_uLs, if_pos (by omega)]
        · rw [pk_uLn e, hp q]
          by_cases e3 : q < k
          · rw [if_pos e3, if_pos (by omega)]
          · rw [if_neg e3, if_neg (by omega)]
      · show g 1 + washF (pl0 k) y = _
        rw [accA_s, e1]
      · show g 2 + laidF (pl0 k) y = _
        rw [accA_s, e2]
set_option maxHeartbeats 4000000 in
set_option maxRecDepth 100000 in
theorem c_X4_fallOut (rt : Nat → Int32) (pl bf : Nat → Int64) (hm : Int32) (g : Nat → Int64) (y : Int32) : ∀ l, ZC l yX4_fallOut cX4_fallOut 7 none 0 [.ref 0, .int y] (WSt rt pl bf hm g []) (fun r w' => r = none ∧ ∃ pl1 g1, w' = WSt rt pl1 bf hm g1 [] ∧ (∀ q, pl1 q = if q < 9 then pl q - (washF (pl q) y + laidF (pl q) y) else pl q) ∧ g1 0 = g 0 ∧ g1 1 = accA (fun x => washF (pl x) y) 9 (g 1) ∧ g1 2 = accA (fun x => laidF (pl x) y) 9 (g 2)) := by
  intro l
  refine zc_intro (oc := 4) (by decide +kernel) rfl (Nat.le_of_ble_eq_true rfl) ?_
  intro X hX hR
  refine z_norm (ls' := [_, _, _, _, _, _, _]) rfl rfl rfl ?_
  refine z_iconst (v := nI 0) hX dX4_fallOut_0 rfl ?_
  refine z_istore_n (ls' := [_, _, _, _, _, _, _]) hX dX4_fallOut_1 (Nat.le_of_ble_eq_true rfl) rfl ?_
  exact lp_fo_2 hX hR rt pl bf hm g y (fun pl1 g1 q1 q2 q3 q4 => ⟨rfl, pl1, g1, rfl, q1, q2, q3, q4⟩) 10 0 pl g (by omega) (by omega) (fun q => by rw [if_neg (by omega)]) rfl rfl rfl
end
section
/-! ===== the class: blow, logs ===== -/
theorem z_copy9 {X : ZX} {oc d pc idx q0 q1 : Nat} {B : ByteArray} {ls : List (Option Value)} {w w2 : ZW} {f g : Nat → Int64} (hX : ZOK X oc B d) (hd : decode B pc = .ok (.invokestatic idx, 3)) (hl : Cond.methodLink (zcn oc) idx arraycopyName ∈ zwd) (hn : Cond.native arraycopyName ∈ zwd) (hs : Cond.static arraycopyName ∈ zwd) (hi : Cond.initialized "java/lang/System" ∈ zwd) (hd1 : 1 ≤ d) (h0 : w[q0]? = some (.inl (1, 10, .inr f))) (h1 : w[q1]? = some (.inl (1, 10, .inr g))) (hw2 : w.set q1 (.inl (1, 10, .inr (va_cpy f g 0 0 9))) = w2) (kk : ZG X (pc + 3) ls [] w2) : ZG X pc ls [.int (nI 9), .int (nI 0), .ref q1, .int (nI 0), .ref q0] w := by
  subst hw2
  obtain ⟨p, l, e, R, s, m, args, below, meth, c, D, cy, ad, A, n, cells, slots, Q⟩ := X
  intro H locs lsA g1 g2 g3 g4
  obtain ⟨hx, hb, hown, hts, hK, hI, hA, hS, ⟨hfr, hlo⟩, hcs, hA2⟩ := hX
  refine va_copyl hx hb g4.2.1.symm hown (hts _ hl) (hts _ hn) (hts _ hs) (hts _ hi) hK g2 (hI.D hA g1) g3 q0 q1 1 1 (zcw_get h0) (zcw_get h1) (ty := .long) rfl rfl rfl (sp := nI 0) (dp := nI 0) (n := nI 9) (by decide) (by decide) (by decide) (by decide) (by decide) (fun i _ => rfl) (by omega) (by show 0 + (7 + 11) ≤ _; omega) hd (fun H1 locs1 k1 k2 k3 => ?_)
  refine kk H1 locs1 lsA (by rw [List.length_set]; exact g1) ?_ k3 g4
  rw [← zcw_set]
  exact k1
def absL (x : Int64) : Int64 := if 0 ≤ x then x else -x
def frC (nt : Nat → Int64) (w : Nat) : Nat := if 0 < nt w then zFROM.getD w 0 else zTO.getD w 0
def toC (nt : Nat → Int64) (w : Nat) : Nat := if 0 < nt w then zTO.getD w 0 else zFROM.getD w 0
def dW (n nt : Nat → Int64) (w q : Nat) : Int64 := if frC nt w = 9 then 0 else if q = frC nt w then -(goF (n (frC nt w)) (absL (nt w))) else if q = toC nt w then goF (n (frC nt w)) (absL (nt w)) else 0
def accC (n nt : Nat → Int64) (q k : Nat) (x : Int64) : Int64 := zfold (fun w s => s + dW n nt w q) k x
theorem accC_s (n nt : Nat → Int64) (q k : Nat) (x : Int64) : accC n nt q (k + 1) x = accC n nt q k x + dW n nt k q := rfl
theorem ftC_ne {nt : Nat → Int64} {w : Nat} (hw : w < 24) : frC nt w ≠ toC nt w := by
  unfold frC toC
  have := zFT w hw
  split
  · exact this
  · exact fun e => this e.symm
set_option maxHeartbeats 4000000 in
set_option maxRecDepth 100000 in
theorem lp_bl_17 {X : ZX} {post : Option Value → ZW → Prop} (hX : ZOK X 4 cX4_blow 1) (hR : ZRet X none post) (rt : Nat → Int32) (pl0 n0 bf : Nat → Int64) (hm : Int32) (g nt : Nat → Int64) (hbf : ∀ q, q < 9 → bf q = n0 q) (hpost : ∀ pl, (∀ q, q < 10 → pl q = accC n0 nt q 24 (pl0 q)) → post none (WSt rt pl bf hm g [.inl (1, 24, .inr nt)])) : ∀ (n k : Nat) (pl : Nat → Int64), k ≤ 24 → 24 < k + n → (∀ q, q < 10 → pl q = accC n0 nt q k (pl0 q)) → ZG X 17 [some (.ref 0), some (.ref 4), some (.int (nI k)), none, none, none, none, none] [] (WSt rt pl bf hm g [.inl (1, 24, .inr nt)]) := by
  intro n
  induction n with
  | zero => intro k pl z1 z2; omega
  | succ n ih =>
    intro k pl hk1 hk2 hp
    refine z_iload_n hX dX4_blow_17 rfl ?_
    refine z_bipush (v := nI 24) hX dX4_blow_18 rfl ?_
    first | with_reducible refine z_icmp_geN (tgt := 132) hX dX4_blow_20 (by decide) (by omega) (by omega) (fun c_20 => ?_) (fun c_20 => ?_) | refine z_icmp_ge (tgt := 132) hX dX4_blow_20 (by decide) (fun c_20 => ?_) (fun c_20 => ?_)
    · -- 20 t
      have zk : k = 24 := by omega
      subst zk
      refine z_vret hX hR dX4_blow_132 ?_
      exact hpost pl hp
    · -- 20 f
      have hF := zFROM_le k
      have hT := zTO_le k
      have hFT := zFT k (by omega)
      refine z_aload_n hX dX4_blow_23 rfl ?_
      refine z_iload_n hX dX4_blow_24 rfl ?_
      refine z_lald hX dX4_blow_25 rfl (by omega) (by decide) ?_
      refine z_lconst (v := 0) hX dX4_blow_26 rfl ?_
      refine z_lcmp hX dX4_blow_27 ?_
      refine z_lif_le (tgt := 35) hX dX4_blow_28 (by decide) (fun c_28 => ?_) (fun c_28 => ?_)
      · -- 28 t
        refine z_iconst (v := nI 0) hX dX4_blow_35 rfl ?_
        refine z_istore_n (ls' := [_, _, _, _, _, _, _, _]) hX dX4_blow_36 (Nat.le_of_ble_eq_true rfl) rfl ?_
        refine z_iload_n hX dX4_blow_37 rfl ?_
        refine z_if_eq (tgt := 49) hX dX4_blow_38 (by decide) (fun _ => ?_) (fun c => absurd c (by decide))
        refine z_stat (nm := "TO") (xs := zTO) (k := 1001) hX dX4_blow_49 (fun _ _ _ _ h => ⟨h.2.1, h.2.2.2.2.2.2.2⟩) ?_
        refine z_iload_n hX dX4_blow_52 rfl ?_
        first | refine z_iald hX dX4_blow_53 rfl (by omega) (by decide) ?_ | refine z_stld (nm := "FROM") (xs := zFROM) hX dX4_blow_53 (fun _ _ _ _ h => h.1) (by show _ < 24; omega) (by decide) ?_ | refine z_stld (nm := "TO") (xs := zTO) hX dX4_blow_53 (fun _ _ _ _ h => h.2.1) (by show _ < 24; omega) (by decide) ?_ | refine z_stld (nm := "FALL") (xs := zFALL) hX dX4_blow_53 (fun _ _ _ _ h => h.2.2.1) (by show _ < 81; omega) (by decide) ?_
        refine z_istore (ls' := [_, _, _, _, _, _, _, _]) hX dX4_blow_54 (Nat.le_of_ble_eq_true rfl) rfl ?_
        refine z_iload_n hX dX4_blow_56 rfl ?_
        refine z_if_eq (tgt := 68) hX dX4_blow_57 (by decide) (fun _ => ?_) (fun c => absurd c (by decide))
        refine z_stat (nm := "FROM") (xs := zFROM) (k := 1000) hX dX4_blow_68 (fun _ _ _ _ h => ⟨h.1, h.2.2.2.2.2.2.1⟩) ?_
        refine z_iload_n hX dX4_blow_71 rfl ?_
        first | refine z_iald hX dX4_blow_72 rfl (by omega) (by decide) ?_ | refine z_stld (nm := "FROM") (xs := zFROM) hX dX4_blow_72 (fun _ _ _ _ h => h.1) (by show _ < 24; omega) (by decide) ?_ | refine z_stld (nm := "TO") (xs := zTO) hX dX4_blow_72 (fun _ _ _ _ h => h.2.1) (by show _ < 24; omega) (by decide) ?_ | refine z_stld (nm := "FALL") (xs := zFALL) hX dX4_blow_72 (fun _ _ _ _ h => h.2.2.1) (by show _ < 81; omega) (by decide) ?_
        refine z_istore (ls' := [_, _, _, _, _, _, _, _]) hX dX4_blow_73 (Nat.le_of_ble_eq_true rfl) rfl ?_
        refine z_iload hX dX4_blow_75 rfl ?_
        refine z_bipush (v := nI 9) hX dX4_blow_77 rfl ?_
        first | with_reducible refine z_icmp_eqN (tgt := 126) hX dX4_blow_79 (by decide) (by omega) (by omega) (fun c_79 => ?_) (fun c_79 => ?_) | refine z_icmp_eq (tgt := 126) hX dX4_blow_79 (by decide) (fun c_79 => ?_) (fun c_79 => ?_)
        · -- 79 t
          first | refine z_iincN (b := 1) (ls' := [_, _, _, _, _, _, _, _]) hX dX4_blow_126 rfl rfl rfl ?_ | refine z_iinc (ls' := [_, _, _, _, _, _, _, _]) hX dX4_blow_126 rfl rfl ?_
          refine z_goto (tgt := 17) hX dX4_blow_129 (by decide) ?_
          refine z_forget (ls' := [some (.ref 0), some _, some _, none, none, none, none, none]) ⟨rfl, rfl, rfl, trivial⟩ ?_
          have hfr : frC nt k = zTO.getD k 0 := if_neg (Int64.not_lt.mpr c_28)
          have hto : toC nt k = zFROM.getD k 0 := if_neg (Int64.not_lt.mpr c_28)
          refine ih (k + 1) pl (by omega) (by omega) (fun q hq => ?_)
          rw [accC_s, hp q hq]
          unfold dW
          rw [hfr, if_pos c_79, Int64.add_zero]
        · -- 79 f
          refine z_aload_n hX dX4_blow_82 rfl ?_
          refine z_get hX dX4_blow_83 f_4_19 rfl rfl ?_
          refine z_iload hX dX4_blow_86 rfl ?_
          refine z_lald hX dX4_blow_88 rfl (by omega) (by decide) ?_
          refine z_aload_n hX dX4_blow_89 rfl ?_
          refine z_iload_n hX dX4_blow_90 rfl ?_
          refine z_lald hX dX4_blow_91 rfl (by omega) (by decide) ?_
          refine z_callS0 hX dX4_blow_92 ms_4_50 (c_J_abs _ _) (by decide) rfl rfl (Nat.le_of_ble_eq_true rfl) (fun r w1 hp _ => ?_)
          obtain ⟨rfl, rfl⟩ := hp
          refine z_lmul hX dX4_blow_95 ?_
          refine z_ldc2 hX dX4_blow_96 k_4_56 ?_
          refine z_ldiv hX dX4_blow_99 (by decide) ?_
          refine z_lstore (ls' := [_, _, _, _, _, _, _, _]) hX dX4_blow_100 (Nat.le_of_ble_eq_true rfl) rfl ?_
          refine z_aload_n hX dX4_blow_102 rfl ?_
          refine z_get hX dX4_blow_103 f_4_15 rfl rfl ?_
          refine z_iload hX dX4_blow_106 rfl ?_
          first | refine z_dup2_2 hX dX4_blow_108 rfl ?_ | refine z_dup2_11 hX dX4_blow_108 rfl rfl ?_
          refine z_lald hX dX4_blow_109 rfl (by omega) (by decide) ?_
          refine z_lload hX dX4_blow_110 rfl ?_
          refine z_lsub hX dX4_blow_112 ?_
          refine z_last (w' := [_, _, _, _, _]) hX dX4_blow_113 rfl (by omega) (by decide) rfl ?_
          refine z_aload_n hX dX4_blow_114 rfl ?_
          refine z_get hX dX4_blow_115 f_4_15 rfl rfl ?_
          refine z_iload hX dX4_blow_118 rfl ?_
          first | refine z_dup2_2 hX dX4_blow_120 rfl ?_ | refine z_dup2_11 hX dX4_blow_120 rfl rfl ?_
          refine z_lald hX dX4_blow_121 rfl (by omega) (by decide) ?_
          refine z_lload hX dX4_blow_122 rfl ?_
          refine z_ladd hX dX4_blow_124 ?_
          refine z_last (w' := [_, _, _, _, _]) hX dX4_blow_125 rfl (by omega) (by decide) rfl ?_
          first | refine z_iincN (b := 1) (ls' := [_, _, _, _, _, _, _, _]) hX dX4_blow_126 rfl rfl rfl ?_ | refine z_iinc (ls' := [_, _, _, _, _, _, _, _]) hX dX4_blow_126 rfl rfl ?_
          refine z_goto (tgt := 17) hX dX4_blow_129 (by decide) ?_
          refine z_forget (ls' := [some (.ref 0), some _, some _, none, none, none, none, none]) ⟨rfl, rfl, rfl, trivial⟩ ?_
          have hfr : frC nt k = zTO.getD k 0 := if_neg (Int64.not_lt.mpr c_28)
          have hto : toC nt k = zFROM.getD k 0 := if_neg (Int64.not_lt.mpr c_28)
          have hgo : bf (zTO.getD k 0) = n0 (zTO.getD k 0) := hbf _ (by omega)
          refine ih (k + 1) (vp_updL (vp_updL pl (zTO.getD k 0) (pl (zTO.getD k 0) - goF (bf (zTO.getD k 0)) (absL (nt k)))) (zFROM.getD k 0) (vp_updL pl (zTO.getD k 0) (pl (zTO.getD k 0) - goF (bf (zTO.getD k 0)) (absL (nt k))) (zFROM.getD k 0) + goF (bf (zTO.getD k 0)) (absL (nt k)))) (by omega) (by omega) (fun q hq => ?_)
          rw [accC_s, ← hp q hq]
          unfold dW
          rw [hfr, hto, if_neg c_79, hgo]
          by_cases e1 : q = zFROM.getD k 0
          · rw [e1, pk_uLs, pk_uLn (by omega), if_neg (by omega), if_pos rfl]
          · rw [pk_uLn e1]
            by_cases e2 : q = zTO.getD k 0
            · rw [e2, pk_uLs, if_pos rfl, Int64.sub_eq_add_neg]
            · rw [pk_uLn e2, if_neg e2, if_neg e1, Int64.add_zero]
      · -- 28 f
        refine z_iconst (v := nI 1) hX dX4_blow_31 rfl ?_
        refine z_goto (tgt := 36) hX dX4_blow_32 (by decide) ?_
        refine z_istore_n (ls' := [_, _, _, _, _, _, _, _]) hX dX4_blow_36 (Nat.le_of_ble_eq_true rfl) rfl ?_
        refine z_iload_n hX dX4_blow_37 rfl ?_
        refine z_if_eq (tgt := 49) hX dX4_blow_38 (by decide) (fun c => absurd c (by decide)) (fun _ => ?_)
        refine z_stat (nm := "FROM") (xs := zFROM) (k := 1000) hX dX4_blow_41 (fun _ _ _ _ h => ⟨h.1, h.2.2.2.2.2.2.1⟩) ?_
        refine z_iload_n hX dX4_blow_44 rfl ?_
        first | refine z_iald hX dX4_blow_45 rfl (by omega) (by decide) ?_ | refine z_stld (nm := "FROM") (xs := zFROM) hX dX4_blow_45 (fun _ _ _ _ h => h.1) (by show _ < 24; omega) (by decide) ?_ | refine z_stld (nm := "TO") (xs := zTO) hX dX4_blow_45 (fun _ _ _ _ h => h.2.1) (by show _ < 24; omega) (by decide) ?_ | refine z_stld (nm := "FALL") (xs := zFALL) hX dX4_blow_45 (fun _ _ _ _ h => h.2.2.1) (by show _ < 81; omega) (by decide) ?_
        refine z_goto (tgt := 54) hX dX4_blow_46 (by decide) ?_
        refine z_istore (ls' := [_, _, _, _, _, _, _, _]) hX dX4_blow_54 (Nat.le_of_ble_eq_true rfl) rfl ?_
        refine z_iload_n hX dX4_blow_56 rfl ?_
        refine z_if_eq (tgt := 68) hX dX4_blow_57 (by decide) (fun c => absurd c (by decide)) (fun _ => ?_)
        refine z_stat (nm := "TO") (xs := zTO) (k := 1001) hX dX4_blow_60 (fun _ _ _ _ h => ⟨h.2.1, h.2.2.2.2.2.2.2⟩) ?_
        refine z_iload_n hX dX4_blow_63 rfl ?_
        first | refine z_iald hX dX4_blow_64 rfl (by omega) (by decide) ?_ | refine z_stld (nm := "FROM") (xs := zFROM) hX dX4_blow_64 (fun _ _ _ _ h => h.1) (by show _ < 24; omega) (by decide) ?_ | refine z_stld (nm := "TO") (xs := zTO) hX dX4_blow_64 (fun _ _ _ _ h => h.2.1) (by show _ < 24; omega) (by decide) ?_ | refine z_stld (nm := "FALL") (xs := zFALL) hX dX4_blow_64 (fun _ _ _ _ h => h.2.2.1) (by show _ < 81; omega) (by decide) ?_
        refine z_goto (tgt := 73) hX dX4_blow_65 (by decide) ?_
        refine z_istore (ls' := [_, _, _, _, _, _, _, _]) hX dX4_blow_73 (Nat.le_of_ble_eq_true rfl) rfl ?_
        refine z_iload hX dX4_blow_75 rfl ?_
        refine z_bipush (v := nI 9) hX dX4_blow_77 rfl ?_
        first | with_reducible refine z_icmp_eqN (tgt := 126) hX dX4_blow_79 (by decide) (by omega) (by omega) (fun c_79 => ?_) (fun c_79 => ?_) | refine z_icmp_eq (tgt := 126) hX dX4_blow_79 (by decide) (fun c_79 => ?_) (fun c_79 => ?_)
        · -- 79 t
          first | refine z_iincN (b := 1) (ls' := [_, _, _, _, _, _, _, _]) hX dX4_blow_126 rfl rfl rfl ?_ | refine z_iinc (ls' := [_, _, _, _, _, _, _, _]) hX dX4_blow_126 rfl rfl ?_
          refine z_goto (tgt := 17) hX dX4_blow_129 (by decide) ?_
          refine z_forget (ls' := [some (.ref 0), some _, some _, none, none, none, none, none]) ⟨rfl, rfl, rfl, trivial⟩ ?_
          have hfr : frC nt k = zFROM.getD k 0 := if_pos c_28
          have hto : toC nt k = zTO.getD k 0 := if_pos c_28
          refine ih (k + 1) pl (by omega) (by omega) (fun q hq => ?_)
          rw [accC_s, hp q hq]
          unfold dW
          rw [hfr, if_pos c_79, Int64.add_zero]
        · -- 79 f
          refine z_aload_n hX dX4_blow_82 rfl ?_
          refine z_get hX dX4_blow_83 f_4_19 rfl rfl ?_
          refine z_iload hX dX4_blow_86 rfl ?_
          refine z_lald hX dX4_blow_88 rfl (by omega) (by decide) ?_
          refine z_aload_n hX dX4_blow_89 rfl ?_
          refine z_iload_n hX dX4_blow_90 rfl ?_
          refine z_lald hX dX4_blow_91 rfl (by omega) (by decide) ?_
          refine z_callS0 hX dX4_blow_92 ms_4_50 (c_J_abs _ _) (by decide) rfl rfl (Nat.le_of_ble_eq_true rfl) (fun r w1 hp _ => ?_)
          obtain ⟨rfl, rfl⟩ := hp
          refine z_lmul hX dX4_blow_95 ?_
          refine z_ldc2 hX dX4_blow_96 k_4_56 ?_
          refine z_ldiv hX dX4_blow_99 (by decide) ?_
          refine z_lstore (ls' := [_, _, _, _, _, _, _, _]) hX dX4_blow_100 (Nat.le_of_ble_eq_true rfl) rfl ?_
          refine z_aload_n hX dX4_blow_102 rfl ?_
          refine z_get hX dX4_blow_103 f_4_15 rfl rfl ?_
          refine z_iload hX dX4_blow_106 rfl ?_
          first | refine z_dup2_2 hX dX4_blow_108 rfl ?_ | refine z_dup2_11 hX dX4_blow_108 rfl rfl ?_
          refine z_lald hX dX4_blow_109 rfl (by omega) (by decide) ?_
          refine z_lload hX dX4_blow_110 rfl ?_
          refine z_lsub hX dX4_blow_112 ?_
          refine z_last (w' := [_, _, _, _, _]) hX dX4_blow_113 rfl (by omega) (by decide) rfl ?_
          refine z_aload_n hX dX4_blow_114 rfl ?_
          refine z_get hX dX4_blow_115 f_4_15 rfl rfl ?_
          refine z_iload hX dX4_blow_118 rfl ?_
          first | refine z_dup2_2 hX dX4_blow_120 rfl ?_ | refine z_dup2_11 hX dX4_blow_120 rfl rfl ?_
          refine z_lald hX dX4_blow_121 rfl (by omega) (by decide) ?_
          refine z_lload hX dX4_blow_122 rfl ?_
          refine z_ladd hX dX4_blow_124 ?_
          refine z_last (w' := [_, _, _, _, _]) hX dX4_blow_125 rfl (by omega) (by decide) rfl ?_
          first | refine z_iincN (b := 1) (ls' := [_, _, _, _, _, _, _, _]) hX dX4_blow_126 rfl rfl rfl ?_ | refine z_iinc (ls' := [_, _, _, _, _, _, _, _]) hX dX4_blow_126 rfl rfl ?_
          refine z_goto (tgt := 17) hX dX4_blow_129 (by decide) ?_
          refine z_forget (ls' := [some (.ref 0), some _, some _, none, none, none, none, none]) ⟨rfl, rfl, rfl, trivial⟩ ?_
          have hfr : frC nt k = zFROM.getD k 0 := if_pos c_28
          have hto : toC nt k = zTO.getD k 0 := if_pos c_28
          have hgo : bf (zFROM.getD k 0) = n0 (zFROM.getD k 0) := hbf _ (by omega)
          refine ih (k + 1) (vp_updL (vp_updL pl (zFROM.getD k 0) (pl (zFROM.getD k 0) - goF (bf (zFROM.getD k 0)) (absL (nt k)))) (zTO.getD k 0) (vp_updL pl (zFROM.getD k 0) (pl (zFROM.getD k 0) - goF (bf (zFROM.getD k 0)) (absL (nt k))) (zTO.getD k 0) + goF (bf (zFROM.getD k 0)) (absL (nt k)))) (by omega) (by omega) (fun q hq => ?_)
          rw [accC_s, ← hp q hq]
          unfold dW
          rw [hfr, hto, if_neg c_79, hgo]
          by_cases e1 : q = zTO.getD k 0
          · rw [e1, pk_uLs, pk_uLn (by omega), if_neg (by omega), if_pos rfl]
          · rw [pk_uLn e1]
            by_cases e2 : q = zFROM.getD k 0
            · rw [e2, pk_uLs, if_pos rfl, Int64.sub_eq_add_neg]
            · rw [pk_uLn e2, if_neg e2, if_neg e1, Int64.add_zero]
set_option maxHeartbeats 4000000 in
set_option maxRecDepth 100000 in
theorem c_X4_blow (rt : Nat → Int32) (pl bf : Nat → Int64) (hm : Int32) (g : Nat → Int64) (nt : Nat → Int64) : ∀ l, ZC l yX4_blow cX4_blow 8 none 1 [.ref 0, .ref 4] (WSt rt pl bf hm g [.inl (1, 24, .inr nt)]) (fun r w' => r = none ∧ ∃ pl1 bf1, w' = WSt rt pl1 bf1 hm g [.inl (1, 24, .inr nt)] ∧ ∀ q, q < 10 → pl1 q = accC pl nt q 24 (pl q)) := by
  intro l
  refine zc_intro (oc := 4) (by decide +kernel) rfl (Nat.le_of_ble_eq_true rfl) ?_
  intro X hX hR
  refine z_norm (ls' := [_, _, _, _, _, _, _, _]) rfl rfl rfl ?_
  refine z_aload_n hX dX4_blow_0 rfl ?_
  refine z_get hX dX4_blow_1 f_4_15 rfl rfl ?_
  refine z_iconst (v := nI 0) hX dX4_blow_4 rfl ?_
  refine z_aload_n hX dX4_blow_5 rfl ?_
  refine z_get hX dX4_blow_6 f_4_19 rfl rfl ?_
  refine z_iconst (v := nI 0) hX dX4_blow_9 rfl ?_
  refine z_bipush (v := nI 9) hX dX4_blow_10 rfl ?_
  refine z_copy9 (w2 := [_, _, _, _, _]) hX dX4_blow_12 (by decide +kernel) (by decide +kernel) (by decide +kernel) (by decide +kernel) (by decide) rfl rfl rfl ?_
  refine z_iconst (v := nI 0) hX dX4_blow_15 rfl ?_
  refine z_istore_n (ls' := [_, _, _, _, _, _, _, _]) hX dX4_blow_16 (Nat.le_of_ble_eq_true rfl) rfl ?_
  exact lp_bl_17 hX hR rt pl pl (va_cpy pl bf 0 0 9) hm g nt (fun q hq => by rw [pk_cpy_in (by omega) (by omega)]; congr 1; omega) (fun pl1 e => ⟨rfl, pl1, _, rfl, e⟩) 25 0 pl (by omega) (by omega) (fun q hq => rfl)
def WLg (nu s0 s1 s2 : Nat → Int64) (gp f : Nat → Int32) (e : ZW) : ZW := .inr (2, [.ref 1, .ref 2, .ref 6, .int (f 0), .int (f 1), .int (f 2), .int (f 3), .int (f 4)]) :: .inl (1, 100, .inr nu) :: .inr (103, [.ref 3, .ref 4, .ref 5]) :: .inl (1, 100, .inr s0) :: .inl (1, 100, .inr s1) :: .inl (1, 100, .inr s2) :: .inl (2, 100, .inl gp) :: e
def slF (lt j : Nat) : Nat := (lt + 100 - j) % 100
theorem slF_lt (lt j : Nat) : slF lt j < 100 := Nat.mod_lt _ (by decide)
theorem slI {a j : Nat} (h : j ≤ 100) : nI a - nI j + nI 100 = nI (a + 100 - j) := by
  have h1 : nI a + nI 100 - nI j = nI (a + 100 - j) := by rw [nI_add, pk_sub (by omega)]
  rw [← h1, Int32.sub_eq_add_neg, Int32.sub_eq_add_neg, Int32.add_assoc, Int32.add_assoc, Int32.add_comm (-nI j)]
set_option maxHeartbeats 4000000 in
set_option maxRecDepth 100000 in
theorem c_X2_slotOf (nu s0 s1 s2 : Nat → Int64) (gp f : Nat → Int32) (lt : Nat) (hlt : lt < 100) (h2 : f 2 = nI lt) (j : Nat) (hj : j ≤ 100) : ∀ l, ZC l yX2_slotOf cX2_slotOf 2 (some .int) 0 [.ref 0, .int (nI j)] (WLg nu s0 s1 s2 gp f []) (fun r w' => w' = WLg nu s0 s1 s2 gp f [] ∧ r = some (.int (nI (slF lt j)))) := by
  intro l
  refine zc_intro (oc := 2) (by decide +kernel) rfl (Nat.le_of_ble_eq_true rfl) ?_
  intro X hX hR
  refine z_norm (ls' := [_, _]) rfl rfl rfl ?_
  refine z_aload_n hX dX2_slotOf_0 rfl ?_
  refine z_get hX dX2_slotOf_1 f_2_31 rfl rfl ?_
  refine z_top h2 ?_
  refine z_iload_n hX dX2_slotOf_4 rfl ?_
  refine z_isub hX dX2_slotOf_5 ?_
  refine z_bipush (v := nI 100) hX dX2_slotOf_6 rfl ?_
  refine z_iadd hX dX2_slotOf_8 ?_
  refine z_top (slI hj) ?_
  refine z_bipush (v := nI 100) hX dX2_slotOf_9 rfl ?_
  first | with_reducible refine z_iremN hX dX2_slotOf_11 (by omega) (by decide) (by decide) ?_ | refine z_irem hX dX2_slotOf_11 (by decide) ?_
  refine z_iret hX hR dX2_slotOf_12 ?_
  exact ⟨rfl, rfl⟩
set_option maxHeartbeats 4000000 in
set_option maxRecDepth 100000 in
theorem c_X2_move (nu s0 s1 s2 : Nat → Int64) (gp f : Nat → Int32) (y : Int32) : ∀ l, ZC l yX2_move cX2_move 3 (some .int) 0 [.ref 0, .int y] (WLg nu s0 s1 s2 gp f []) (fun r w' => r = some (.int (f 1)) ∧ w' = WLg nu s0 s1 s2 gp (va_up (va_up f 0 y) 1 (nI 0)) []) := by
  intro l
  refine zc_intro (oc := 2) (by decide +kernel) rfl (Nat.le_of_ble_eq_true rfl) ?_
  intro X hX hR
  refine z_norm (ls' := [_, _, _]) rfl rfl rfl ?_
  refine z_aload_n hX dX2_move_0 rfl ?_
  refine z_get hX dX2_move_1 f_2_28 rfl rfl ?_
  refine z_istore_n (ls' := [_, _, _]) hX dX2_move_4 (Nat.le_of_ble_eq_true rfl) rfl ?_
  refine z_aload_n hX dX2_move_5 rfl ?_
  refine z_iload_n hX dX2_move_6 rfl ?_
  refine z_puti (fs' := [_, _, _, _, _, _, _, _]) (w' := [_, _, _, _, _, _, _]) hX dX2_move_7 p_2_24 rfl (Nat.le_of_ble_eq_true rfl) rfl rfl ?_
  refine z_aload_n hX dX2_move_10 rfl ?_
  refine z_iconst (v := nI 0) hX dX2_move_11 rfl ?_
  refine z_puti (fs' := [_, _, _, _, _, _, _, _]) (w' := [_, _, _, _, _, _, _]) hX dX2_move_12 p_2_28 rfl (Nat.le_of_ble_eq_true rfl) rfl rfl ?_
  refine z_iload_n hX dX2_move_15 rfl ?_
  refine z_iret hX hR dX2_move_16 ?_
  exact ⟨rfl, rfl⟩
def wiF (gp : Nat → Int32) (lt a n : Nat) : Nat := zfold (fun k t => t + if gp (slF lt (a + k)) = 0 then 1 else 0) n 0
theorem wiF_s (gp : Nat → Int32) (lt a n : Nat) : wiF gp lt a (n + 1) = wiF gp lt a n + if gp (slF lt (a + n)) = 0 then 1 else 0 := rfl
theorem wiF_le (gp : Nat → Int32) (lt a : Nat) : ∀ n, wiF gp lt a n ≤ n
  | 0 => Nat.le_refl 0
  | n + 1 => by
    have := wiF_le gp lt a n
    rw [wiF_s]
    split <;> omega
def siF (nu : Nat → Int64) (gp : Nat → Int32) (lt a n : Nat) : Int64 := zfold (fun k t => t + if gp (slF lt (a + k)) = 0 then nu (slF lt (a + k)) else 0) n 0
theorem siF_s (nu : Nat → Int64) (gp : Nat → Int32) (lt a n : Nat) : siF nu gp lt a (n + 1) = siF nu gp lt a n + if gp (slF lt (a + n)) = 0 then nu (slF lt (a + n)) else 0 := rfl
set_option maxHeartbeats 4000000 in
set_option maxRecDepth 100000 in
theorem lp_wi_5 {X : ZX} {post : Option Value → ZW → Prop} (hX : ZOK X 2 cX2_writtenIn 1) (hR : ZRet X (some .int) post) (nu s0 s1 s2 : Nat → Int64) (gp f : Nat → Int32) (lt : Nat) (hlt : lt < 100) (h2 : f 2 = nI lt) (a N : Nat) (hN : a + N ≤ 100) (hpost : post (some (.int (nI (wiF gp lt a N)))) (WLg nu s0 s1 s2 gp f [])) : ∀ (n k : Nat), k ≤ N → N < k + n → ZG X 5 [some (.ref 0), some (.int (nI a)), some (.int (nI N)), some (.int (nI (wiF gp lt a k))), some (.int (nI (a + k)))] [] (WLg nu s0 s1 s2 gp f []) := by
  intro n
  induction n with
  | zero => intro k z1 z2; omega
  | succ n ih =>
    intro k hk1 hk2
    refine z_iload hX dX2_writtenIn_5 rfl ?_
    refine z_iload_n hX dX2_writtenIn_7 rfl ?_
    refine z_iload_n hX dX2_writtenIn_8 rfl ?_
    first | with_reducible refine z_iaddN hX dX2_writtenIn_9 ?_ | refine z_iadd hX dX2_writtenIn_9 ?_
    first | with_reducible refine z_icmp_geN (tgt := 41) hX dX2_writtenIn_10 (by decide) (by omega) (by omega) (fun c_10 => ?_) (fun c_10 => ?_) | refine z_icmp_ge (tgt := 41) hX dX2_writtenIn_10 (by decide) (fun c_10 => ?_) (fun c_10 => ?_)
    · -- 10 t
      have zk : k = N := by omega
      subst zk
      refine z_iload_n hX dX2_writtenIn_41 rfl ?_
      refine z_iret hX hR dX2_writtenIn_42 ?_
      exact hpost
    · -- 10 f
      have ih2 := ih (k + 1) (by omega) (by omega)
      rw [wiF_s] at ih2
      refine z_iload_n hX dX2_writtenIn_13 rfl ?_
      refine z_aload_n hX dX2_writtenIn_14 rfl ?_
      refine z_get hX dX2_writtenIn_15 f_2_20 rfl rfl ?_
      refine z_aload_n hX dX2_writtenIn_18 rfl ?_
      refine z_iload hX dX2_writtenIn_19 rfl ?_
      refine z_callV0 hX dX2_writtenIn_21 mv_2_55 (c_X2_slotOf nu s0 s1 s2 gp f lt hlt h2 (a + k) (by omega)) (by decide) rfl rfl rfl rfl (Nat.le_of_ble_eq_true rfl) (fun r w1 hp _ => ?_)
      obtain ⟨rfl, rfl⟩ := hp
      have zsl := slF_lt lt (a + k)
      refine z_zald hX dX2_writtenIn_24 rfl (by omega) (by decide) ?_
      refine z_if_eq (tgt := 32) hX dX2_writtenIn_25 (by decide) (fun c_25 => ?_) (fun c_25 => ?_)
      · -- 25 t
        refine z_iconst (v := nI 1) hX dX2_writtenIn_32 rfl ?_
        first | with_reducible refine z_iaddN hX dX2_writtenIn_33 ?_ | refine z_iadd hX dX2_writtenIn_33 ?_
        refine z_istore_n (ls' := [_, _, _, _, _]) hX dX2_writtenIn_34 (Nat.le_of_ble_eq_true rfl) rfl ?_
        first | refine z_iincN (b := 1) (ls' := [_, _, _, _, _]) hX dX2_writtenIn_35 rfl rfl rfl ?_ | refine z_iinc (ls' := [_, _, _, _, _]) hX dX2_writtenIn_35 rfl rfl ?_
        refine z_goto (tgt := 5) hX dX2_writtenIn_38 (by decide) ?_
        rw [if_pos c_25] at ih2
        exact ih2
      · -- 25 f
        refine z_iconst (v := nI 0) hX dX2_writtenIn_28 rfl ?_
        refine z_goto (tgt := 33) hX dX2_writtenIn_29 (by decide) ?_
        first | with_reducible refine z_iaddN hX dX2_writtenIn_33 ?_ | refine z_iadd hX dX2_writtenIn_33 ?_
        refine z_istore_n (ls' := [_, _, _, _, _]) hX dX2_writtenIn_34 (Nat.le_of_ble_eq_true rfl) rfl ?_
        first | refine z_iincN (b := 1) (ls' := [_, _, _, _, _]) hX dX2_writtenIn_35 rfl rfl rfl ?_ | refine z_iinc (ls' := [_, _, _, _, _]) hX dX2_writtenIn_35 rfl rfl ?_
        refine z_goto (tgt := 5) hX dX2_writtenIn_38 (by decide) ?_
        rw [if_neg c_25] at ih2
        exact ih2
set_option maxHeartbeats 4000000 in
set_option maxRecDepth 100000 in
theorem c_X2_writtenIn (nu s0 s1 s2 : Nat → Int64) (gp f : Nat → Int32) (lt : Nat) (hlt : lt < 100) (h2 : f 2 = nI lt) (a N : Nat) (hN : a + N ≤ 100) : ∀ l, ZC l yX2_writtenIn cX2_writtenIn 5 (some .int) 1 [.ref 0, .int (nI a), .int (nI N)] (WLg nu s0 s1 s2 gp f []) (fun r w' => w' = WLg nu s0 s1 s2 gp f [] ∧ r = some (.int (nI (wiF gp lt a N)))) := by
  intro l
  refine zc_intro (oc := 2) (by decide +kernel) rfl (Nat.le_of_ble_eq_true rfl) ?_
  intro X hX hR
  refine z_norm (ls' := [_, _, _, _, _]) rfl rfl rfl ?_
  refine z_iconst (v := nI 0) hX dX2_writtenIn_0 rfl ?_
  refine z_istore_n (ls' := [_, _, _, _, _]) hX dX2_writtenIn_1 (Nat.le_of_ble_eq_true rfl) rfl ?_
  refine z_iload_n hX dX2_writtenIn_2 rfl ?_
  refine z_istore (ls' := [_, _, _, _, _]) hX dX2_writtenIn_3 (Nat.le_of_ble_eq_true rfl) rfl ?_
  exact lp_wi_5 hX hR nu s0 s1 s2 gp f lt hlt h2 a N hN ⟨rfl, rfl⟩ (N + 1) 0 (by omega) (by omega)
set_option maxHeartbeats 4000000 in
set_option maxRecDepth 100000 in
theorem lp_si_5 {X : ZX} {post : Option Value → ZW → Prop} (hX : ZOK X 2 cX2_sumIn 1) (hR : ZRet X (some .long) post) (nu s0 s1 s2 : Nat → Int64) (gp f : Nat → Int32) (lt : Nat) (hlt : lt < 100) (h2 : f 2 = nI lt) (a N : Nat) (hN : a + N ≤ 100) (hpost : post (some (.long (siF nu gp lt a N))) (WLg nu s0 s1 s2 gp f [])) : ∀ (n k : Nat), k ≤ N → N < k + n → ZG X 5 [some (.ref 0), some (.int (nI a)), some (.int (nI N)), some (.long (siF nu gp lt a k)), none, some (.int (nI (a + k))), none] [] (WLg nu s0 s1 s2 gp f []) := by
  intro n
  induction n with
  | zero => intro k z1 z2; omega
  | succ n ih =>
    intro k hk1 hk2
    refine z_iload hX dX2_sumIn_5 rfl ?_
    refine z_iload_n hX dX2_sumIn_7 rfl ?_
    refine z_iload_n hX dX2_sumIn_8 rfl ?_
    first | with_reducible refine z_iaddN hX dX2_sumIn_9 ?_ | refine z_iadd hX dX2_sumIn_9 ?_
    first | with_reducible refine z_icmp_geN (tgt := 51) hX dX2_sumIn_10 (by decide) (by omega) (by omega) (fun c_10 => ?_) (fun c_10 => ?_) | refine z_icmp_ge (tgt := 51) hX dX2_sumIn_10 (by decide) (fun c_10 => ?_) (fun c_10 => ?_)
    · -- 10 t
      have zk : k = N := by omega
      subst zk
      refine z_lload_n hX dX2_sumIn_51 rfl ?_
      refine z_lret hX hR dX2_sumIn_52 ?_
      exact hpost
    · -- 10 f
      have ih2 := ih (k + 1) (by omega) (by omega)
      rw [siF_s] at ih2
      refine z_aload_n hX dX2_sumIn_13 rfl ?_
      refine z_iload hX dX2_sumIn_14 rfl ?_
      refine z_callV0 hX dX2_sumIn_16 mv_2_55 (c_X2_slotOf nu s0 s1 s2 gp f lt hlt h2 (a + k) (by omega)) (by decide) rfl rfl rfl rfl (Nat.le_of_ble_eq_true rfl) (fun r w1 hp _ => ?_)
      obtain ⟨rfl, rfl⟩ := hp
      have zsl := slF_lt lt (a + k)
      refine z_istore (ls' := [_, _, _, _, _, _, _]) hX dX2_sumIn_19 (Nat.le_of_ble_eq_true rfl) rfl ?_
      refine z_lload_n hX dX2_sumIn_21 rfl ?_
      refine z_aload_n hX dX2_sumIn_22 rfl ?_
      refine z_get hX dX2_sumIn_23 f_2_20 rfl rfl ?_
      refine z_iload hX dX2_sumIn_26 rfl ?_
      refine z_zald hX dX2_sumIn_28 rfl (by omega) (by decide) ?_
      refine z_if_eq (tgt := 36) hX dX2_sumIn_29 (by decide) (fun c_29 => ?_) (fun c_29 => ?_)
      · -- 29 t
        refine z_aload_n hX dX2_sumIn_36 rfl ?_
        refine z_get hX dX2_sumIn_37 f_2_9 rfl rfl ?_
        refine z_iload hX dX2_sumIn_40 rfl ?_
        refine z_lald hX dX2_sumIn_42 rfl (by omega) (by decide) ?_
        refine z_ladd hX dX2_sumIn_43 ?_
        refine z_lstore_n (ls' := [_, _, _, _, _, _, _]) hX dX2_sumIn_44 (Nat.le_of_ble_eq_true rfl) rfl ?_
        first | refine z_iincN (b := 1) (ls' := [_, _, _, _, _, _, _]) hX dX2_sumIn_45 rfl rfl rfl ?_ | refine z_iinc (ls' := [_, _, _, _, _, _, _]) hX dX2_sumIn_45 rfl rfl ?_
        refine z_goto (tgt := 5) hX dX2_sumIn_48 (by decide) ?_
        rw [if_pos c_29] at ih2
        refine z_forget (ls' := [some (.ref 0), some _, some _, some _, none, some _, none]) ⟨rfl, rfl, rfl, rfl, rfl, trivial⟩ ih2
      · -- 29 f
        refine z_lconst (v := 0) hX dX2_sumIn_32 rfl ?_
        refine z_goto (tgt := 43) hX dX2_sumIn_33 (by decide) ?_
        refine z_ladd hX dX2_sumIn_43 ?_
        refine z_lstore_n (ls' := [_, _, _, _, _, _, _]) hX dX2_sumIn_44 (Nat.le_of_ble_eq_true rfl) rfl ?_
        first | refine z_iincN (b := 1) (ls' := [_, _, _, _, _, _, _]) hX dX2_sumIn_45 rfl rfl rfl ?_ | refine z_iinc (ls' := [_, _, _, _, _, _, _]) hX dX2_sumIn_45 rfl rfl ?_
        refine z_goto (tgt := 5) hX dX2_sumIn_48 (by decide) ?_
        rw [if_neg c_29] at ih2
        refine z_forget (ls' := [some (.ref 0), some _, some _, some _, none, some _, none]) ⟨rfl, rfl, rfl, rfl, rfl, trivial⟩ ih2
set_option maxHeartbeats 4000000 in
set_option maxRecDepth 100000 in
theorem c_X2_sumIn (nu s0 s1 s2 : Nat → Int64) (gp f : Nat → Int32) (lt : Nat) (hlt : lt < 100) (h2 : f 2 = nI lt) (a N : Nat) (hN : a + N ≤ 100) : ∀ l, ZC l yX2_sumIn cX2_sumIn 7 (some .long) 1 [.ref 0, .int (nI a), .int (nI N)] (WLg nu s0 s1 s2 gp f []) (fun r w' => w' = WLg nu s0 s1 s2 gp f [] ∧ r = some (.long (siF nu gp lt a N))) := by
  intro l
  refine zc_intro (oc := 2) (by decide +kernel) rfl (Nat.le_of_ble_eq_true rfl) ?_
  intro X hX hR
  refine z_norm (ls' := [_, _, _, _, _, _, _]) rfl rfl rfl ?_
  refine z_lconst (v := 0) hX dX2_sumIn_0 rfl ?_
  refine z_lstore_n (ls' := [_, _, _, _, _, _, _]) hX dX2_sumIn_1 (Nat.le_of_ble_eq_true rfl) rfl ?_
  refine z_iload_n hX dX2_sumIn_2 rfl ?_
  refine z_istore (ls' := [_, _, _, _, _, _, _]) hX dX2_sumIn_3 (Nat.le_of_ble_eq_true rfl) rfl ?_
  exact lp_si_5 hX hR nu s0 s1 s2 gp f lt hlt h2 a N hN ⟨rfl, rfl⟩ (N + 1) 0 (by omega) (by omega)
set_option maxHeartbeats 4000000 in
set_option maxRecDepth 100000 in
theorem c_X2_countOfWritten (nu s0 s1 s2 : Nat → Int64) (gp f : Nat → Int32) (lt : Nat) (hlt : lt < 100) (h2 : f 2 = nI lt) (cn : Nat) (hcn : cn ≤ 100) (h1 : f 1 = nI cn) : ∀ l, ZC l yX2_countOfWritten cX2_countOfWritten 1 (some .int) 2 [.ref 0] (WLg nu s0 s1 s2 gp f []) (fun r w' => w' = WLg nu s0 s1 s2 gp f [] ∧ r = some (.int (nI (wiF gp lt 0 cn)))) := by
  intro l
  refine zc_intro (oc := 2) (by decide +kernel) rfl (Nat.le_of_ble_eq_true rfl) ?_
  intro X hX hR
  refine z_norm (ls' := [_]) rfl rfl rfl ?_
  refine z_aload_n hX dX2_countOfWritten_0 rfl ?_
  refine z_iconst (v := nI 0) hX dX2_countOfWritten_1 rfl ?_
  refine z_aload_n hX dX2_countOfWritten_2 rfl ?_
  refine z_get hX dX2_countOfWritten_3 f_2_28 rfl rfl ?_
  refine z_top h1 ?_
  refine z_callV0 hX dX2_countOfWritten_6 mv_2_52 (c_X2_writtenIn nu s0 s1 s2 gp f lt hlt h2 0 cn (by omega)) (by decide) rfl rfl rfl rfl (Nat.le_of_ble_eq_true rfl) (fun r w1 hp _ => ?_)
  obtain ⟨rfl, rfl⟩ := hp
  refine z_iret hX hR dX2_countOfWritten_9 ?_
  exact ⟨rfl, rfl⟩
set_option maxHeartbeats 4000000 in
set_option maxRecDepth 100000 in
theorem c_X2_meanOfWritten (nu s0 s1 s2 : Nat → Int64) (gp f : Nat → Int32) (lt : Nat) (hlt : lt < 100) (h2 : f 2 = nI lt) (cn : Nat) (hcn : cn ≤ 100) (h1 : f 1 = nI cn) : ∀ l, ZC l yX2_meanOfWritten cX2_meanOfWritten 2 (some .long) 3 [.ref 0] (WLg nu s0 s1 s2 gp f []) (fun r w' => w' = WLg nu s0 s1 s2 gp f [] ∧ r = some (.long (if wiF gp lt 0 cn = 0 then -4 else siF nu gp lt 0 cn / lN (wiF gp lt 0 cn)))) := by
  intro l
  refine zc_intro (oc := 2) (by decide +kernel) rfl (Nat.le_of_ble_eq_true rfl) ?_
  intro X hX hR
  refine z_norm (ls' := [_, _]) rfl rfl rfl ?_
  refine z_aload_n hX dX2_meanOfWritten_0 rfl ?_
  refine z_callV0 hX dX2_meanOfWritten_1 mv_2_59 (c_X2_countOfWritten nu s0 s1 s2 gp f lt hlt h2 cn hcn h1) (by decide) rfl rfl rfl rfl (Nat.le_of_ble_eq_true rfl) (fun r w1 hp _ => ?_)
  obtain ⟨rfl, rfl⟩ := hp
  have hwi := wiF_le gp lt 0 cn
  refine z_istore_n (ls' := [_, _]) hX dX2_meanOfWritten_4 (Nat.le_of_ble_eq_true rfl) rfl ?_
  refine z_iload_n hX dX2_meanOfWritten_5 rfl ?_
  refine z_if_ne (tgt := 15) hX dX2_meanOfWritten_6 (by decide) (fun c_6 => ?_) (fun c_6 => ?_)
  · -- 6 t
    have c_6 : ¬ wiF gp lt 0 cn = 0 := fun q => c_6 (by rw [q]; rfl)
    refine z_aload_n hX dX2_meanOfWritten_15 rfl ?_
    refine z_iconst (v := nI 0) hX dX2_meanOfWritten_16 rfl ?_
    refine z_aload_n hX dX2_meanOfWritten_17 rfl ?_
    refine z_get hX dX2_meanOfWritten_18 f_2_28 rfl rfl ?_
    refine z_top h1 ?_
    refine z_callV0 hX dX2_meanOfWritten_21 mv_2_65 (c_X2_sumIn nu s0 s1 s2 gp f lt hlt h2 0 cn (by omega)) (by decide) rfl rfl rfl rfl (Nat.le_of_ble_eq_true rfl) (fun r w1 hp _ => ?_)
    obtain ⟨rfl, rfl⟩ := hp
    refine z_iload_n hX dX2_meanOfWritten_24 rfl ?_
    first | with_reducible refine z_i2lN hX dX2_meanOfWritten_25 (by omega) ?_ | refine z_i2l hX dX2_meanOfWritten_25 ?_
    refine z_ldiv hX dX2_meanOfWritten_26 (lN_ne c_6 (by omega)) ?_
    refine z_lret hX hR dX2_meanOfWritten_27 ?_
    exact ⟨rfl, by rw [if_neg c_6]⟩
  · -- 6 f
    have c_6 : wiF gp lt 0 cn = 0 := (nI_eq (by omega) (by omega)).mp c_6
    refine z_ldc2 hX dX2_meanOfWritten_9 k_2_63 ?_
    refine z_goto (tgt := 27) hX dX2_meanOfWritten_12 (by decide) ?_
    refine z_lret hX hR dX2_meanOfWritten_27 ?_
    exact ⟨rfl, by rw [if_pos c_6]⟩
end

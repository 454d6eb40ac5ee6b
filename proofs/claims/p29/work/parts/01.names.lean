-- ===== PART A: goes FIRST, ahead of the names: the tables' words, and 'selects' of the private methods out of them =====
/-- a private method of a class that the tables say can be made, by its rows of tables_1 -/
def lw_okq (q : MethodName × Nat) : Prop := (q.1.cls ≠ "java/lang/invoke/MethodHandle" ∧ q.1.cls ≠ "java/lang/invoke/VarHandle") ∧ Cond.instantiable q.1.cls q.2 ∈ tables_1 ∧ Cond.privateMethod q.1 ∈ tables_1 ∧ Cond.instanceMethod q.1 ∈ tables_1
theorem lw_p0 : lw_okq (⟨"IslandThatLeans$Lates", "measureChanges", "(I)V"⟩, 6) := ⟨⟨by decide +kernel, by decide +kernel⟩, List.mem_of_getElem? (i := 211) (by decide +kernel), List.mem_of_getElem? (i := 431) (by decide +kernel), List.mem_of_getElem? (i := 432) (by decide +kernel)⟩
theorem lw_p1 : lw_okq (⟨"IslandThatLeans$Lates", "wetDoorsIfLate", "(III)I"⟩, 6) := ⟨⟨by decide +kernel, by decide +kernel⟩, List.mem_of_getElem? (i := 211) (by decide +kernel), List.mem_of_getElem? (i := 446) (by decide +kernel), List.mem_of_getElem? (i := 447) (by decide +kernel)⟩
theorem lw_p2 : lw_okq (⟨"IslandThatLeans$PlanText", "takes", "(I)Z"⟩, 3) := ⟨⟨by decide +kernel, by decide +kernel⟩, List.mem_of_getElem? (i := 36) (by decide +kernel), List.mem_of_getElem? (i := 521) (by decide +kernel), List.mem_of_getElem? (i := 522) (by decide +kernel)⟩
theorem lw_p3 : lw_okq (⟨"IslandThatLeans$PlanText", "endsRow", "()Z"⟩, 3) := ⟨⟨by decide +kernel, by decide +kernel⟩, List.mem_of_getElem? (i := 36) (by decide +kernel), List.mem_of_getElem? (i := 525) (by decide +kernel), List.mem_of_getElem? (i := 526) (by decide +kernel)⟩
theorem lw_p4 : lw_okq (⟨"IslandThatLeans$Island", "addSquare", "(III)V"⟩, 7) := ⟨⟨by decide +kernel, by decide +kernel⟩, List.mem_of_getElem? (i := 52) (by decide +kernel), List.mem_of_getElem? (i := 561) (by decide +kernel), List.mem_of_getElem? (i := 562) (by decide +kernel)⟩
def lw_privs_1 : List (MethodName × Nat) := [(⟨"IslandThatLeans$Lates", "measureChanges", "(I)V"⟩, 6), (⟨"IslandThatLeans$Lates", "wetDoorsIfLate", "(III)I"⟩, 6), (⟨"IslandThatLeans$PlanText", "takes", "(I)Z"⟩, 3), (⟨"IslandThatLeans$PlanText", "endsRow", "()Z"⟩, 3), (⟨"IslandThatLeans$Island", "addSquare", "(III)V"⟩, 7)]
theorem lw_r1 : ∀ q ∈ lw_privs_1, lw_okq q := List.forall_mem_cons.mpr ⟨lw_p0, List.forall_mem_cons.mpr ⟨lw_p1, List.forall_mem_cons.mpr ⟨lw_p2, List.forall_mem_cons.mpr ⟨lw_p3, List.forall_mem_cons.mpr ⟨lw_p4, fun _ h => absurd h List.not_mem_nil⟩⟩⟩⟩⟩
def lw_privs : List (MethodName × Nat) := lw_privs_1
def lw_tbl : List Cond := k2_sels lw_privs ++ tables_1
theorem lw_privs_ok : ∀ q ∈ lw_privs, lw_okq q := lw_r1
-- ===== end of PART A; then your names; then what follows =====
def RX0 : String := "IslandThatLeans$Day"
def TX0 : u_T := fun k => match k with
  | 0 => ("IslandThatLeans$Day", "island", "LIslandThatLeans$Island;", true)
  | 1 => ("IslandThatLeans$Day", "things", "LIslandThatLeans$Things;", true)
  | 2 => ("IslandThatLeans$Day", "easts", "[I", true)
  | _ => ("IslandThatLeans$Day", "souths", "[I", true)
def tyX0 : Nat → FieldType := fun k => match k with
  | 0 => .object "IslandThatLeans$Island"
  | 1 => .object "IslandThatLeans$Things"
  | 2 => .array .int
  | _ => .array .int
theorem nmX0 : ∀ a, a < 4 → ∀ b, b < 4 → a ≠ b → (TX0 a).2.1 ≠ (TX0 b).2.1 := by decide +kernel
theorem tyX0_ok : ∀ k, k < 4 → parseFieldDescriptor (TX0 k).2.2.1 = some (tyX0 k) := by decide +kernel
abbrev cX0_init : ByteArray := prog_2_method_1_code
def yX0_init : MethodName := ⟨RX0, "<init>", "(LIslandThatLeans$Island;LIslandThatLeans$Things;)V"⟩
abbrev cX0_leanEast : ByteArray := prog_2_method_2_code
def yX0_leanEast : MethodName := ⟨RX0, "leanEast", "(I)I"⟩
abbrev cX0_leanSouth : ByteArray := prog_2_method_3_code
def yX0_leanSouth : MethodName := ⟨RX0, "leanSouth", "(I)I"⟩
abbrev cX0_wetIn : ByteArray := prog_2_method_4_code
def yX0_wetIn : MethodName := ⟨RX0, "wetIn", "(I)I"⟩
def RX1 : String := "IslandThatLeans$Island"
def TX1 : u_T := fun k => match k with
  | 0 => ("IslandThatLeans$Island", "heights", "[I", true)
  | 1 => ("IslandThatLeans$Island", "easts", "[I", true)
  | 2 => ("IslandThatLeans$Island", "souths", "[I", true)
  | 3 => ("IslandThatLeans$Island", "rows", "I", false)
  | 4 => ("IslandThatLeans$Island", "columns", "I", false)
  | 5 => ("IslandThatLeans$Island", "squares", "I", false)
  | _ => ("IslandThatLeans$Island", "doors", "I", false)
def tyX1 : Nat → FieldType := fun k => match k with
  | 0 => .array .int
  | 1 => .array .int
  | 2 => .array .int
  | 3 => .int
  | 4 => .int
  | 5 => .int
  | _ => .int
theorem nmX1 : ∀ a, a < 7 → ∀ b, b < 7 → a ≠ b → (TX1 a).2.1 ≠ (TX1 b).2.1 := by decide +kernel
theorem tyX1_ok : ∀ k, k < 7 → parseFieldDescriptor (TX1 k).2.2.1 = some (tyX1 k) := by decide +kernel
abbrev cX1_init : ByteArray := prog_3_method_1_code
def yX1_init : MethodName := ⟨RX1, "<init>", "()V"⟩
abbrev cX1_read : ByteArray := prog_3_method_2_code
def yX1_read : MethodName := ⟨RX1, "read", "(LIslandThatLeans$Page;II)V"⟩
abbrev cX1_addSquare : ByteArray := prog_3_method_3_code
def yX1_addSquare : MethodName := ⟨RX1, "addSquare", "(III)V"⟩
abbrev cX1_fromCentre : ByteArray := prog_3_method_4_code
def yX1_fromCentre : MethodName := ⟨RX1, "fromCentre", "(II)I"⟩
abbrev cX1_isThere : ByteArray := prog_3_method_5_code
def yX1_isThere : MethodName := ⟨RX1, "isThere", "()Z"⟩
abbrev cX1_squares : ByteArray := prog_3_method_6_code
def yX1_squares : MethodName := ⟨RX1, "squares", "()I"⟩
abbrev cX1_doors : ByteArray := prog_3_method_7_code
def yX1_doors : MethodName := ⟨RX1, "doors", "()I"⟩
abbrev cX1_has : ByteArray := prog_3_method_8_code
def yX1_has : MethodName := ⟨RX1, "has", "(I)Z"⟩
abbrev cX1_hasAll : ByteArray := prog_3_method_9_code
def yX1_hasAll : MethodName := ⟨RX1, "hasAll", "(I)Z"⟩
abbrev cX1_east : ByteArray := prog_3_method_11_code
def yX1_east : MethodName := ⟨RX1, "east", "(I)I"⟩
abbrev cX1_south : ByteArray := prog_3_method_12_code
def yX1_south : MethodName := ⟨RX1, "south", "(I)I"⟩
abbrev cX1_dipOf : ByteArray := prog_3_method_13_code
def yX1_dipOf : MethodName := ⟨RX1, "dipOf", "(III)I"⟩
abbrev cX1_wetDoors : ByteArray := prog_3_method_14_code
def yX1_wetDoors : MethodName := ⟨RX1, "wetDoors", "(II)I"⟩
def RX2 : String := "IslandThatLeans$Lates"
def TX2 : u_T := fun k => match k with
  | 0 => ("IslandThatLeans$Lates", "island", "LIslandThatLeans$Island;", true)
  | 1 => ("IslandThatLeans$Lates", "things", "LIslandThatLeans$Things;", true)
  | 2 => ("IslandThatLeans$Lates", "day", "LIslandThatLeans$Day;", true)
  | 3 => ("IslandThatLeans$Lates", "found", "[I", true)
  | 4 => ("IslandThatLeans$Lates", "easts", "[I", true)
  | _ => ("IslandThatLeans$Lates", "souths", "[I", true)
def tyX2 : Nat → FieldType := fun k => match k with
  | 0 => .object "IslandThatLeans$Island"
  | 1 => .object "IslandThatLeans$Things"
  | 2 => .object "IslandThatLeans$Day"
  | 3 => .array .int
  | 4 => .array .int
  | _ => .array .int
theorem nmX2 : ∀ a, a < 6 → ∀ b, b < 6 → a ≠ b → (TX2 a).2.1 ≠ (TX2 b).2.1 := by decide +kernel
theorem tyX2_ok : ∀ k, k < 6 → parseFieldDescriptor (TX2 k).2.2.1 = some (tyX2 k) := by decide +kernel
abbrev cX2_init : ByteArray := prog_4_method_1_code
def yX2_init : MethodName := ⟨RX2, "<init>", "(LIslandThatLeans$Island;LIslandThatLeans$Things;LIslandThatLeans$Day;)V"⟩
abbrev cX2_found : ByteArray := prog_4_method_2_code
def yX2_found : MethodName := ⟨RX2, "found", "(I)I"⟩
abbrev cX2_search : ByteArray := prog_4_method_3_code
def yX2_search : MethodName := ⟨RX2, "search", "(II)V"⟩
abbrev cX2_measureChanges : ByteArray := prog_4_method_4_code
def yX2_measureChanges : MethodName := ⟨RX2, "measureChanges", "(I)V"⟩
abbrev cX2_wetDoorsIfLate : ByteArray := prog_4_method_5_code
def yX2_wetDoorsIfLate : MethodName := ⟨RX2, "wetDoorsIfLate", "(III)I"⟩
def RX3 : String := "IslandThatLeans$Page"
def TX3 : u_T := fun k => match k with
  | 0 => ("IslandThatLeans$Page", "signs", "[C", true)
  | _ => ("IslandThatLeans$Page", "length", "I", false)
def tyX3 : Nat → FieldType := fun k => match k with
  | 0 => .array .char
  | _ => .int
theorem nmX3 : ∀ a, a < 2 → ∀ b, b < 2 → a ≠ b → (TX3 a).2.1 ≠ (TX3 b).2.1 := by decide +kernel
theorem tyX3_ok : ∀ k, k < 2 → parseFieldDescriptor (TX3 k).2.2.1 = some (tyX3 k) := by decide +kernel
abbrev cX3_init : ByteArray := prog_5_method_1_code
def yX3_init : MethodName := ⟨RX3, "<init>", "()V"⟩
abbrev cX3_length : ByteArray := prog_5_method_2_code
def yX3_length : MethodName := ⟨RX3, "length", "()I"⟩
abbrev cX3_letter : ByteArray := prog_5_method_3_code
def yX3_letter : MethodName := ⟨RX3, "letter", "(I)I"⟩
abbrev cX3_clear : ByteArray := prog_5_method_4_code
def yX3_clear : MethodName := ⟨RX3, "clear", "()V"⟩
abbrev cX3_add : ByteArray := prog_5_method_5_code
def yX3_add : MethodName := ⟨RX3, "add", "(J)I"⟩
abbrev cX3_lettersTold : ByteArray := prog_5_method_6_code
def yX3_lettersTold : MethodName := ⟨RX3, "lettersTold", "(J)I"⟩
abbrev cX3_codeAt : ByteArray := prog_5_method_7_code
def yX3_codeAt : MethodName := ⟨RX3, "codeAt", "(JI)I"⟩
abbrev cX3_wayFault : ByteArray := prog_5_method_9_code
def yX3_wayFault : MethodName := ⟨RX3, "wayFault", "()I"⟩
abbrev cX3_wayAt : ByteArray := prog_5_method_10_code
def yX3_wayAt : MethodName := ⟨RX3, "wayAt", "(I)I"⟩
def RX4 : String := "IslandThatLeans$PlanText"
def TX4 : u_T := fun k => match k with
  | 0 => ("IslandThatLeans$PlanText", "rows", "I", false)
  | 1 => ("IslandThatLeans$PlanText", "columns", "I", false)
  | _ => ("IslandThatLeans$PlanText", "inRow", "I", false)
def tyX4 : Nat → FieldType := fun k => match k with
  | 0 => .int
  | 1 => .int
  | _ => .int
theorem nmX4 : ∀ a, a < 3 → ∀ b, b < 3 → a ≠ b → (TX4 a).2.1 ≠ (TX4 b).2.1 := by decide +kernel
theorem tyX4_ok : ∀ k, k < 3 → parseFieldDescriptor (TX4 k).2.2.1 = some (tyX4 k) := by decide +kernel
abbrev cX4_init : ByteArray := prog_6_method_1_code
def yX4_init : MethodName := ⟨RX4, "<init>", "()V"⟩
abbrev cX4_rows : ByteArray := prog_6_method_2_code
def yX4_rows : MethodName := ⟨RX4, "rows", "()I"⟩
abbrev cX4_columns : ByteArray := prog_6_method_3_code
def yX4_columns : MethodName := ⟨RX4, "columns", "()I"⟩
abbrev cX4_isWhole : ByteArray := prog_6_method_4_code
def yX4_isWhole : MethodName := ⟨RX4, "isWhole", "(LIslandThatLeans$Page;)Z"⟩
abbrev cX4_faultIn : ByteArray := prog_6_method_5_code
def yX4_faultIn : MethodName := ⟨RX4, "faultIn", "(LIslandThatLeans$Page;)I"⟩
abbrev cX4_takes : ByteArray := prog_6_method_6_code
def yX4_takes : MethodName := ⟨RX4, "takes", "(I)Z"⟩
abbrev cX4_endsRow : ByteArray := prog_6_method_7_code
def yX4_endsRow : MethodName := ⟨RX4, "endsRow", "()Z"⟩
def RX5 : String := "IslandThatLeans$Processions"
def TX5 : u_T := fun k => match k with
  | 0 => ("IslandThatLeans$Processions", "page", "LIslandThatLeans$Page;", true)
  | 1 => ("IslandThatLeans$Processions", "island", "LIslandThatLeans$Island;", true)
  | 2 => ("IslandThatLeans$Processions", "day", "LIslandThatLeans$Day;", true)
  | 3 => ("IslandThatLeans$Processions", "first", "[I", true)
  | 4 => ("IslandThatLeans$Processions", "second", "[I", true)
  | 5 => ("IslandThatLeans$Processions", "start", "I", false)
  | _ => ("IslandThatLeans$Processions", "wetDoors", "I", false)
def tyX5 : Nat → FieldType := fun k => match k with
  | 0 => .object "IslandThatLeans$Page"
  | 1 => .object "IslandThatLeans$Island"
  | 2 => .object "IslandThatLeans$Day"
  | 3 => .array .int
  | 4 => .array .int
  | 5 => .int
  | _ => .int
theorem nmX5 : ∀ a, a < 7 → ∀ b, b < 7 → a ≠ b → (TX5 a).2.1 ≠ (TX5 b).2.1 := by decide +kernel
theorem tyX5_ok : ∀ k, k < 7 → parseFieldDescriptor (TX5 k).2.2.1 = some (tyX5 k) := by decide +kernel
abbrev cX5_init : ByteArray := prog_7_method_1_code
def yX5_init : MethodName := ⟨RX5, "<init>", "(LIslandThatLeans$Page;LIslandThatLeans$Island;LIslandThatLeans$Day;)V"⟩
def RX6 : String := "IslandThatLeans$Spots"
def TX6 : u_T := fun k => match k with
  | 0 => ("IslandThatLeans$Spots", "island", "LIslandThatLeans$Island;", true)
  | 1 => ("IslandThatLeans$Spots", "things", "LIslandThatLeans$Things;", true)
  | 2 => ("IslandThatLeans$Spots", "squares", "[I", true)
  | _ => ("IslandThatLeans$Spots", "seed", "J", false)
def tyX6 : Nat → FieldType := fun k => match k with
  | 0 => .object "IslandThatLeans$Island"
  | 1 => .object "IslandThatLeans$Things"
  | 2 => .array .int
  | _ => .long
theorem nmX6 : ∀ a, a < 4 → ∀ b, b < 4 → a ≠ b → (TX6 a).2.1 ≠ (TX6 b).2.1 := by decide +kernel
theorem tyX6_ok : ∀ k, k < 4 → parseFieldDescriptor (TX6 k).2.2.1 = some (tyX6 k) := by decide +kernel
abbrev cX6_init : ByteArray := prog_8_method_1_code
def yX6_init : MethodName := ⟨RX6, "<init>", "(LIslandThatLeans$Island;LIslandThatLeans$Things;)V"⟩
def RX7 : String := "IslandThatLeans$Stones"
def TX7 : u_T := fun k => match k with
  | 0 => ("IslandThatLeans$Stones", "island", "LIslandThatLeans$Island;", true)
  | 1 => ("IslandThatLeans$Stones", "things", "LIslandThatLeans$Things;", true)
  | 2 => ("IslandThatLeans$Stones", "day", "LIslandThatLeans$Day;", true)
  | 3 => ("IslandThatLeans$Stones", "found", "[I", true)
  | 4 => ("IslandThatLeans$Stones", "rooms", "[I", true)
  | _ => ("IslandThatLeans$Stones", "lastWet", "I", false)
def tyX7 : Nat → FieldType := fun k => match k with
  | 0 => .object "IslandThatLeans$Island"
  | 1 => .object "IslandThatLeans$Things"
  | 2 => .object "IslandThatLeans$Day"
  | 3 => .array .int
  | 4 => .array .int
  | _ => .int
theorem nmX7 : ∀ a, a < 6 → ∀ b, b < 6 → a ≠ b → (TX7 a).2.1 ≠ (TX7 b).2.1 := by decide +kernel
theorem tyX7_ok : ∀ k, k < 6 → parseFieldDescriptor (TX7 k).2.2.1 = some (tyX7 k) := by decide +kernel
abbrev cX7_init : ByteArray := prog_9_method_1_code
def yX7_init : MethodName := ⟨RX7, "<init>", "(LIslandThatLeans$Island;LIslandThatLeans$Things;LIslandThatLeans$Day;)V"⟩
def RX8 : String := "IslandThatLeans$Things"
def TX8 : u_T := fun k => match k with
  | 0 => ("IslandThatLeans$Things", "kinds", "[I", true)
  | 1 => ("IslandThatLeans$Things", "weights", "[I", true)
  | 2 => ("IslandThatLeans$Things", "places", "[I", true)
  | 3 => ("IslandThatLeans$Things", "keptPlaces", "[I", true)
  | 4 => ("IslandThatLeans$Things", "size", "I", false)
  | _ => ("IslandThatLeans$Things", "keptSize", "I", false)
def tyX8 : Nat → FieldType := fun k => match k with
  | 0 => .array .int
  | 1 => .array .int
  | 2 => .array .int
  | 3 => .array .int
  | 4 => .int
  | _ => .int
theorem nmX8 : ∀ a, a < 6 → ∀ b, b < 6 → a ≠ b → (TX8 a).2.1 ≠ (TX8 b).2.1 := by decide +kernel
theorem tyX8_ok : ∀ k, k < 6 → parseFieldDescriptor (TX8 k).2.2.1 = some (tyX8 k) := by decide +kernel
abbrev cX8_init : ByteArray := prog_10_method_1_code
def yX8_init : MethodName := ⟨RX8, "<init>", "()V"⟩
abbrev cX8_clear : ByteArray := prog_10_method_2_code
def yX8_clear : MethodName := ⟨RX8, "clear", "()V"⟩
abbrev cX8_size : ByteArray := prog_10_method_3_code
def yX8_size : MethodName := ⟨RX8, "size", "()I"⟩
abbrev cX8_has : ByteArray := prog_10_method_4_code
def yX8_has : MethodName := ⟨RX8, "has", "(I)Z"⟩
abbrev cX8_add : ByteArray := prog_10_method_5_code
def yX8_add : MethodName := ⟨RX8, "add", "(III)I"⟩
abbrev cX8_kind : ByteArray := prog_10_method_6_code
def yX8_kind : MethodName := ⟨RX8, "kind", "(I)I"⟩
abbrev cX8_weight : ByteArray := prog_10_method_7_code
def yX8_weight : MethodName := ⟨RX8, "weight", "(I)I"⟩
abbrev cX8_weighs : ByteArray := prog_10_method_8_code
def yX8_weighs : MethodName := ⟨RX8, "weighs", "(I)I"⟩
abbrev cX8_isA : ByteArray := prog_10_method_9_code
def yX8_isA : MethodName := ⟨RX8, "isA", "(II)Z"⟩
abbrev cX8_people : ByteArray := prog_10_method_10_code
def yX8_people : MethodName := ⟨RX8, "people", "()I"⟩
abbrev cX8_peopleBits : ByteArray := prog_10_method_11_code
def yX8_peopleBits : MethodName := ⟨RX8, "peopleBits", "()I"⟩
abbrev cX8_place : ByteArray := prog_10_method_12_code
def yX8_place : MethodName := ⟨RX8, "place", "(II)I"⟩
abbrev cX8_move : ByteArray := prog_10_method_13_code
def yX8_move : MethodName := ⟨RX8, "move", "(III)V"⟩
abbrev cX8_moveAllDay : ByteArray := prog_10_method_14_code
def yX8_moveAllDay : MethodName := ⟨RX8, "moveAllDay", "(II)V"⟩
def RX9 : String := "IslandThatLeans$Trades"
def TX9 : u_T := fun k => match k with
  | 0 => ("IslandThatLeans$Trades", "island", "LIslandThatLeans$Island;", true)
  | 1 => ("IslandThatLeans$Trades", "things", "LIslandThatLeans$Things;", true)
  | 2 => ("IslandThatLeans$Trades", "day", "LIslandThatLeans$Day;", true)
  | 3 => ("IslandThatLeans$Trades", "people", "[I", true)
  | 4 => ("IslandThatLeans$Trades", "squares", "[I", true)
  | 5 => ("IslandThatLeans$Trades", "taken", "[I", true)
  | 6 => ("IslandThatLeans$Trades", "best", "[I", true)
  | 7 => ("IslandThatLeans$Trades", "size", "I", false)
  | 8 => ("IslandThatLeans$Trades", "anyFound", "Z", false)
  | 9 => ("IslandThatLeans$Trades", "wetDoors", "I", false)
  | _ => ("IslandThatLeans$Trades", "elsewhere", "I", false)
def tyX9 : Nat → FieldType := fun k => match k with
  | 0 => .object "IslandThatLeans$Island"
  | 1 => .object "IslandThatLeans$Things"
  | 2 => .object "IslandThatLeans$Day"
  | 3 => .array .int
  | 4 => .array .int
  | 5 => .array .int
  | 6 => .array .int
  | 7 => .int
  | 8 => .boolean
  | 9 => .int
  | _ => .int
theorem nmX9 : ∀ a, a < 11 → ∀ b, b < 11 → a ≠ b → (TX9 a).2.1 ≠ (TX9 b).2.1 := by decide +kernel
theorem tyX9_ok : ∀ k, k < 11 → parseFieldDescriptor (TX9 k).2.2.1 = some (tyX9 k) := by decide +kernel
abbrev cX9_init : ByteArray := prog_11_method_1_code
def yX9_init : MethodName := ⟨RX9, "<init>", "(LIslandThatLeans$Island;LIslandThatLeans$Things;LIslandThatLeans$Day;)V"⟩
def RX10 : String := "IslandThatLeans"
def TX10 : u_T := fun k => match k with
  | 0 => ("IslandThatLeans", "page", "LIslandThatLeans$Page;", true)
  | 1 => ("IslandThatLeans", "planText", "LIslandThatLeans$PlanText;", true)
  | 2 => ("IslandThatLeans", "island", "LIslandThatLeans$Island;", true)
  | 3 => ("IslandThatLeans", "things", "LIslandThatLeans$Things;", true)
  | 4 => ("IslandThatLeans", "day", "LIslandThatLeans$Day;", true)
  | 5 => ("IslandThatLeans", "processions", "LIslandThatLeans$Processions;", true)
  | 6 => ("IslandThatLeans", "trades", "LIslandThatLeans$Trades;", true)
  | 7 => ("IslandThatLeans", "stones", "LIslandThatLeans$Stones;", true)
  | 8 => ("IslandThatLeans", "lates", "LIslandThatLeans$Lates;", true)
  | 9 => ("IslandThatLeans", "spots", "LIslandThatLeans$Spots;", true)
  | 10 => ("IslandThatLeans", "plansRead", "I", false)
  | 11 => ("IslandThatLeans", "tradesDone", "I", false)
  | _ => ("IslandThatLeans", "stonesDone", "I", false)
def tyX10 : Nat → FieldType := fun k => match k with
  | 0 => .object "IslandThatLeans$Page"
  | 1 => .object "IslandThatLeans$PlanText"
  | 2 => .object "IslandThatLeans$Island"
  | 3 => .object "IslandThatLeans$Things"
  | 4 => .object "IslandThatLeans$Day"
  | 5 => .object "IslandThatLeans$Processions"
  | 6 => .object "IslandThatLeans$Trades"
  | 7 => .object "IslandThatLeans$Stones"
  | 8 => .object "IslandThatLeans$Lates"
  | 9 => .object "IslandThatLeans$Spots"
  | 10 => .int
  | 11 => .int
  | _ => .int
theorem nmX10 : ∀ a, a < 13 → ∀ b, b < 13 → a ≠ b → (TX10 a).2.1 ≠ (TX10 b).2.1 := by decide +kernel
theorem tyX10_ok : ∀ k, k < 13 → parseFieldDescriptor (TX10 k).2.2.1 = some (tyX10 k) := by decide +kernel
abbrev cX10_init : ByteArray := prog_1_method_1_code
def yX10_init : MethodName := ⟨RX10, "<init>", "()V"⟩
abbrev cX10_letters : ByteArray := prog_1_method_2_code
def yX10_letters : MethodName := ⟨RX10, "letters", "(J)I"⟩
abbrev cX10_fault : ByteArray := prog_1_method_4_code
def yX10_fault : MethodName := ⟨RX10, "fault", "(I)I"⟩
abbrev cX10_plan : ByteArray := prog_1_method_5_code
def yX10_plan : MethodName := ⟨RX10, "plan", "()I"⟩
abbrev cX10_thing : ByteArray := prog_1_method_7_code
def yX10_thing : MethodName := ⟨RX10, "thing", "(III)I"⟩
abbrev cX10_about : ByteArray := prog_1_method_8_code
def yX10_about : MethodName := ⟨RX10, "about", "(II)I"⟩
abbrev cX10_as : ByteArray := prog_1_method_9_code
def yX10_as : MethodName := ⟨RX10, "as", "(II)I"⟩
abbrev cX10_stand : ByteArray := prog_1_method_10_code
def yX10_stand : MethodName := ⟨RX10, "stand", "(III)I"⟩
abbrev cX10_put : ByteArray := prog_1_method_11_code
def yX10_put : MethodName := ⟨RX10, "put", "(II)I"⟩
abbrev cX10_trade : ByteArray := prog_1_method_12_code
def yX10_trade : MethodName := ⟨RX10, "trade", "(III)I"⟩
abbrev cX10_leans : ByteArray := prog_1_method_13_code
def yX10_leans : MethodName := ⟨RX10, "leans", "(II)I"⟩
abbrev cX10_dip : ByteArray := prog_1_method_14_code
def yX10_dip : MethodName := ⟨RX10, "dip", "(II)I"⟩
abbrev cX10_wet : ByteArray := prog_1_method_15_code
def yX10_wet : MethodName := ⟨RX10, "wet", "(I)I"⟩
abbrev cX10_late : ByteArray := prog_1_method_20_code
def yX10_late : MethodName := ⟨RX10, "late", "(III)I"⟩
abbrev cX10_count : ByteArray := prog_1_method_26_code
def yX10_count : MethodName := ⟨RX10, "count", "(I)I"⟩
abbrev cX10_isQuarter : ByteArray := prog_1_method_31_code
def yX10_isQuarter : MethodName := ⟨RX10, "isQuarter", "(I)Z"⟩
abbrev cX10_isKind : ByteArray := prog_1_method_32_code
def yX10_isKind : MethodName := ⟨RX10, "isKind", "(I)Z"⟩
abbrev cX10_isWeight : ByteArray := prog_1_method_33_code
def yX10_isWeight : MethodName := ⟨RX10, "isWeight", "(I)Z"⟩
abbrev cX10_asksPlace : ByteArray := prog_1_method_34_code
def yX10_asksPlace : MethodName := ⟨RX10, "asksPlace", "(I)Z"⟩
def RX11 : String := "IslandThatLeansModel"
def TX11 : u_T := fun k => match k with
  | _ => ("", "", "", false)
def tyX11 : Nat → FieldType := fun k => match k with
  | _ => .int
theorem nmX11 : ∀ a, a < 0 → ∀ b, b < 0 → a ≠ b → (TX11 a).2.1 ≠ (TX11 b).2.1 := by decide +kernel
theorem tyX11_ok : ∀ k, k < 0 → parseFieldDescriptor (TX11 k).2.2.1 = some (tyX11 k) := by decide +kernel
def RJ6 : String := "java/lang/Integer"
def TJ6 : u_T := fun k => match k with
  | _ => ("", "", "", false)
def tyJ6 : Nat → FieldType := fun k => match k with
  | _ => .int
theorem nmJ6 : ∀ a, a < 0 → ∀ b, b < 0 → a ≠ b → (TJ6 a).2.1 ≠ (TJ6 b).2.1 := by decide +kernel
theorem tyJ6_ok : ∀ k, k < 0 → parseFieldDescriptor (TJ6 k).2.2.1 = some (tyJ6 k) := by decide +kernel
abbrev cJ6_bitCount_0f7a4 : ByteArray := prog_14_method_49_code
def yJ6_bitCount_0f7a4 : MethodName := ⟨RJ6, "bitCount", "(I)I"⟩
def RL : String := "IslandThatLeansLaw"
abbrev cL_cell : ByteArray := method_2_code
def yL_cell : MethodName := ⟨RL, "cell", "([II)I"⟩
abbrev cL_put : ByteArray := method_3_code
def yL_put : MethodName := ⟨RL, "put", "(LIslandThatLeans;I)Z"⟩
abbrev cL_plan : ByteArray := method_4_code
def yL_plan : MethodName := ⟨RL, "plan", "(LIslandThatLeans;[III[I[I)Z"⟩
abbrev cL_things : ByteArray := method_5_code
def yL_things : MethodName := ⟨RL, "things", "(LIslandThatLeans;[III[I[I)Z"⟩
abbrev cL_weighs : ByteArray := method_6_code
def yL_weighs : MethodName := ⟨RL, "weighs", "([II)I"⟩
abbrev cL_east : ByteArray := method_7_code
def yL_east : MethodName := ⟨RL, "east", "([II)I"⟩
abbrev cL_south : ByteArray := method_8_code
def yL_south : MethodName := ⟨RL, "south", "([II)I"⟩
abbrev cL_wet : ByteArray := method_9_code
def yL_wet : MethodName := ⟨RL, "wet", "([I[III)I"⟩
abbrev cL_wetAt : ByteArray := method_11_code
def yL_wetAt : MethodName := ⟨RL, "wetAt", "([I[I[II[I)I"⟩
abbrev cL_law : ByteArray := code
def yL_law : MethodName := ⟨RL, "law", "([I)Z"⟩

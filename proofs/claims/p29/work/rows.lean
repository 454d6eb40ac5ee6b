section
-- ===== PART A: goes FIRST, ahead of the names: the tables' words, and 'selects' of the private methods out of them =====
/-- a private method of a class that the tables say can be made, by its rows of tables_1 -/
def lw_okq (q : MethodName × Nat) : Prop := (q.1.cls ≠ "java/lang/invoke/MethodHandle" ∧ q.1.cls ≠ "java/lang/invoke/VarHandle") ∧ Cond.instantiable q.1.cls q.2 ∈ tables_1 ∧ Cond.privateMethod q.1 ∈ tables_1 ∧ Cond.instanceMethod q.1 ∈ tables_1
theorem lw_p0 : lw_okq (⟨"IslandThatLeans$Lates", "measureChanges", "(I)V"⟩, 6) := ⟨⟨by decide +kernel, by decide +kernel⟩, List.mem_of_getElem? (i := 211) (by decide +kernel), List.mem_of_getElem? (i := 431) (by decide +kernel), List.mem_of_getElem? (i := 432) (by decide +kernel)⟩
theorem lw_p1 : lw_okq (⟨"IslandThatLeans$Lates", "wetDoorsIfLate", "(III)I"⟩, 6) := ⟨⟨by decide +kernel, by decide +kernel⟩, List.mem_of_getElem? (i := 211) (by decide +kernel), List.mem_of_getElem? (i := 446) (by decide +kernel), List.mem_of_getElem? (i := 447) (by decide +kernel)⟩
theorem lw_p2 : lw_okq (⟨"IslandThatLeans$PlanText", "takes", "(I)Z"⟩, 3) := ⟨⟨by decide +kernel, by decide +kernel⟩, List.mem_of_getElem? (i := 36) (by decide +kernel), List.mem_of_getElem? (i := 521) (by decide +kernel), List.mem_of_getElem? (i := 522) (by decide +kernel)⟩
theorem lw_p3 : lw_okq (⟨"IslandThatLeans$PlanText", "endsRow", "()Z"⟩, 3) := ⟨⟨by decide +kernel, by decide +kernel⟩, List.mem_of_getElem? (i := 36) (by decide +kernel), List.mem_of_getElem? (i := 525) (by decide +kernel), List.mem_of_getElem? (i := 526) (by decide +kernel)⟩
theorem lw_p4 : lw_okq (⟨"IslandThatLeans$Island", "addSquare", "(III)V"⟩, 7) := ⟨⟨by decide +kernel, by decide +kernel⟩, List.mem_of_getElem? (i := 52) (by decide +kernel), List.mem_of_getElem? (i := 561) (by decide +kernel), List.mem_of_getElem? (i := 562) (by decide +kernel)⟩
def lw_privs_1 : List (MethodName × Nat) := [(⟨"IslandThatLeans$Lates", "measureChanges", "(I)V"⟩, 6), (⟨"IslandThatLeans$Lates", "wetDoorsIfLate", "(III)I"⟩, 6), (⟨"IslandThatLeans$PlanText", "takes", "(I)Z"⟩, 3), (⟨"IslandThatLeans$PlanText", "endsRow", "()Z"⟩, 3), (⟨"IslandThatLeans$Island", "addSquare", "(III)V"⟩, 7)]
theorem lw_r1 : ∀ q ∈ lw_privs_1, lw_okq q := List.forall_mem_cons.mpr ⟨lw_p0, List.forall_mem_cons.mpr ⟨lw_p1, List.forall_mem_cons.mpr ⟨lw_p2, List.forall_mem_cons.mpr ⟨lw_p3, List.forall_mem_cons.mpr ⟨lw_p4, fun _ h => absurd h List.not_mem_nil⟩⟩⟩⟩⟩
def lw_privs : List (MethodName × Nat) := lw_privs_1
def lw_tbl : List Cond := k2_sels lw_privs ++ tables_1
theorem lw_privs_ok : ∀ q ∈ lw_privs, lw_okq q := lw_r1
-- ===== end of PART A; then your names; then what follows =====
def RX0 : String := "IslandThatLeans$Day"
def TX0 : u_T := fun k => match k with
  | 0 => ("IslandThatLeans$Day", "island", "LIslandThatLeans$Island;", true)
  | 1 => ("IslandThatLeans$Day", "things", "LIslandThatLeans$Things;", true)
  | 2 => ("IslandThatLeans$Day", "easts", "[I", true)
  | _ => ("IslandThatLeans$Day", "souths", "[I", true)
def tyX0 : Nat → FieldType := fun k => match k with
  | 0 => .object "IslandThatLeans$Island"
  | 1 => .object "IslandThatLeans$Things"
  | 2 => .array .int
  | _ => .array .int
theorem nmX0 : ∀ a, a < 4 → ∀ b, b < 4 → a ≠ b → (TX0 a).2.1 ≠ (TX0 b).2.1 := by decide +kernel
theorem tyX0_ok : ∀ k, k < 4 → parseFieldDescriptor (TX0 k).2.2.1 = some (tyX0 k) := by decide +kernel
abbrev cX0_init : ByteArray := prog_2_method_1_code
def yX0_init : MethodName := ⟨RX0, "<init>", "(LIslandThatLeans$Island;LIslandThatLeans$Things;)V"⟩
abbrev cX0_leanEast : ByteArray := prog_2_method_2_code
def yX0_leanEast : MethodName := ⟨RX0, "leanEast", "(I)I"⟩
abbrev cX0_leanSouth : ByteArray := prog_2_method_3_code
def yX0_leanSouth : MethodName := ⟨RX0, "leanSouth", "(I)I"⟩
abbrev cX0_wetIn : ByteArray := prog_2_method_4_code
def yX0_wetIn : MethodName := ⟨RX0, "wetIn", "(I)I"⟩
def RX1 : String := "IslandThatLeans$Island"
def TX1 : u_T := fun k => match k with
  | 0 => ("IslandThatLeans$Island", "heights", "[I", true)
  | 1 => ("IslandThatLeans$Island", "easts", "[I", true)
  | 2 => ("IslandThatLeans$Island", "souths", "[I", true)
  | 3 => ("IslandThatLeans$Island", "rows", "I", false)
  | 4 => ("IslandThatLeans$Island", "columns", "I", false)
  | 5 => ("IslandThatLeans$Island", "squares", "I", false)
  | _ => ("IslandThatLeans$Island", "doors", "I", false)
def tyX1 : Nat → FieldType := fun k => match k with
  | 0 => .array .int
  | 1 => .array .int
  | 2 => .array .int
  | 3 => .int
  | 4 => .int
  | 5 => .int
  | _ => .int
theorem nmX1 : ∀ a, a < 7 → ∀ b, b < 7 → a ≠ b → (TX1 a).2.1 ≠ (TX1 b).2.1 := by decide +kernel
theorem tyX1_ok : ∀ k, k < 7 → parseFieldDescriptor (TX1 k).2.2.1 = some (tyX1 k) := by decide +kernel
abbrev cX1_init : ByteArray := prog_3_method_1_code
def yX1_init : MethodName := ⟨RX1, "<init>", "()V"⟩
abbrev cX1_read : ByteArray := prog_3_method_2_code
def yX1_read : MethodName := ⟨RX1, "read", "(LIslandThatLeans$Page;II)V"⟩
abbrev cX1_addSquare : ByteArray := prog_3_method_3_code
def yX1_addSquare : MethodName := ⟨RX1, "addSquare", "(III)V"⟩
abbrev cX1_fromCentre : ByteArray := prog_3_method_4_code
def yX1_fromCentre : MethodName := ⟨RX1, "fromCentre", "(II)I"⟩
abbrev cX1_isThere : ByteArray := prog_3_method_5_code
def yX1_isThere : MethodName := ⟨RX1, "isThere", "()Z"⟩
abbrev cX1_squares : ByteArray := prog_3_method_6_code
def yX1_squares : MethodName := ⟨RX1, "squares", "()I"⟩
abbrev cX1_doors : ByteArray := prog_3_method_7_code
def yX1_doors : MethodName := ⟨RX1, "doors", "()I"⟩
abbrev cX1_has : ByteArray := prog_3_method_8_code
def yX1_has : MethodName := ⟨RX1, "has", "(I)Z"⟩
abbrev cX1_hasAll : ByteArray := prog_3_method_9_code
def yX1_hasAll : MethodName := ⟨RX1, "hasAll", "(I)Z"⟩
abbrev cX1_east : ByteArray := prog_3_method_11_code
def yX1_east : MethodName := ⟨RX1, "east", "(I)I"⟩
abbrev cX1_south : ByteArray := prog_3_method_12_code
def yX1_south : MethodName := ⟨RX1, "south", "(I)I"⟩
abbrev cX1_dipOf : ByteArray := prog_3_method_13_code
def yX1_dipOf : MethodName := ⟨RX1, "dipOf", "(III)I"⟩
abbrev cX1_wetDoors : ByteArray := prog_3_method_14_code
def yX1_wetDoors : MethodName := ⟨RX1, "wetDoors", "(II)I"⟩
def RX2 : String := "IslandThatLeans$Lates"
def TX2 : u_T := fun k => match k with
  | 0 => ("IslandThatLeans$Lates", "island", "LIslandThatLeans$Island;", true)
  | 1 => ("IslandThatLeans$Lates", "things", "LIslandThatLeans$Things;", true)
  | 2 => ("IslandThatLeans$Lates", "day", "LIslandThatLeans$Day;", true)
  | 3 => ("IslandThatLeans$Lates", "found", "[I", true)
  | 4 => ("IslandThatLeans$Lates", "easts", "[I", true)
  | _ => ("IslandThatLeans$Lates", "souths", "[I", true)
def tyX2 : Nat → FieldType := fun k => match k with
  | 0 => .object "IslandThatLeans$Island"
  | 1 => .object "IslandThatLeans$Things"
  | 2 => .object "IslandThatLeans$Day"
  | 3 => .array .int
  | 4 => .array .int
  | _ => .array .int
theorem nmX2 : ∀ a, a < 6 → ∀ b, b < 6 → a ≠ b → (TX2 a).2.1 ≠ (TX2 b).2.1 := by decide +kernel
theorem tyX2_ok : ∀ k, k < 6 → parseFieldDescriptor (TX2 k).2.2.1 = some (tyX2 k) := by decide +kernel
abbrev cX2_init : ByteArray := prog_4_method_1_code
def yX2_init : MethodName := ⟨RX2, "<init>", "(LIslandThatLeans$Island;LIslandThatLeans$Things;LIslandThatLeans$Day;)V"⟩
abbrev cX2_found : ByteArray := prog_4_method_2_code
def yX2_found : MethodName := ⟨RX2, "found", "(I)I"⟩
abbrev cX2_search : ByteArray := prog_4_method_3_code
def yX2_search : MethodName := ⟨RX2, "search", "(II)V"⟩
abbrev cX2_measureChanges : ByteArray := prog_4_method_4_code
def yX2_measureChanges : MethodName := ⟨RX2, "measureChanges", "(I)V"⟩
abbrev cX2_wetDoorsIfLate : ByteArray := prog_4_method_5_code
def yX2_wetDoorsIfLate : MethodName := ⟨RX2, "wetDoorsIfLate", "(III)I"⟩
def RX3 : String := "IslandThatLeans$Page"
def TX3 : u_T := fun k => match k with
  | 0 => ("IslandThatLeans$Page", "signs", "[C", true)
  | _ => ("IslandThatLeans$Page", "length", "I", false)
def tyX3 : Nat → FieldType := fun k => match k with
  | 0 => .array .char
  | _ => .int
theorem nmX3 : ∀ a, a < 2 → ∀ b, b < 2 → a ≠ b → (TX3 a).2.1 ≠ (TX3 b).2.1 := by decide +kernel
theorem tyX3_ok : ∀ k, k < 2 → parseFieldDescriptor (TX3 k).2.2.1 = some (tyX3 k) := by decide +kernel
abbrev cX3_init : ByteArray := prog_5_method_1_code
def yX3_init : MethodName := ⟨RX3, "<init>", "()V"⟩
abbrev cX3_length : ByteArray := prog_5_method_2_code
def yX3_length : MethodName := ⟨RX3, "length", "()I"⟩
abbrev cX3_letter : ByteArray := prog_5_method_3_code
def yX3_letter : MethodName := ⟨RX3, "letter", "(I)I"⟩
abbrev cX3_clear : ByteArray := prog_5_method_4_code
def yX3_clear : MethodName := ⟨RX3, "clear", "()V"⟩
abbrev cX3_add : ByteArray := prog_5_method_5_code
def yX3_add : MethodName := ⟨RX3, "add", "(J)I"⟩
abbrev cX3_lettersTold : ByteArray := prog_5_method_6_code
def yX3_lettersTold : MethodName := ⟨RX3, "lettersTold", "(J)I"⟩
abbrev cX3_codeAt : ByteArray := prog_5_method_7_code
def yX3_codeAt : MethodName := ⟨RX3, "codeAt", "(JI)I"⟩
abbrev cX3_wayFault : ByteArray := prog_5_method_9_code
def yX3_wayFault : MethodName := ⟨RX3, "wayFault", "()I"⟩
abbrev cX3_wayAt : ByteArray := prog_5_method_10_code
def yX3_wayAt : MethodName := ⟨RX3, "wayAt", "(I)I"⟩
def RX4 : String := "IslandThatLeans$PlanText"
def TX4 : u_T := fun k => match k with
  | 0 => ("IslandThatLeans$PlanText", "rows", "I", false)
  | 1 => ("IslandThatLeans$PlanText", "columns", "I", false)
  | _ => ("IslandThatLeans$PlanText", "inRow", "I", false)
def tyX4 : Nat → FieldType := fun k => match k with
  | 0 => .int
  | 1 => .int
  | _ => .int
theorem nmX4 : ∀ a, a < 3 → ∀ b, b < 3 → a ≠ b → (TX4 a).2.1 ≠ (TX4 b).2.1 := by decide +kernel
theorem tyX4_ok : ∀ k, k < 3 → parseFieldDescriptor (TX4 k).2.2.1 = some (tyX4 k) := by decide +kernel
abbrev cX4_init : ByteArray := prog_6_method_1_code
def yX4_init : MethodName := ⟨RX4, "<init>", "()V"⟩
abbrev cX4_rows : ByteArray := prog_6_method_2_code
def yX4_rows : MethodName := ⟨RX4, "rows", "()I"⟩
abbrev cX4_columns : ByteArray := prog_6_method_3_code
def yX4_columns : MethodName := ⟨RX4, "columns", "()I"⟩
abbrev cX4_isWhole : ByteArray := prog_6_method_4_code
def yX4_isWhole : MethodName := ⟨RX4, "isWhole", "(LIslandThatLeans$Page;)Z"⟩
abbrev cX4_faultIn : ByteArray := prog_6_method_5_code
def yX4_faultIn : MethodName := ⟨RX4, "faultIn", "(LIslandThatLeans$Page;)I"⟩
abbrev cX4_takes : ByteArray := prog_6_method_6_code
def yX4_takes : MethodName := ⟨RX4, "takes", "(I)Z"⟩
abbrev cX4_endsRow : ByteArray := prog_6_method_7_code
def yX4_endsRow : MethodName := ⟨RX4, "endsRow", "()Z"⟩
def RX5 : String := "IslandThatLeans$Processions"
def TX5 : u_T := fun k => match k with
  | 0 => ("IslandThatLeans$Processions", "page", "LIslandThatLeans$Page;", true)
  | 1 => ("IslandThatLeans$Processions", "island", "LIslandThatLeans$Island;", true)
  | 2 => ("IslandThatLeans$Processions", "day", "LIslandThatLeans$Day;", true)
  | 3 => ("IslandThatLeans$Processions", "first", "[I", true)
  | 4 => ("IslandThatLeans$Processions", "second", "[I", true)
  | 5 => ("IslandThatLeans$Processions", "start", "I", false)
  | _ => ("IslandThatLeans$Processions", "wetDoors", "I", false)
def tyX5 : Nat → FieldType := fun k => match k with
  | 0 => .object "IslandThatLeans$Page"
  | 1 => .object "IslandThatLeans$Island"
  | 2 => .object "IslandThatLeans$Day"
  | 3 => .array .int
  | 4 => .array .int
  | 5 => .int
  | _ => .int
theorem nmX5 : ∀ a, a < 7 → ∀ b, b < 7 → a ≠ b → (TX5 a).2.1 ≠ (TX5 b).2.1 := by decide +kernel
theorem tyX5_ok : ∀ k, k < 7 → parseFieldDescriptor (TX5 k).2.2.1 = some (tyX5 k) := by decide +kernel
abbrev cX5_init : ByteArray := prog_7_method_1_code
def yX5_init : MethodName := ⟨RX5, "<init>", "(LIslandThatLeans$Page;LIslandThatLeans$Island;LIslandThatLeans$Day;)V"⟩
def RX6 : String := "IslandThatLeans$Spots"
def TX6 : u_T := fun k => match k with
  | 0 => ("IslandThatLeans$Spots", "island", "LIslandThatLeans$Island;", true)
  | 1 => ("IslandThatLeans$Spots", "things", "LIslandThatLeans$Things;", true)
  | 2 => ("IslandThatLeans$Spots", "squares", "[I", true)
  | _ => ("IslandThatLeans$Spots", "seed", "J", false)
def tyX6 : Nat → FieldType := fun k => match k with
  | 0 => .object "IslandThatLeans$Island"
  | 1 => .object "IslandThatLeans$Things"
  | 2 => .array .int
  | _ => .long
theorem nmX6 : ∀ a, a < 4 → ∀ b, b < 4 → a ≠ b → (TX6 a).2.1 ≠ (TX6 b).2.1 := by decide +kernel
theorem tyX6_ok : ∀ k, k < 4 → parseFieldDescriptor (TX6 k).2.2.1 = some (tyX6 k) := by decide +kernel
abbrev cX6_init : ByteArray := prog_8_method_1_code
def yX6_init : MethodName := ⟨RX6, "<init>", "(LIslandThatLeans$Island;LIslandThatLeans$Things;)V"⟩
def RX7 : String := "IslandThatLeans$Stones"
def TX7 : u_T := fun k => match k with
  | 0 => ("IslandThatLeans$Stones", "island", "LIslandThatLeans$Island;", true)
  | 1 => ("IslandThatLeans$Stones", "things", "LIslandThatLeans$Things;", true)
  | 2 => ("IslandThatLeans$Stones", "day", "LIslandThatLeans$Day;", true)
  | 3 => ("IslandThatLeans$Stones", "found", "[I", true)
  | 4 => ("IslandThatLeans$Stones", "rooms", "[I", true)
  | _ => ("IslandThatLeans$Stones", "lastWet", "I", false)
def tyX7 : Nat → FieldType := fun k => match k with
  | 0 => .object "IslandThatLeans$Island"
  | 1 => .object "IslandThatLeans$Things"
  | 2 => .object "IslandThatLeans$Day"
  | 3 => .array .int
  | 4 => .array .int
  | _ => .int
theorem nmX7 : ∀ a, a < 6 → ∀ b, b < 6 → a ≠ b → (TX7 a).2.1 ≠ (TX7 b).2.1 := by decide +kernel
theorem tyX7_ok : ∀ k, k < 6 → parseFieldDescriptor (TX7 k).2.2.1 = some (tyX7 k) := by decide +kernel
abbrev cX7_init : ByteArray := prog_9_method_1_code
def yX7_init : MethodName := ⟨RX7, "<init>", "(LIslandThatLeans$Island;LIslandThatLeans$Things;LIslandThatLeans$Day;)V"⟩
def RX8 : String := "IslandThatLeans$Things"
def TX8 : u_T := fun k => match k with
  | 0 => ("IslandThatLeans$Things", "kinds", "[I", true)
  | 1 => ("IslandThatLeans$Things", "weights", "[I", true)
  | 2 => ("IslandThatLeans$Things", "places", "[I", true)
  | 3 => ("IslandThatLeans$Things", "keptPlaces", "[I", true)
  | 4 => ("IslandThatLeans$Things", "size", "I", false)
  | _ => ("IslandThatLeans$Things", "keptSize", "I", false)
def tyX8 : Nat → FieldType := fun k => match k with
  | 0 => .array .int
  | 1 => .array .int
  | 2 => .array .int
  | 3 => .array .int
  | 4 => .int
  | _ => .int
theorem nmX8 : ∀ a, a < 6 → ∀ b, b < 6 → a ≠ b → (TX8 a).2.1 ≠ (TX8 b).2.1 := by decide +kernel
theorem tyX8_ok : ∀ k, k < 6 → parseFieldDescriptor (TX8 k).2.2.1 = some (tyX8 k) := by decide +kernel
abbrev cX8_init : ByteArray := prog_10_method_1_code
def yX8_init : MethodName := ⟨RX8, "<init>", "()V"⟩
abbrev cX8_clear : ByteArray := prog_10_method_2_code
def yX8_clear : MethodName := ⟨RX8, "clear", "()V"⟩
abbrev cX8_size : ByteArray := prog_10_method_3_code
def yX8_size : MethodName := ⟨RX8, "size", "()I"⟩
abbrev cX8_has : ByteArray := prog_10_method_4_code
def yX8_has : MethodName := ⟨RX8, "has", "(I)Z"⟩
abbrev cX8_add : ByteArray := prog_10_method_5_code
def yX8_add : MethodName := ⟨RX8, "add", "(III)I"⟩
abbrev cX8_kind : ByteArray := prog_10_method_6_code
def yX8_kind : MethodName := ⟨RX8, "kind", "(I)I"⟩
abbrev cX8_weight : ByteArray := prog_10_method_7_code
def yX8_weight : MethodName := ⟨RX8, "weight", "(I)I"⟩
abbrev cX8_weighs : ByteArray := prog_10_method_8_code
def yX8_weighs : MethodName := ⟨RX8, "weighs", "(I)I"⟩
abbrev cX8_isA : ByteArray := prog_10_method_9_code
def yX8_isA : MethodName := ⟨RX8, "isA", "(II)Z"⟩
abbrev cX8_people : ByteArray := prog_10_method_10_code
def yX8_people : MethodName := ⟨RX8, "people", "()I"⟩
abbrev cX8_peopleBits : ByteArray := prog_10_method_11_code
def yX8_peopleBits : MethodName := ⟨RX8, "peopleBits", "()I"⟩
abbrev cX8_place : ByteArray := prog_10_method_12_code
def yX8_place : MethodName := ⟨RX8, "place", "(II)I"⟩
abbrev cX8_move : ByteArray := prog_10_method_13_code
def yX8_move : MethodName := ⟨RX8, "move", "(III)V"⟩
abbrev cX8_moveAllDay : ByteArray := prog_10_method_14_code
def yX8_moveAllDay : MethodName := ⟨RX8, "moveAllDay", "(II)V"⟩
def RX9 : String := "IslandThatLeans$Trades"
def TX9 : u_T := fun k => match k with
  | 0 => ("IslandThatLeans$Trades", "island", "LIslandThatLeans$Island;", true)
  | 1 => ("IslandThatLeans$Trades", "things", "LIslandThatLeans$Things;", true)
  | 2 => ("IslandThatLeans$Trades", "day", "LIslandThatLeans$Day;", true)
  | 3 => ("IslandThatLeans$Trades", "people", "[I", true)
  | 4 => ("IslandThatLeans$Trades", "squares", "[I", true)
  | 5 => ("IslandThatLeans$Trades", "taken", "[I", true)
  | 6 => ("IslandThatLeans$Trades", "best", "[I", true)
  | 7 => ("IslandThatLeans$Trades", "size", "I", false)
  | 8 => ("IslandThatLeans$Trades", "anyFound", "Z", false)
  | 9 => ("IslandThatLeans$Trades", "wetDoors", "I", false)
  | _ => ("IslandThatLeans$Trades", "elsewhere", "I", false)
def tyX9 : Nat → FieldType := fun k => match k with
  | 0 => .object "IslandThatLeans$Island"
  | 1 => .object "IslandThatLeans$Things"
  | 2 => .object "IslandThatLeans$Day"
  | 3 => .array .int
  | 4 => .array .int
  | 5 => .array .int
  | 6 => .array .int
  | 7 => .int
  | 8 => .boolean
  | 9 => .int
  | _ => .int
theorem nmX9 : ∀ a, a < 11 → ∀ b, b < 11 → a ≠ b → (TX9 a).2.1 ≠ (TX9 b).2.1 := by decide +kernel
theorem tyX9_ok : ∀ k, k < 11 → parseFieldDescriptor (TX9 k).2.2.1 = some (tyX9 k) := by decide +kernel
abbrev cX9_init : ByteArray := prog_11_method_1_code
def yX9_init : MethodName := ⟨RX9, "<init>", "(LIslandThatLeans$Island;LIslandThatLeans$Things;LIslandThatLeans$Day;)V"⟩
def RX10 : String := "IslandThatLeans"
def TX10 : u_T := fun k => match k with
  | 0 => ("IslandThatLeans", "page", "LIslandThatLeans$Page;", true)
  | 1 => ("IslandThatLeans", "planText", "LIslandThatLeans$PlanText;", true)
  | 2 => ("IslandThatLeans", "island", "LIslandThatLeans$Island;", true)
  | 3 => ("IslandThatLeans", "things", "LIslandThatLeans$Things;", true)
  | 4 => ("IslandThatLeans", "day", "LIslandThatLeans$Day;", true)
  | 5 => ("IslandThatLeans", "processions", "LIslandThatLeans$Processions;", true)
  | 6 => ("IslandThatLeans", "trades", "LIslandThatLeans$Trades;", true)
  | 7 => ("IslandThatLeans", "stones", "LIslandThatLeans$Stones;", true)
  | 8 => ("IslandThatLeans", "lates", "LIslandThatLeans$Lates;", true)
  | 9 => ("IslandThatLeans", "spots", "LIslandThatLeans$Spots;", true)
  | 10 => ("IslandThatLeans", "plansRead", "I", false)
  | 11 => ("IslandThatLeans", "tradesDone", "I", false)
  | _ => ("IslandThatLeans", "stonesDone", "I", false)
def tyX10 : Nat → FieldType := fun k => match k with
  | 0 => .object "IslandThatLeans$Page"
  | 1 => .object "IslandThatLeans$PlanText"
  | 2 => .object "IslandThatLeans$Island"
  | 3 => .object "IslandThatLeans$Things"
  | 4 => .object "IslandThatLeans$Day"
  | 5 => .object "IslandThatLeans$Processions"
  | 6 => .object "IslandThatLeans$Trades"
  | 7 => .object "IslandThatLeans$Stones"
  | 8 => .object "IslandThatLeans$Lates"
  | 9 => .object "IslandThatLeans$Spots"
  | 10 => .int
  | 11 => .int
  | _ => .int
theorem nmX10 : ∀ a, a < 13 → ∀ b, b < 13 → a ≠ b → (TX10 a).2.1 ≠ (TX10 b).2.1 := by decide +kernel
theorem tyX10_ok : ∀ k, k < 13 → parseFieldDescriptor (TX10 k).2.2.1 = some (tyX10 k) := by decide +kernel
abbrev cX10_init : ByteArray := prog_1_method_1_code
def yX10_init : MethodName := ⟨RX10, "<init>", "()V"⟩
abbrev cX10_letters : ByteArray := prog_1_method_2_code
def yX10_letters : MethodName := ⟨RX10, "letters", "(J)I"⟩
abbrev cX10_fault : ByteArray := prog_1_method_4_code
def yX10_fault : MethodName := ⟨RX10, "fault", "(I)I"⟩
abbrev cX10_plan : ByteArray := prog_1_method_5_code
def yX10_plan : MethodName := ⟨RX10, "plan", "()I"⟩
abbrev cX10_thing : ByteArray := prog_1_method_7_code
def yX10_thing : MethodName := ⟨RX10, "thing", "(III)I"⟩
abbrev cX10_about : ByteArray := prog_1_method_8_code
def yX10_about : MethodName := ⟨RX10, "about", "(II)I"⟩
abbrev cX10_as : ByteArray := prog_1_method_9_code
def yX10_as : MethodName := ⟨RX10, "as", "(II)I"⟩
abbrev cX10_stand : ByteArray := prog_1_method_10_code
def yX10_stand : MethodName := ⟨RX10, "stand", "(III)I"⟩
abbrev cX10_put : ByteArray := prog_1_method_11_code
def yX10_put : MethodName := ⟨RX10, "put", "(II)I"⟩
abbrev cX10_trade : ByteArray := prog_1_method_12_code
def yX10_trade : MethodName := ⟨RX10, "trade", "(III)I"⟩
abbrev cX10_leans : ByteArray := prog_1_method_13_code
def yX10_leans : MethodName := ⟨RX10, "leans", "(II)I"⟩
abbrev cX10_dip : ByteArray := prog_1_method_14_code
def yX10_dip : MethodName := ⟨RX10, "dip", "(II)I"⟩
abbrev cX10_wet : ByteArray := prog_1_method_15_code
def yX10_wet : MethodName := ⟨RX10, "wet", "(I)I"⟩
abbrev cX10_late : ByteArray := prog_1_method_20_code
def yX10_late : MethodName := ⟨RX10, "late", "(III)I"⟩
abbrev cX10_count : ByteArray := prog_1_method_26_code
def yX10_count : MethodName := ⟨RX10, "count", "(I)I"⟩
abbrev cX10_isQuarter : ByteArray := prog_1_method_31_code
def yX10_isQuarter : MethodName := ⟨RX10, "isQuarter", "(I)Z"⟩
abbrev cX10_isKind : ByteArray := prog_1_method_32_code
def yX10_isKind : MethodName := ⟨RX10, "isKind", "(I)Z"⟩
abbrev cX10_isWeight : ByteArray := prog_1_method_33_code
def yX10_isWeight : MethodName := ⟨RX10, "isWeight", "(I)Z"⟩
abbrev cX10_asksPlace : ByteArray := prog_1_method_34_code
def yX10_asksPlace : MethodName := ⟨RX10, "asksPlace", "(I)Z"⟩
def RX11 : String := "IslandThatLeansModel"
def TX11 : u_T := fun k => match k with
  | _ => ("", "", "", false)
def tyX11 : Nat → FieldType := fun k => match k with
  | _ => .int
theorem nmX11 : ∀ a, a < 0 → ∀ b, b < 0 → a ≠ b → (TX11 a).2.1 ≠ (TX11 b).2.1 := by decide +kernel
theorem tyX11_ok : ∀ k, k < 0 → parseFieldDescriptor (TX11 k).2.2.1 = some (tyX11 k) := by decide +kernel
def RJ6 : String := "java/lang/Integer"
def TJ6 : u_T := fun k => match k with
  | _ => ("", "", "", false)
def tyJ6 : Nat → FieldType := fun k => match k with
  | _ => .int
theorem nmJ6 : ∀ a, a < 0 → ∀ b, b < 0 → a ≠ b → (TJ6 a).2.1 ≠ (TJ6 b).2.1 := by decide +kernel
theorem tyJ6_ok : ∀ k, k < 0 → parseFieldDescriptor (TJ6 k).2.2.1 = some (tyJ6 k) := by decide +kernel
abbrev cJ6_bitCount_0f7a4 : ByteArray := prog_14_method_49_code
def yJ6_bitCount_0f7a4 : MethodName := ⟨RJ6, "bitCount", "(I)I"⟩
def RL : String := "IslandThatLeansLaw"
abbrev cL_cell : ByteArray := method_2_code
def yL_cell : MethodName := ⟨RL, "cell", "([II)I"⟩
abbrev cL_put : ByteArray := method_3_code
def yL_put : MethodName := ⟨RL, "put", "(LIslandThatLeans;I)Z"⟩
abbrev cL_plan : ByteArray := method_4_code
def yL_plan : MethodName := ⟨RL, "plan", "(LIslandThatLeans;[III[I[I)Z"⟩
abbrev cL_things : ByteArray := method_5_code
def yL_things : MethodName := ⟨RL, "things", "(LIslandThatLeans;[III[I[I)Z"⟩
abbrev cL_weighs : ByteArray := method_6_code
def yL_weighs : MethodName := ⟨RL, "weighs", "([II)I"⟩
abbrev cL_east : ByteArray := method_7_code
def yL_east : MethodName := ⟨RL, "east", "([II)I"⟩
abbrev cL_south : ByteArray := method_8_code
def yL_south : MethodName := ⟨RL, "south", "([II)I"⟩
abbrev cL_wet : ByteArray := method_9_code
def yL_wet : MethodName := ⟨RL, "wet", "([I[III)I"⟩
abbrev cL_wetAt : ByteArray := method_11_code
def yL_wetAt : MethodName := ⟨RL, "wetAt", "([I[I[II[I)I"⟩
abbrev cL_law : ByteArray := code
def yL_law : MethodName := ⟨RL, "law", "([I)Z"⟩
end
section
theorem dX0_init_0 : decode cX0_init 0 = .ok (.aload_n 0, 1) := by decide +kernel
theorem dX0_init_1 : decode cX0_init 1 = .ok (.invokespecial 3, 3) := by decide +kernel
theorem dX0_init_4 : decode cX0_init 4 = .ok (.aload_n 0, 1) := by decide +kernel
theorem dX0_init_5 : decode cX0_init 5 = .ok (.bipush 8, 2) := by decide +kernel
theorem dX0_init_7 : decode cX0_init 7 = .ok (.newarray .int, 2) := by decide +kernel
theorem dX0_init_9 : decode cX0_init 9 = .ok (.putfield 9, 3) := by decide +kernel
theorem dX0_init_12 : decode cX0_init 12 = .ok (.aload_n 0, 1) := by decide +kernel
theorem dX0_init_13 : decode cX0_init 13 = .ok (.bipush 8, 2) := by decide +kernel
theorem dX0_init_15 : decode cX0_init 15 = .ok (.newarray .int, 2) := by decide +kernel
theorem dX0_init_17 : decode cX0_init 17 = .ok (.putfield 15, 3) := by decide +kernel
theorem dX0_init_20 : decode cX0_init 20 = .ok (.aload_n 0, 1) := by decide +kernel
theorem dX0_init_21 : decode cX0_init 21 = .ok (.aload_n 1, 1) := by decide +kernel
theorem dX0_init_22 : decode cX0_init 22 = .ok (.putfield 18, 3) := by decide +kernel
theorem dX0_init_25 : decode cX0_init 25 = .ok (.aload_n 0, 1) := by decide +kernel
theorem dX0_init_26 : decode cX0_init 26 = .ok (.aload_n 2, 1) := by decide +kernel
theorem dX0_init_27 : decode cX0_init 27 = .ok (.putfield 22, 3) := by decide +kernel
theorem dX0_init_30 : decode cX0_init 30 = .ok (.return_, 1) := by decide +kernel
theorem dX0_leanEast_0 : decode cX0_leanEast 0 = .ok (.iconst 0, 1) := by decide +kernel
theorem dX0_leanEast_1 : decode cX0_leanEast 1 = .ok (.istore_n 2, 1) := by decide +kernel
theorem dX0_leanEast_2 : decode cX0_leanEast 2 = .ok (.iconst 0, 1) := by decide +kernel
theorem dX0_leanEast_3 : decode cX0_leanEast 3 = .ok (.istore_n 3, 1) := by decide +kernel
theorem dX0_leanEast_4 : decode cX0_leanEast 4 = .ok (.iload_n 3, 1) := by decide +kernel
theorem dX0_leanEast_5 : decode cX0_leanEast 5 = .ok (.aload_n 0, 1) := by decide +kernel
theorem dX0_leanEast_6 : decode cX0_leanEast 6 = .ok (.getfield 22, 3) := by decide +kernel
theorem dX0_leanEast_9 : decode cX0_leanEast 9 = .ok (.invokevirtual 26, 3) := by decide +kernel
theorem dX0_leanEast_12 : decode cX0_leanEast 12 = .ok (.if_icmp .ge 37, 3) := by decide +kernel
theorem dX0_leanEast_15 : decode cX0_leanEast 15 = .ok (.iload_n 2, 1) := by decide +kernel
theorem dX0_leanEast_16 : decode cX0_leanEast 16 = .ok (.aload_n 0, 1) := by decide +kernel
theorem dX0_leanEast_17 : decode cX0_leanEast 17 = .ok (.getfield 22, 3) := by decide +kernel
theorem dX0_leanEast_20 : decode cX0_leanEast 20 = .ok (.iload_n 3, 1) := by decide +kernel
theorem dX0_leanEast_21 : decode cX0_leanEast 21 = .ok (.invokevirtual 32, 3) := by decide +kernel
theorem dX0_leanEast_24 : decode cX0_leanEast 24 = .ok (.aload_n 0, 1) := by decide +kernel
theorem dX0_leanEast_25 : decode cX0_leanEast 25 = .ok (.getfield 18, 3) := by decide +kernel
theorem dX0_leanEast_28 : decode cX0_leanEast 28 = .ok (.aload_n 0, 1) := by decide +kernel
theorem dX0_leanEast_29 : decode cX0_leanEast 29 = .ok (.getfield 22, 3) := by decide +kernel
theorem dX0_leanEast_32 : decode cX0_leanEast 32 = .ok (.iload_n 3, 1) := by decide +kernel
theorem dX0_leanEast_33 : decode cX0_leanEast 33 = .ok (.iload_n 1, 1) := by decide +kernel
theorem dX0_leanEast_34 : decode cX0_leanEast 34 = .ok (.invokevirtual 36, 3) := by decide +kernel
theorem dX0_leanEast_37 : decode cX0_leanEast 37 = .ok (.invokevirtual 40, 3) := by decide +kernel
theorem dX0_leanEast_40 : decode cX0_leanEast 40 = .ok (.imul, 1) := by decide +kernel
theorem dX0_leanEast_41 : decode cX0_leanEast 41 = .ok (.iadd, 1) := by decide +kernel
theorem dX0_leanEast_42 : decode cX0_leanEast 42 = .ok (.istore_n 2, 1) := by decide +kernel
theorem dX0_leanEast_43 : decode cX0_leanEast 43 = .ok (.iinc 3 1, 3) := by decide +kernel
theorem dX0_leanEast_46 : decode cX0_leanEast 46 = .ok (.goto (-42), 3) := by decide +kernel
theorem dX0_leanEast_49 : decode cX0_leanEast 49 = .ok (.iload_n 2, 1) := by decide +kernel
theorem dX0_leanEast_50 : decode cX0_leanEast 50 = .ok (.ireturn, 1) := by decide +kernel
theorem dX0_leanSouth_0 : decode cX0_leanSouth 0 = .ok (.iconst 0, 1) := by decide +kernel
theorem dX0_leanSouth_1 : decode cX0_leanSouth 1 = .ok (.istore_n 2, 1) := by decide +kernel
theorem dX0_leanSouth_2 : decode cX0_leanSouth 2 = .ok (.iconst 0, 1) := by decide +kernel
theorem dX0_leanSouth_3 : decode cX0_leanSouth 3 = .ok (.istore_n 3, 1) := by decide +kernel
theorem dX0_leanSouth_4 : decode cX0_leanSouth 4 = .ok (.iload_n 3, 1) := by decide +kernel
theorem dX0_leanSouth_5 : decode cX0_leanSouth 5 = .ok (.aload_n 0, 1) := by decide +kernel
theorem dX0_leanSouth_6 : decode cX0_leanSouth 6 = .ok (.getfield 22, 3) := by decide +kernel
theorem dX0_leanSouth_9 : decode cX0_leanSouth 9 = .ok (.invokevirtual 26, 3) := by decide +kernel
theorem dX0_leanSouth_12 : decode cX0_leanSouth 12 = .ok (.if_icmp .ge 37, 3) := by decide +kernel
theorem dX0_leanSouth_15 : decode cX0_leanSouth 15 = .ok (.iload_n 2, 1) := by decide +kernel
theorem dX0_leanSouth_16 : decode cX0_leanSouth 16 = .ok (.aload_n 0, 1) := by decide +kernel
theorem dX0_leanSouth_17 : decode cX0_leanSouth 17 = .ok (.getfield 22, 3) := by decide +kernel
theorem dX0_leanSouth_20 : decode cX0_leanSouth 20 = .ok (.iload_n 3, 1) := by decide +kernel
theorem dX0_leanSouth_21 : decode cX0_leanSouth 21 = .ok (.invokevirtual 32, 3) := by decide +kernel
theorem dX0_leanSouth_24 : decode cX0_leanSouth 24 = .ok (.aload_n 0, 1) := by decide +kernel
theorem dX0_leanSouth_25 : decode cX0_leanSouth 25 = .ok (.getfield 18, 3) := by decide +kernel
theorem dX0_leanSouth_28 : decode cX0_leanSouth 28 = .ok (.aload_n 0, 1) := by decide +kernel
theorem dX0_leanSouth_29 : decode cX0_leanSouth 29 = .ok (.getfield 22, 3) := by decide +kernel
theorem dX0_leanSouth_32 : decode cX0_leanSouth 32 = .ok (.iload_n 3, 1) := by decide +kernel
theorem dX0_leanSouth_33 : decode cX0_leanSouth 33 = .ok (.iload_n 1, 1) := by decide +kernel
theorem dX0_leanSouth_34 : decode cX0_leanSouth 34 = .ok (.invokevirtual 36, 3) := by decide +kernel
theorem dX0_leanSouth_37 : decode cX0_leanSouth 37 = .ok (.invokevirtual 45, 3) := by decide +kernel
theorem dX0_leanSouth_40 : decode cX0_leanSouth 40 = .ok (.imul, 1) := by decide +kernel
theorem dX0_leanSouth_41 : decode cX0_leanSouth 41 = .ok (.iadd, 1) := by decide +kernel
theorem dX0_leanSouth_42 : decode cX0_leanSouth 42 = .ok (.istore_n 2, 1) := by decide +kernel
theorem dX0_leanSouth_43 : decode cX0_leanSouth 43 = .ok (.iinc 3 1, 3) := by decide +kernel
theorem dX0_leanSouth_46 : decode cX0_leanSouth 46 = .ok (.goto (-42), 3) := by decide +kernel
theorem dX0_leanSouth_49 : decode cX0_leanSouth 49 = .ok (.iload_n 2, 1) := by decide +kernel
theorem dX0_leanSouth_50 : decode cX0_leanSouth 50 = .ok (.ireturn, 1) := by decide +kernel
theorem dX0_wetIn_0 : decode cX0_wetIn 0 = .ok (.aload_n 0, 1) := by decide +kernel
theorem dX0_wetIn_1 : decode cX0_wetIn 1 = .ok (.getfield 18, 3) := by decide +kernel
theorem dX0_wetIn_4 : decode cX0_wetIn 4 = .ok (.aload_n 0, 1) := by decide +kernel
theorem dX0_wetIn_5 : decode cX0_wetIn 5 = .ok (.iload_n 1, 1) := by decide +kernel
theorem dX0_wetIn_6 : decode cX0_wetIn 6 = .ok (.invokevirtual 48, 3) := by decide +kernel
theorem dX0_wetIn_9 : decode cX0_wetIn 9 = .ok (.aload_n 0, 1) := by decide +kernel
theorem dX0_wetIn_10 : decode cX0_wetIn 10 = .ok (.iload_n 1, 1) := by decide +kernel
theorem dX0_wetIn_11 : decode cX0_wetIn 11 = .ok (.invokevirtual 51, 3) := by decide +kernel
theorem dX0_wetIn_14 : decode cX0_wetIn 14 = .ok (.invokevirtual 54, 3) := by decide +kernel
theorem dX0_wetIn_17 : decode cX0_wetIn 17 = .ok (.ireturn, 1) := by decide +kernel
theorem dX1_init_0 : decode cX1_init 0 = .ok (.aload_n 0, 1) := by decide +kernel
theorem dX1_init_1 : decode cX1_init 1 = .ok (.invokespecial 3, 3) := by decide +kernel
theorem dX1_init_4 : decode cX1_init 4 = .ok (.aload_n 0, 1) := by decide +kernel
theorem dX1_init_5 : decode cX1_init 5 = .ok (.bipush 30, 2) := by decide +kernel
theorem dX1_init_7 : decode cX1_init 7 = .ok (.newarray .int, 2) := by decide +kernel
theorem dX1_init_9 : decode cX1_init 9 = .ok (.putfield 9, 3) := by decide +kernel
theorem dX1_init_12 : decode cX1_init 12 = .ok (.aload_n 0, 1) := by decide +kernel
theorem dX1_init_13 : decode cX1_init 13 = .ok (.bipush 30, 2) := by decide +kernel
theorem dX1_init_15 : decode cX1_init 15 = .ok (.newarray .int, 2) := by decide +kernel
theorem dX1_init_17 : decode cX1_init 17 = .ok (.putfield 15, 3) := by decide +kernel
theorem dX1_init_20 : decode cX1_init 20 = .ok (.aload_n 0, 1) := by decide +kernel
theorem dX1_init_21 : decode cX1_init 21 = .ok (.bipush 30, 2) := by decide +kernel
theorem dX1_init_23 : decode cX1_init 23 = .ok (.newarray .int, 2) := by decide +kernel
theorem dX1_init_25 : decode cX1_init 25 = .ok (.putfield 18, 3) := by decide +kernel
theorem dX1_init_28 : decode cX1_init 28 = .ok (.return_, 1) := by decide +kernel
theorem dX1_read_0 : decode cX1_read 0 = .ok (.aload_n 0, 1) := by decide +kernel
theorem dX1_read_1 : decode cX1_read 1 = .ok (.iload_n 2, 1) := by decide +kernel
theorem dX1_read_2 : decode cX1_read 2 = .ok (.putfield 21, 3) := by decide +kernel
theorem dX1_read_5 : decode cX1_read 5 = .ok (.aload_n 0, 1) := by decide +kernel
theorem dX1_read_6 : decode cX1_read 6 = .ok (.iload_n 3, 1) := by decide +kernel
theorem dX1_read_7 : decode cX1_read 7 = .ok (.putfield 25, 3) := by decide +kernel
theorem dX1_read_10 : decode cX1_read 10 = .ok (.aload_n 0, 1) := by decide +kernel
theorem dX1_read_11 : decode cX1_read 11 = .ok (.iconst 0, 1) := by decide +kernel
theorem dX1_read_12 : decode cX1_read 12 = .ok (.putfield 28, 3) := by decide +kernel
theorem dX1_read_15 : decode cX1_read 15 = .ok (.aload_n 0, 1) := by decide +kernel
theorem dX1_read_16 : decode cX1_read 16 = .ok (.iconst 0, 1) := by decide +kernel
theorem dX1_read_17 : decode cX1_read 17 = .ok (.putfield 31, 3) := by decide +kernel
theorem dX1_read_20 : decode cX1_read 20 = .ok (.iconst 0, 1) := by decide +kernel
theorem dX1_read_21 : decode cX1_read 21 = .ok (.istore 4, 2) := by decide +kernel
theorem dX1_read_23 : decode cX1_read 23 = .ok (.iconst 0, 1) := by decide +kernel
theorem dX1_read_24 : decode cX1_read 24 = .ok (.istore 5, 2) := by decide +kernel
theorem dX1_read_26 : decode cX1_read 26 = .ok (.iconst 0, 1) := by decide +kernel
theorem dX1_read_27 : decode cX1_read 27 = .ok (.istore 6, 2) := by decide +kernel
theorem dX1_read_29 : decode cX1_read 29 = .ok (.iload 6, 2) := by decide +kernel
theorem dX1_read_31 : decode cX1_read 31 = .ok (.aload_n 1, 1) := by decide +kernel
theorem dX1_read_32 : decode cX1_read 32 = .ok (.invokevirtual 34, 3) := by decide +kernel
theorem dX1_read_35 : decode cX1_read 35 = .ok (.if_icmp .ge 60, 3) := by decide +kernel
theorem dX1_read_38 : decode cX1_read 38 = .ok (.aload_n 1, 1) := by decide +kernel
theorem dX1_read_39 : decode cX1_read 39 = .ok (.iload 6, 2) := by decide +kernel
theorem dX1_read_41 : decode cX1_read 41 = .ok (.invokevirtual 40, 3) := by decide +kernel
theorem dX1_read_44 : decode cX1_read 44 = .ok (.istore 7, 2) := by decide +kernel
theorem dX1_read_46 : decode cX1_read 46 = .ok (.iload 7, 2) := by decide +kernel
theorem dX1_read_48 : decode cX1_read 48 = .ok (.bipush 47, 2) := by decide +kernel
theorem dX1_read_50 : decode cX1_read 50 = .ok (.if_icmp .ne 12, 3) := by decide +kernel
theorem dX1_read_53 : decode cX1_read 53 = .ok (.iinc 4 1, 3) := by decide +kernel
theorem dX1_read_56 : decode cX1_read 56 = .ok (.iconst 0, 1) := by decide +kernel
theorem dX1_read_57 : decode cX1_read 57 = .ok (.istore 5, 2) := by decide +kernel
theorem dX1_read_59 : decode cX1_read 59 = .ok (.goto 30, 3) := by decide +kernel
theorem dX1_read_62 : decode cX1_read 62 = .ok (.aload_n 0, 1) := by decide +kernel
theorem dX1_read_63 : decode cX1_read 63 = .ok (.iload 7, 2) := by decide +kernel
theorem dX1_read_65 : decode cX1_read 65 = .ok (.bipush 46, 2) := by decide +kernel
theorem dX1_read_67 : decode cX1_read 67 = .ok (.if_icmp .ne 7, 3) := by decide +kernel
theorem dX1_read_70 : decode cX1_read 70 = .ok (.iconst 0, 1) := by decide +kernel
theorem dX1_read_71 : decode cX1_read 71 = .ok (.goto 8, 3) := by decide +kernel
theorem dX1_read_74 : decode cX1_read 74 = .ok (.iload 7, 2) := by decide +kernel
theorem dX1_read_76 : decode cX1_read 76 = .ok (.bipush 48, 2) := by decide +kernel
theorem dX1_read_78 : decode cX1_read 78 = .ok (.isub, 1) := by decide +kernel
theorem dX1_read_79 : decode cX1_read 79 = .ok (.iload 4, 2) := by decide +kernel
theorem dX1_read_81 : decode cX1_read 81 = .ok (.iload 5, 2) := by decide +kernel
theorem dX1_read_83 : decode cX1_read 83 = .ok (.invokevirtual 44, 3) := by decide +kernel
theorem dX1_read_86 : decode cX1_read 86 = .ok (.iinc 5 1, 3) := by decide +kernel
theorem dX1_read_89 : decode cX1_read 89 = .ok (.iinc 6 1, 3) := by decide +kernel
theorem dX1_read_92 : decode cX1_read 92 = .ok (.goto (-63), 3) := by decide +kernel
theorem dX1_read_95 : decode cX1_read 95 = .ok (.return_, 1) := by decide +kernel
theorem dX1_addSquare_0 : decode cX1_addSquare 0 = .ok (.aload_n 0, 1) := by decide +kernel
theorem dX1_addSquare_1 : decode cX1_addSquare 1 = .ok (.getfield 28, 3) := by decide +kernel
theorem dX1_addSquare_4 : decode cX1_addSquare 4 = .ok (.bipush 30, 2) := by decide +kernel
theorem dX1_addSquare_6 : decode cX1_addSquare 6 = .ok (.if_icmp .lt 4, 3) := by decide +kernel
theorem dX1_addSquare_9 : decode cX1_addSquare 9 = .ok (.return_, 1) := by decide +kernel
theorem dX1_addSquare_10 : decode cX1_addSquare 10 = .ok (.aload_n 0, 1) := by decide +kernel
theorem dX1_addSquare_11 : decode cX1_addSquare 11 = .ok (.getfield 9, 3) := by decide +kernel
theorem dX1_addSquare_14 : decode cX1_addSquare 14 = .ok (.aload_n 0, 1) := by decide +kernel
theorem dX1_addSquare_15 : decode cX1_addSquare 15 = .ok (.getfield 28, 3) := by decide +kernel
theorem dX1_addSquare_18 : decode cX1_addSquare 18 = .ok (.iload_n 1, 1) := by decide +kernel
theorem dX1_addSquare_19 : decode cX1_addSquare 19 = .ok (.iastore, 1) := by decide +kernel
theorem dX1_addSquare_20 : decode cX1_addSquare 20 = .ok (.aload_n 0, 1) := by decide +kernel
theorem dX1_addSquare_21 : decode cX1_addSquare 21 = .ok (.getfield 15, 3) := by decide +kernel
theorem dX1_addSquare_24 : decode cX1_addSquare 24 = .ok (.aload_n 0, 1) := by decide +kernel
theorem dX1_addSquare_25 : decode cX1_addSquare 25 = .ok (.getfield 28, 3) := by decide +kernel
theorem dX1_addSquare_28 : decode cX1_addSquare 28 = .ok (.iload_n 3, 1) := by decide +kernel
theorem dX1_addSquare_29 : decode cX1_addSquare 29 = .ok (.aload_n 0, 1) := by decide +kernel
theorem dX1_addSquare_30 : decode cX1_addSquare 30 = .ok (.getfield 25, 3) := by decide +kernel
theorem dX1_addSquare_33 : decode cX1_addSquare 33 = .ok (.invokestatic 48, 3) := by decide +kernel
theorem dX1_addSquare_36 : decode cX1_addSquare 36 = .ok (.iastore, 1) := by decide +kernel
theorem dX1_addSquare_37 : decode cX1_addSquare 37 = .ok (.aload_n 0, 1) := by decide +kernel
theorem dX1_addSquare_38 : decode cX1_addSquare 38 = .ok (.getfield 18, 3) := by decide +kernel
theorem dX1_addSquare_41 : decode cX1_addSquare 41 = .ok (.aload_n 0, 1) := by decide +kernel
theorem dX1_addSquare_42 : decode cX1_addSquare 42 = .ok (.getfield 28, 3) := by decide +kernel
theorem dX1_addSquare_45 : decode cX1_addSquare 45 = .ok (.iload_n 2, 1) := by decide +kernel
theorem dX1_addSquare_46 : decode cX1_addSquare 46 = .ok (.aload_n 0, 1) := by decide +kernel
theorem dX1_addSquare_47 : decode cX1_addSquare 47 = .ok (.getfield 21, 3) := by decide +kernel
theorem dX1_addSquare_50 : decode cX1_addSquare 50 = .ok (.invokestatic 48, 3) := by decide +kernel
theorem dX1_addSquare_53 : decode cX1_addSquare 53 = .ok (.iastore, 1) := by decide +kernel
theorem dX1_addSquare_54 : decode cX1_addSquare 54 = .ok (.aload_n 0, 1) := by decide +kernel
theorem dX1_addSquare_55 : decode cX1_addSquare 55 = .ok (.dup, 1) := by decide +kernel
theorem dX1_addSquare_56 : decode cX1_addSquare 56 = .ok (.getfield 28, 3) := by decide +kernel
theorem dX1_addSquare_59 : decode cX1_addSquare 59 = .ok (.iconst 1, 1) := by decide +kernel
theorem dX1_addSquare_60 : decode cX1_addSquare 60 = .ok (.iadd, 1) := by decide +kernel
theorem dX1_addSquare_61 : decode cX1_addSquare 61 = .ok (.putfield 28, 3) := by decide +kernel
theorem dX1_addSquare_64 : decode cX1_addSquare 64 = .ok (.iload_n 1, 1) := by decide +kernel
theorem dX1_addSquare_65 : decode cX1_addSquare 65 = .ok (.ifCond .le 13, 3) := by decide +kernel
theorem dX1_addSquare_68 : decode cX1_addSquare 68 = .ok (.aload_n 0, 1) := by decide +kernel
theorem dX1_addSquare_69 : decode cX1_addSquare 69 = .ok (.dup, 1) := by decide +kernel
theorem dX1_addSquare_70 : decode cX1_addSquare 70 = .ok (.getfield 31, 3) := by decide +kernel
theorem dX1_addSquare_73 : decode cX1_addSquare 73 = .ok (.iconst 1, 1) := by decide +kernel
theorem dX1_addSquare_74 : decode cX1_addSquare 74 = .ok (.iadd, 1) := by decide +kernel
theorem dX1_addSquare_75 : decode cX1_addSquare 75 = .ok (.putfield 31, 3) := by decide +kernel
theorem dX1_addSquare_78 : decode cX1_addSquare 78 = .ok (.return_, 1) := by decide +kernel
theorem dX1_fromCentre_0 : decode cX1_fromCentre 0 = .ok (.iconst 2, 1) := by decide +kernel
theorem dX1_fromCentre_1 : decode cX1_fromCentre 1 = .ok (.iload_n 0, 1) := by decide +kernel
theorem dX1_fromCentre_2 : decode cX1_fromCentre 2 = .ok (.imul, 1) := by decide +kernel
theorem dX1_fromCentre_3 : decode cX1_fromCentre 3 = .ok (.iload_n 1, 1) := by decide +kernel
theorem dX1_fromCentre_4 : decode cX1_fromCentre 4 = .ok (.iconst 1, 1) := by decide +kernel
theorem dX1_fromCentre_5 : decode cX1_fromCentre 5 = .ok (.isub, 1) := by decide +kernel
theorem dX1_fromCentre_6 : decode cX1_fromCentre 6 = .ok (.isub, 1) := by decide +kernel
theorem dX1_fromCentre_7 : decode cX1_fromCentre 7 = .ok (.ireturn, 1) := by decide +kernel
theorem dX1_isThere_0 : decode cX1_isThere 0 = .ok (.aload_n 0, 1) := by decide +kernel
theorem dX1_isThere_1 : decode cX1_isThere 1 = .ok (.getfield 28, 3) := by decide +kernel
theorem dX1_isThere_4 : decode cX1_isThere 4 = .ok (.ifCond .le 7, 3) := by decide +kernel
theorem dX1_isThere_7 : decode cX1_isThere 7 = .ok (.iconst 1, 1) := by decide +kernel
theorem dX1_isThere_8 : decode cX1_isThere 8 = .ok (.goto 4, 3) := by decide +kernel
theorem dX1_isThere_11 : decode cX1_isThere 11 = .ok (.iconst 0, 1) := by decide +kernel
theorem dX1_isThere_12 : decode cX1_isThere 12 = .ok (.ireturn, 1) := by decide +kernel
theorem dX1_squares_0 : decode cX1_squares 0 = .ok (.aload_n 0, 1) := by decide +kernel
theorem dX1_squares_1 : decode cX1_squares 1 = .ok (.getfield 28, 3) := by decide +kernel
theorem dX1_squares_4 : decode cX1_squares 4 = .ok (.ireturn, 1) := by decide +kernel
theorem dX1_doors_0 : decode cX1_doors 0 = .ok (.aload_n 0, 1) := by decide +kernel
theorem dX1_doors_1 : decode cX1_doors 1 = .ok (.getfield 31, 3) := by decide +kernel
theorem dX1_doors_4 : decode cX1_doors 4 = .ok (.ireturn, 1) := by decide +kernel
theorem dX1_has_0 : decode cX1_has 0 = .ok (.iload_n 1, 1) := by decide +kernel
theorem dX1_has_1 : decode cX1_has 1 = .ok (.ifCond .lt 15, 3) := by decide +kernel
theorem dX1_has_4 : decode cX1_has 4 = .ok (.iload_n 1, 1) := by decide +kernel
theorem dX1_has_5 : decode cX1_has 5 = .ok (.aload_n 0, 1) := by decide +kernel
theorem dX1_has_6 : decode cX1_has 6 = .ok (.getfield 28, 3) := by decide +kernel
theorem dX1_has_9 : decode cX1_has 9 = .ok (.if_icmp .ge 7, 3) := by decide +kernel
theorem dX1_has_12 : decode cX1_has 12 = .ok (.iconst 1, 1) := by decide +kernel
theorem dX1_has_13 : decode cX1_has 13 = .ok (.goto 4, 3) := by decide +kernel
theorem dX1_has_16 : decode cX1_has 16 = .ok (.iconst 0, 1) := by decide +kernel
theorem dX1_has_17 : decode cX1_has 17 = .ok (.ireturn, 1) := by decide +kernel
theorem dX1_hasAll_0 : decode cX1_hasAll 0 = .ok (.iload_n 1, 1) := by decide +kernel
theorem dX1_hasAll_1 : decode cX1_hasAll 1 = .ok (.ifCond .lt 16, 3) := by decide +kernel
theorem dX1_hasAll_4 : decode cX1_hasAll 4 = .ok (.iload_n 1, 1) := by decide +kernel
theorem dX1_hasAll_5 : decode cX1_hasAll 5 = .ok (.aload_n 0, 1) := by decide +kernel
theorem dX1_hasAll_6 : decode cX1_hasAll 6 = .ok (.getfield 28, 3) := by decide +kernel
theorem dX1_hasAll_9 : decode cX1_hasAll 9 = .ok (.iushr, 1) := by decide +kernel
theorem dX1_hasAll_10 : decode cX1_hasAll 10 = .ok (.ifCond .ne 7, 3) := by decide +kernel
theorem dX1_hasAll_13 : decode cX1_hasAll 13 = .ok (.iconst 1, 1) := by decide +kernel
theorem dX1_hasAll_14 : decode cX1_hasAll 14 = .ok (.goto 4, 3) := by decide +kernel
theorem dX1_hasAll_17 : decode cX1_hasAll 17 = .ok (.iconst 0, 1) := by decide +kernel
theorem dX1_hasAll_18 : decode cX1_hasAll 18 = .ok (.ireturn, 1) := by decide +kernel
theorem dX1_east_0 : decode cX1_east 0 = .ok (.aload_n 0, 1) := by decide +kernel
theorem dX1_east_1 : decode cX1_east 1 = .ok (.iload_n 1, 1) := by decide +kernel
theorem dX1_east_2 : decode cX1_east 2 = .ok (.invokevirtual 52, 3) := by decide +kernel
theorem dX1_east_5 : decode cX1_east 5 = .ok (.ifCond .eq 12, 3) := by decide +kernel
theorem dX1_east_8 : decode cX1_east 8 = .ok (.aload_n 0, 1) := by decide +kernel
theorem dX1_east_9 : decode cX1_east 9 = .ok (.getfield 15, 3) := by decide +kernel
theorem dX1_east_12 : decode cX1_east 12 = .ok (.iload_n 1, 1) := by decide +kernel
theorem dX1_east_13 : decode cX1_east 13 = .ok (.iaload, 1) := by decide +kernel
theorem dX1_east_14 : decode cX1_east 14 = .ok (.goto 4, 3) := by decide +kernel
theorem dX1_east_17 : decode cX1_east 17 = .ok (.iconst 0, 1) := by decide +kernel
theorem dX1_east_18 : decode cX1_east 18 = .ok (.ireturn, 1) := by decide +kernel
theorem dX1_south_0 : decode cX1_south 0 = .ok (.aload_n 0, 1) := by decide +kernel
theorem dX1_south_1 : decode cX1_south 1 = .ok (.iload_n 1, 1) := by decide +kernel
theorem dX1_south_2 : decode cX1_south 2 = .ok (.invokevirtual 52, 3) := by decide +kernel
theorem dX1_south_5 : decode cX1_south 5 = .ok (.ifCond .eq 12, 3) := by decide +kernel
theorem dX1_south_8 : decode cX1_south 8 = .ok (.aload_n 0, 1) := by decide +kernel
theorem dX1_south_9 : decode cX1_south 9 = .ok (.getfield 18, 3) := by decide +kernel
theorem dX1_south_12 : decode cX1_south 12 = .ok (.iload_n 1, 1) := by decide +kernel
theorem dX1_south_13 : decode cX1_south 13 = .ok (.iaload, 1) := by decide +kernel
theorem dX1_south_14 : decode cX1_south 14 = .ok (.goto 4, 3) := by decide +kernel
theorem dX1_south_17 : decode cX1_south 17 = .ok (.iconst 0, 1) := by decide +kernel
theorem dX1_south_18 : decode cX1_south 18 = .ok (.ireturn, 1) := by decide +kernel
theorem dX1_dipOf_0 : decode cX1_dipOf 0 = .ok (.aload_n 0, 1) := by decide +kernel
theorem dX1_dipOf_1 : decode cX1_dipOf 1 = .ok (.iload_n 1, 1) := by decide +kernel
theorem dX1_dipOf_2 : decode cX1_dipOf 2 = .ok (.invokevirtual 52, 3) := by decide +kernel
theorem dX1_dipOf_5 : decode cX1_dipOf 5 = .ok (.ifCond .eq 23, 3) := by decide +kernel
theorem dX1_dipOf_8 : decode cX1_dipOf 8 = .ok (.iload_n 2, 1) := by decide +kernel
theorem dX1_dipOf_9 : decode cX1_dipOf 9 = .ok (.aload_n 0, 1) := by decide +kernel
theorem dX1_dipOf_10 : decode cX1_dipOf 10 = .ok (.getfield 15, 3) := by decide +kernel
theorem dX1_dipOf_13 : decode cX1_dipOf 13 = .ok (.iload_n 1, 1) := by decide +kernel
theorem dX1_dipOf_14 : decode cX1_dipOf 14 = .ok (.iaload, 1) := by decide +kernel
theorem dX1_dipOf_15 : decode cX1_dipOf 15 = .ok (.imul, 1) := by decide +kernel
theorem dX1_dipOf_16 : decode cX1_dipOf 16 = .ok (.iload_n 3, 1) := by decide +kernel
theorem dX1_dipOf_17 : decode cX1_dipOf 17 = .ok (.aload_n 0, 1) := by decide +kernel
theorem dX1_dipOf_18 : decode cX1_dipOf 18 = .ok (.getfield 18, 3) := by decide +kernel
theorem dX1_dipOf_21 : decode cX1_dipOf 21 = .ok (.iload_n 1, 1) := by decide +kernel
theorem dX1_dipOf_22 : decode cX1_dipOf 22 = .ok (.iaload, 1) := by decide +kernel
theorem dX1_dipOf_23 : decode cX1_dipOf 23 = .ok (.imul, 1) := by decide +kernel
theorem dX1_dipOf_24 : decode cX1_dipOf 24 = .ok (.iadd, 1) := by decide +kernel
theorem dX1_dipOf_25 : decode cX1_dipOf 25 = .ok (.goto 4, 3) := by decide +kernel
theorem dX1_dipOf_28 : decode cX1_dipOf 28 = .ok (.iconst 0, 1) := by decide +kernel
theorem dX1_dipOf_29 : decode cX1_dipOf 29 = .ok (.ireturn, 1) := by decide +kernel
theorem dX1_wetDoors_0 : decode cX1_wetDoors 0 = .ok (.iconst 0, 1) := by decide +kernel
theorem dX1_wetDoors_1 : decode cX1_wetDoors 1 = .ok (.istore_n 3, 1) := by decide +kernel
theorem dX1_wetDoors_2 : decode cX1_wetDoors 2 = .ok (.iconst 0, 1) := by decide +kernel
theorem dX1_wetDoors_3 : decode cX1_wetDoors 3 = .ok (.istore 4, 2) := by decide +kernel
theorem dX1_wetDoors_5 : decode cX1_wetDoors 5 = .ok (.iload 4, 2) := by decide +kernel
theorem dX1_wetDoors_7 : decode cX1_wetDoors 7 = .ok (.aload_n 0, 1) := by decide +kernel
theorem dX1_wetDoors_8 : decode cX1_wetDoors 8 = .ok (.getfield 28, 3) := by decide +kernel
theorem dX1_wetDoors_11 : decode cX1_wetDoors 11 = .ok (.if_icmp .ge 61, 3) := by decide +kernel
theorem dX1_wetDoors_14 : decode cX1_wetDoors 14 = .ok (.aload_n 0, 1) := by decide +kernel
theorem dX1_wetDoors_15 : decode cX1_wetDoors 15 = .ok (.getfield 9, 3) := by decide +kernel
theorem dX1_wetDoors_18 : decode cX1_wetDoors 18 = .ok (.iload 4, 2) := by decide +kernel
theorem dX1_wetDoors_20 : decode cX1_wetDoors 20 = .ok (.iaload, 1) := by decide +kernel
theorem dX1_wetDoors_21 : decode cX1_wetDoors 21 = .ok (.istore 5, 2) := by decide +kernel
theorem dX1_wetDoors_23 : decode cX1_wetDoors 23 = .ok (.iload_n 1, 1) := by decide +kernel
theorem dX1_wetDoors_24 : decode cX1_wetDoors 24 = .ok (.aload_n 0, 1) := by decide +kernel
theorem dX1_wetDoors_25 : decode cX1_wetDoors 25 = .ok (.getfield 15, 3) := by decide +kernel
theorem dX1_wetDoors_28 : decode cX1_wetDoors 28 = .ok (.iload 4, 2) := by decide +kernel
theorem dX1_wetDoors_30 : decode cX1_wetDoors 30 = .ok (.iaload, 1) := by decide +kernel
theorem dX1_wetDoors_31 : decode cX1_wetDoors 31 = .ok (.imul, 1) := by decide +kernel
theorem dX1_wetDoors_32 : decode cX1_wetDoors 32 = .ok (.iload_n 2, 1) := by decide +kernel
theorem dX1_wetDoors_33 : decode cX1_wetDoors 33 = .ok (.aload_n 0, 1) := by decide +kernel
theorem dX1_wetDoors_34 : decode cX1_wetDoors 34 = .ok (.getfield 18, 3) := by decide +kernel
theorem dX1_wetDoors_37 : decode cX1_wetDoors 37 = .ok (.iload 4, 2) := by decide +kernel
theorem dX1_wetDoors_39 : decode cX1_wetDoors 39 = .ok (.iaload, 1) := by decide +kernel
theorem dX1_wetDoors_40 : decode cX1_wetDoors 40 = .ok (.imul, 1) := by decide +kernel
theorem dX1_wetDoors_41 : decode cX1_wetDoors 41 = .ok (.iadd, 1) := by decide +kernel
theorem dX1_wetDoors_42 : decode cX1_wetDoors 42 = .ok (.istore 6, 2) := by decide +kernel
theorem dX1_wetDoors_44 : decode cX1_wetDoors 44 = .ok (.iload 5, 2) := by decide +kernel
theorem dX1_wetDoors_46 : decode cX1_wetDoors 46 = .ok (.ifCond .le 20, 3) := by decide +kernel
theorem dX1_wetDoors_49 : decode cX1_wetDoors 49 = .ok (.iload 6, 2) := by decide +kernel
theorem dX1_wetDoors_51 : decode cX1_wetDoors 51 = .ok (.bipush 50, 2) := by decide +kernel
theorem dX1_wetDoors_53 : decode cX1_wetDoors 53 = .ok (.iload 5, 2) := by decide +kernel
theorem dX1_wetDoors_55 : decode cX1_wetDoors 55 = .ok (.imul, 1) := by decide +kernel
theorem dX1_wetDoors_56 : decode cX1_wetDoors 56 = .ok (.if_icmp .lt 10, 3) := by decide +kernel
theorem dX1_wetDoors_59 : decode cX1_wetDoors 59 = .ok (.iload_n 3, 1) := by decide +kernel
theorem dX1_wetDoors_60 : decode cX1_wetDoors 60 = .ok (.iconst 1, 1) := by decide +kernel
theorem dX1_wetDoors_61 : decode cX1_wetDoors 61 = .ok (.iload 4, 2) := by decide +kernel
theorem dX1_wetDoors_63 : decode cX1_wetDoors 63 = .ok (.ishl, 1) := by decide +kernel
theorem dX1_wetDoors_64 : decode cX1_wetDoors 64 = .ok (.ior, 1) := by decide +kernel
theorem dX1_wetDoors_65 : decode cX1_wetDoors 65 = .ok (.istore_n 3, 1) := by decide +kernel
theorem dX1_wetDoors_66 : decode cX1_wetDoors 66 = .ok (.iinc 4 1, 3) := by decide +kernel
theorem dX1_wetDoors_69 : decode cX1_wetDoors 69 = .ok (.goto (-64), 3) := by decide +kernel
theorem dX1_wetDoors_72 : decode cX1_wetDoors 72 = .ok (.iload_n 3, 1) := by decide +kernel
theorem dX1_wetDoors_73 : decode cX1_wetDoors 73 = .ok (.ireturn, 1) := by decide +kernel
theorem dX2_init_0 : decode cX2_init 0 = .ok (.aload_n 0, 1) := by decide +kernel
theorem dX2_init_1 : decode cX2_init 1 = .ok (.invokespecial 3, 3) := by decide +kernel
theorem dX2_init_4 : decode cX2_init 4 = .ok (.aload_n 0, 1) := by decide +kernel
theorem dX2_init_5 : decode cX2_init 5 = .ok (.iconst 3, 1) := by decide +kernel
theorem dX2_init_6 : decode cX2_init 6 = .ok (.newarray .int, 2) := by decide +kernel
theorem dX2_init_8 : decode cX2_init 8 = .ok (.putfield 11, 3) := by decide +kernel
theorem dX2_init_11 : decode cX2_init 11 = .ok (.aload_n 0, 1) := by decide +kernel
theorem dX2_init_12 : decode cX2_init 12 = .ok (.bipush 8, 2) := by decide +kernel
theorem dX2_init_14 : decode cX2_init 14 = .ok (.newarray .int, 2) := by decide +kernel
theorem dX2_init_16 : decode cX2_init 16 = .ok (.putfield 15, 3) := by decide +kernel
theorem dX2_init_19 : decode cX2_init 19 = .ok (.aload_n 0, 1) := by decide +kernel
theorem dX2_init_20 : decode cX2_init 20 = .ok (.bipush 8, 2) := by decide +kernel
theorem dX2_init_22 : decode cX2_init 22 = .ok (.newarray .int, 2) := by decide +kernel
theorem dX2_init_24 : decode cX2_init 24 = .ok (.putfield 18, 3) := by decide +kernel
theorem dX2_init_27 : decode cX2_init 27 = .ok (.aload_n 0, 1) := by decide +kernel
theorem dX2_init_28 : decode cX2_init 28 = .ok (.aload_n 1, 1) := by decide +kernel
theorem dX2_init_29 : decode cX2_init 29 = .ok (.putfield 21, 3) := by decide +kernel
theorem dX2_init_32 : decode cX2_init 32 = .ok (.aload_n 0, 1) := by decide +kernel
theorem dX2_init_33 : decode cX2_init 33 = .ok (.aload_n 2, 1) := by decide +kernel
theorem dX2_init_34 : decode cX2_init 34 = .ok (.putfield 25, 3) := by decide +kernel
theorem dX2_init_37 : decode cX2_init 37 = .ok (.aload_n 0, 1) := by decide +kernel
theorem dX2_init_38 : decode cX2_init 38 = .ok (.aload_n 3, 1) := by decide +kernel
theorem dX2_init_39 : decode cX2_init 39 = .ok (.putfield 29, 3) := by decide +kernel
theorem dX2_init_42 : decode cX2_init 42 = .ok (.return_, 1) := by decide +kernel
theorem dX2_found_0 : decode cX2_found 0 = .ok (.iload_n 1, 1) := by decide +kernel
theorem dX2_found_1 : decode cX2_found 1 = .ok (.ifCond .lt 17, 3) := by decide +kernel
theorem dX2_found_4 : decode cX2_found 4 = .ok (.iload_n 1, 1) := by decide +kernel
theorem dX2_found_5 : decode cX2_found 5 = .ok (.iconst 3, 1) := by decide +kernel
theorem dX2_found_6 : decode cX2_found 6 = .ok (.if_icmp .ge 12, 3) := by decide +kernel
theorem dX2_found_9 : decode cX2_found 9 = .ok (.aload_n 0, 1) := by decide +kernel
theorem dX2_found_10 : decode cX2_found 10 = .ok (.getfield 11, 3) := by decide +kernel
theorem dX2_found_13 : decode cX2_found 13 = .ok (.iload_n 1, 1) := by decide +kernel
theorem dX2_found_14 : decode cX2_found 14 = .ok (.iaload, 1) := by decide +kernel
theorem dX2_found_15 : decode cX2_found 15 = .ok (.goto 4, 3) := by decide +kernel
theorem dX2_found_18 : decode cX2_found 18 = .ok (.iconst (-1), 1) := by decide +kernel
theorem dX2_found_19 : decode cX2_found 19 = .ok (.ireturn, 1) := by decide +kernel
theorem dX2_search_0 : decode cX2_search 0 = .ok (.aload_n 0, 1) := by decide +kernel
theorem dX2_search_1 : decode cX2_search 1 = .ok (.iload_n 1, 1) := by decide +kernel
theorem dX2_search_2 : decode cX2_search 2 = .ok (.invokevirtual 33, 3) := by decide +kernel
theorem dX2_search_5 : decode cX2_search 5 = .ok (.aload_n 0, 1) := by decide +kernel
theorem dX2_search_6 : decode cX2_search 6 = .ok (.getfield 25, 3) := by decide +kernel
theorem dX2_search_9 : decode cX2_search 9 = .ok (.invokevirtual 37, 3) := by decide +kernel
theorem dX2_search_12 : decode cX2_search 12 = .ok (.istore_n 3, 1) := by decide +kernel
theorem dX2_search_13 : decode cX2_search 13 = .ok (.aload_n 0, 1) := by decide +kernel
theorem dX2_search_14 : decode cX2_search 14 = .ok (.getfield 29, 3) := by decide +kernel
theorem dX2_search_17 : decode cX2_search 17 = .ok (.iload_n 1, 1) := by decide +kernel
theorem dX2_search_18 : decode cX2_search 18 = .ok (.invokevirtual 43, 3) := by decide +kernel
theorem dX2_search_21 : decode cX2_search 21 = .ok (.istore 4, 2) := by decide +kernel
theorem dX2_search_23 : decode cX2_search 23 = .ok (.aload_n 0, 1) := by decide +kernel
theorem dX2_search_24 : decode cX2_search 24 = .ok (.getfield 29, 3) := by decide +kernel
theorem dX2_search_27 : decode cX2_search 27 = .ok (.iload_n 1, 1) := by decide +kernel
theorem dX2_search_28 : decode cX2_search 28 = .ok (.invokevirtual 49, 3) := by decide +kernel
theorem dX2_search_31 : decode cX2_search 31 = .ok (.istore 5, 2) := by decide +kernel
theorem dX2_search_33 : decode cX2_search 33 = .ok (.iconst 0, 1) := by decide +kernel
theorem dX2_search_34 : decode cX2_search 34 = .ok (.istore 6, 2) := by decide +kernel
theorem dX2_search_36 : decode cX2_search 36 = .ok (.iload_n 3, 1) := by decide +kernel
theorem dX2_search_37 : decode cX2_search 37 = .ok (.istore 7, 2) := by decide +kernel
theorem dX2_search_39 : decode cX2_search 39 = .ok (.iconst 0, 1) := by decide +kernel
theorem dX2_search_40 : decode cX2_search 40 = .ok (.istore 8, 2) := by decide +kernel
theorem dX2_search_42 : decode cX2_search 42 = .ok (.iconst 0, 1) := by decide +kernel
theorem dX2_search_43 : decode cX2_search 43 = .ok (.istore 9, 2) := by decide +kernel
theorem dX2_search_45 : decode cX2_search 45 = .ok (.iload 9, 2) := by decide +kernel
theorem dX2_search_47 : decode cX2_search 47 = .ok (.iload_n 3, 1) := by decide +kernel
theorem dX2_search_48 : decode cX2_search 48 = .ok (.if_icmp .gt 49, 3) := by decide +kernel
theorem dX2_search_51 : decode cX2_search 51 = .ok (.iload 9, 2) := by decide +kernel
theorem dX2_search_53 : decode cX2_search 53 = .ok (.iload_n 3, 1) := by decide +kernel
theorem dX2_search_54 : decode cX2_search 54 = .ok (.iconst (-1), 1) := by decide +kernel
theorem dX2_search_55 : decode cX2_search 55 = .ok (.ixor, 1) := by decide +kernel
theorem dX2_search_56 : decode cX2_search 56 = .ok (.iand, 1) := by decide +kernel
theorem dX2_search_57 : decode cX2_search 57 = .ok (.ifCond .ne 34, 3) := by decide +kernel
theorem dX2_search_60 : decode cX2_search 60 = .ok (.aload_n 0, 1) := by decide +kernel
theorem dX2_search_61 : decode cX2_search 61 = .ok (.iload 9, 2) := by decide +kernel
theorem dX2_search_63 : decode cX2_search 63 = .ok (.iload 4, 2) := by decide +kernel
theorem dX2_search_65 : decode cX2_search 65 = .ok (.iload 5, 2) := by decide +kernel
theorem dX2_search_67 : decode cX2_search 67 = .ok (.invokevirtual 52, 3) := by decide +kernel
theorem dX2_search_70 : decode cX2_search 70 = .ok (.iload_n 2, 1) := by decide +kernel
theorem dX2_search_71 : decode cX2_search 71 = .ok (.if_icmp .ne 20, 3) := by decide +kernel
theorem dX2_search_74 : decode cX2_search 74 = .ok (.iinc 6 1, 3) := by decide +kernel
theorem dX2_search_77 : decode cX2_search 77 = .ok (.iload 7, 2) := by decide +kernel
theorem dX2_search_79 : decode cX2_search 79 = .ok (.iload 9, 2) := by decide +kernel
theorem dX2_search_81 : decode cX2_search 81 = .ok (.iand, 1) := by decide +kernel
theorem dX2_search_82 : decode cX2_search 82 = .ok (.istore 7, 2) := by decide +kernel
theorem dX2_search_84 : decode cX2_search 84 = .ok (.iload 8, 2) := by decide +kernel
theorem dX2_search_86 : decode cX2_search 86 = .ok (.iload 9, 2) := by decide +kernel
theorem dX2_search_88 : decode cX2_search 88 = .ok (.ior, 1) := by decide +kernel
theorem dX2_search_89 : decode cX2_search 89 = .ok (.istore 8, 2) := by decide +kernel
theorem dX2_search_91 : decode cX2_search 91 = .ok (.iinc 9 1, 3) := by decide +kernel
theorem dX2_search_94 : decode cX2_search 94 = .ok (.goto (-49), 3) := by decide +kernel
theorem dX2_search_97 : decode cX2_search 97 = .ok (.aload_n 0, 1) := by decide +kernel
theorem dX2_search_98 : decode cX2_search 98 = .ok (.getfield 11, 3) := by decide +kernel
theorem dX2_search_101 : decode cX2_search 101 = .ok (.iconst 0, 1) := by decide +kernel
theorem dX2_search_102 : decode cX2_search 102 = .ok (.iload 6, 2) := by decide +kernel
theorem dX2_search_104 : decode cX2_search 104 = .ok (.iastore, 1) := by decide +kernel
theorem dX2_search_105 : decode cX2_search 105 = .ok (.aload_n 0, 1) := by decide +kernel
theorem dX2_search_106 : decode cX2_search 106 = .ok (.getfield 11, 3) := by decide +kernel
theorem dX2_search_109 : decode cX2_search 109 = .ok (.iconst 1, 1) := by decide +kernel
theorem dX2_search_110 : decode cX2_search 110 = .ok (.iload 6, 2) := by decide +kernel
theorem dX2_search_112 : decode cX2_search 112 = .ok (.ifCond .ne 7, 3) := by decide +kernel
theorem dX2_search_115 : decode cX2_search 115 = .ok (.iconst 0, 1) := by decide +kernel
theorem dX2_search_116 : decode cX2_search 116 = .ok (.goto 5, 3) := by decide +kernel
theorem dX2_search_119 : decode cX2_search 119 = .ok (.iload 7, 2) := by decide +kernel
theorem dX2_search_121 : decode cX2_search 121 = .ok (.iastore, 1) := by decide +kernel
theorem dX2_search_122 : decode cX2_search 122 = .ok (.aload_n 0, 1) := by decide +kernel
theorem dX2_search_123 : decode cX2_search 123 = .ok (.getfield 11, 3) := by decide +kernel
theorem dX2_search_126 : decode cX2_search 126 = .ok (.iconst 2, 1) := by decide +kernel
theorem dX2_search_127 : decode cX2_search 127 = .ok (.iload 8, 2) := by decide +kernel
theorem dX2_search_129 : decode cX2_search 129 = .ok (.iastore, 1) := by decide +kernel
theorem dX2_search_130 : decode cX2_search 130 = .ok (.return_, 1) := by decide +kernel
theorem dX2_measureChanges_0 : decode cX2_measureChanges 0 = .ok (.iconst 0, 1) := by decide +kernel
theorem dX2_measureChanges_1 : decode cX2_measureChanges 1 = .ok (.istore_n 2, 1) := by decide +kernel
theorem dX2_measureChanges_2 : decode cX2_measureChanges 2 = .ok (.iload_n 2, 1) := by decide +kernel
theorem dX2_measureChanges_3 : decode cX2_measureChanges 3 = .ok (.bipush 8, 2) := by decide +kernel
theorem dX2_measureChanges_5 : decode cX2_measureChanges 5 = .ok (.if_icmp .ge 96, 3) := by decide +kernel
theorem dX2_measureChanges_8 : decode cX2_measureChanges 8 = .ok (.aload_n 0, 1) := by decide +kernel
theorem dX2_measureChanges_9 : decode cX2_measureChanges 9 = .ok (.getfield 25, 3) := by decide +kernel
theorem dX2_measureChanges_12 : decode cX2_measureChanges 12 = .ok (.iload_n 2, 1) := by decide +kernel
theorem dX2_measureChanges_13 : decode cX2_measureChanges 13 = .ok (.iload_n 1, 1) := by decide +kernel
theorem dX2_measureChanges_14 : decode cX2_measureChanges 14 = .ok (.invokevirtual 56, 3) := by decide +kernel
theorem dX2_measureChanges_17 : decode cX2_measureChanges 17 = .ok (.istore_n 3, 1) := by decide +kernel
theorem dX2_measureChanges_18 : decode cX2_measureChanges 18 = .ok (.aload_n 0, 1) := by decide +kernel
theorem dX2_measureChanges_19 : decode cX2_measureChanges 19 = .ok (.getfield 25, 3) := by decide +kernel
theorem dX2_measureChanges_22 : decode cX2_measureChanges 22 = .ok (.iload_n 2, 1) := by decide +kernel
theorem dX2_measureChanges_23 : decode cX2_measureChanges 23 = .ok (.iload_n 1, 1) := by decide +kernel
theorem dX2_measureChanges_24 : decode cX2_measureChanges 24 = .ok (.iconst 1, 1) := by decide +kernel
theorem dX2_measureChanges_25 : decode cX2_measureChanges 25 = .ok (.isub, 1) := by decide +kernel
theorem dX2_measureChanges_26 : decode cX2_measureChanges 26 = .ok (.invokevirtual 56, 3) := by decide +kernel
theorem dX2_measureChanges_29 : decode cX2_measureChanges 29 = .ok (.istore 4, 2) := by decide +kernel
theorem dX2_measureChanges_31 : decode cX2_measureChanges 31 = .ok (.aload_n 0, 1) := by decide +kernel
theorem dX2_measureChanges_32 : decode cX2_measureChanges 32 = .ok (.getfield 25, 3) := by decide +kernel
theorem dX2_measureChanges_35 : decode cX2_measureChanges 35 = .ok (.iload_n 2, 1) := by decide +kernel
theorem dX2_measureChanges_36 : decode cX2_measureChanges 36 = .ok (.invokevirtual 60, 3) := by decide +kernel
theorem dX2_measureChanges_39 : decode cX2_measureChanges 39 = .ok (.istore 5, 2) := by decide +kernel
theorem dX2_measureChanges_41 : decode cX2_measureChanges 41 = .ok (.aload_n 0, 1) := by decide +kernel
theorem dX2_measureChanges_42 : decode cX2_measureChanges 42 = .ok (.getfield 15, 3) := by decide +kernel
theorem dX2_measureChanges_45 : decode cX2_measureChanges 45 = .ok (.iload_n 2, 1) := by decide +kernel
theorem dX2_measureChanges_46 : decode cX2_measureChanges 46 = .ok (.iload 5, 2) := by decide +kernel
theorem dX2_measureChanges_48 : decode cX2_measureChanges 48 = .ok (.aload_n 0, 1) := by decide +kernel
theorem dX2_measureChanges_49 : decode cX2_measureChanges 49 = .ok (.getfield 21, 3) := by decide +kernel
theorem dX2_measureChanges_52 : decode cX2_measureChanges 52 = .ok (.iload 4, 2) := by decide +kernel
theorem dX2_measureChanges_54 : decode cX2_measureChanges 54 = .ok (.invokevirtual 63, 3) := by decide +kernel
theorem dX2_measureChanges_57 : decode cX2_measureChanges 57 = .ok (.aload_n 0, 1) := by decide +kernel
theorem dX2_measureChanges_58 : decode cX2_measureChanges 58 = .ok (.getfield 21, 3) := by decide +kernel
theorem dX2_measureChanges_61 : decode cX2_measureChanges 61 = .ok (.iload_n 3, 1) := by decide +kernel
theorem dX2_measureChanges_62 : decode cX2_measureChanges 62 = .ok (.invokevirtual 63, 3) := by decide +kernel
theorem dX2_measureChanges_65 : decode cX2_measureChanges 65 = .ok (.isub, 1) := by decide +kernel
theorem dX2_measureChanges_66 : decode cX2_measureChanges 66 = .ok (.imul, 1) := by decide +kernel
theorem dX2_measureChanges_67 : decode cX2_measureChanges 67 = .ok (.iastore, 1) := by decide +kernel
theorem dX2_measureChanges_68 : decode cX2_measureChanges 68 = .ok (.aload_n 0, 1) := by decide +kernel
theorem dX2_measureChanges_69 : decode cX2_measureChanges 69 = .ok (.getfield 18, 3) := by decide +kernel
theorem dX2_measureChanges_72 : decode cX2_measureChanges 72 = .ok (.iload_n 2, 1) := by decide +kernel
theorem dX2_measureChanges_73 : decode cX2_measureChanges 73 = .ok (.iload 5, 2) := by decide +kernel
theorem dX2_measureChanges_75 : decode cX2_measureChanges 75 = .ok (.aload_n 0, 1) := by decide +kernel
theorem dX2_measureChanges_76 : decode cX2_measureChanges 76 = .ok (.getfield 21, 3) := by decide +kernel
theorem dX2_measureChanges_79 : decode cX2_measureChanges 79 = .ok (.iload 4, 2) := by decide +kernel
theorem dX2_measureChanges_81 : decode cX2_measureChanges 81 = .ok (.invokevirtual 68, 3) := by decide +kernel
theorem dX2_measureChanges_84 : decode cX2_measureChanges 84 = .ok (.aload_n 0, 1) := by decide +kernel
theorem dX2_measureChanges_85 : decode cX2_measureChanges 85 = .ok (.getfield 21, 3) := by decide +kernel
theorem dX2_measureChanges_88 : decode cX2_measureChanges 88 = .ok (.iload_n 3, 1) := by decide +kernel
theorem dX2_measureChanges_89 : decode cX2_measureChanges 89 = .ok (.invokevirtual 68, 3) := by decide +kernel
theorem dX2_measureChanges_92 : decode cX2_measureChanges 92 = .ok (.isub, 1) := by decide +kernel
theorem dX2_measureChanges_93 : decode cX2_measureChanges 93 = .ok (.imul, 1) := by decide +kernel
theorem dX2_measureChanges_94 : decode cX2_measureChanges 94 = .ok (.iastore, 1) := by decide +kernel
theorem dX2_measureChanges_95 : decode cX2_measureChanges 95 = .ok (.iinc 2 1, 3) := by decide +kernel
theorem dX2_measureChanges_98 : decode cX2_measureChanges 98 = .ok (.goto (-96), 3) := by decide +kernel
theorem dX2_measureChanges_101 : decode cX2_measureChanges 101 = .ok (.return_, 1) := by decide +kernel
theorem dX2_wetDoorsIfLate_0 : decode cX2_wetDoorsIfLate 0 = .ok (.iload_n 2, 1) := by decide +kernel
theorem dX2_wetDoorsIfLate_1 : decode cX2_wetDoorsIfLate 1 = .ok (.istore 4, 2) := by decide +kernel
theorem dX2_wetDoorsIfLate_3 : decode cX2_wetDoorsIfLate 3 = .ok (.iload_n 3, 1) := by decide +kernel
theorem dX2_wetDoorsIfLate_4 : decode cX2_wetDoorsIfLate 4 = .ok (.istore 5, 2) := by decide +kernel
theorem dX2_wetDoorsIfLate_6 : decode cX2_wetDoorsIfLate 6 = .ok (.iconst 0, 1) := by decide +kernel
theorem dX2_wetDoorsIfLate_7 : decode cX2_wetDoorsIfLate 7 = .ok (.istore 6, 2) := by decide +kernel
theorem dX2_wetDoorsIfLate_9 : decode cX2_wetDoorsIfLate 9 = .ok (.iload 6, 2) := by decide +kernel
theorem dX2_wetDoorsIfLate_11 : decode cX2_wetDoorsIfLate 11 = .ok (.bipush 8, 2) := by decide +kernel
theorem dX2_wetDoorsIfLate_13 : decode cX2_wetDoorsIfLate 13 = .ok (.if_icmp .ge 42, 3) := by decide +kernel
theorem dX2_wetDoorsIfLate_16 : decode cX2_wetDoorsIfLate 16 = .ok (.iload_n 1, 1) := by decide +kernel
theorem dX2_wetDoorsIfLate_17 : decode cX2_wetDoorsIfLate 17 = .ok (.iconst 1, 1) := by decide +kernel
theorem dX2_wetDoorsIfLate_18 : decode cX2_wetDoorsIfLate 18 = .ok (.iload 6, 2) := by decide +kernel
theorem dX2_wetDoorsIfLate_20 : decode cX2_wetDoorsIfLate 20 = .ok (.ishl, 1) := by decide +kernel
theorem dX2_wetDoorsIfLate_21 : decode cX2_wetDoorsIfLate 21 = .ok (.iand, 1) := by decide +kernel
theorem dX2_wetDoorsIfLate_22 : decode cX2_wetDoorsIfLate 22 = .ok (.ifCond .eq 27, 3) := by decide +kernel
theorem dX2_wetDoorsIfLate_25 : decode cX2_wetDoorsIfLate 25 = .ok (.iload 4, 2) := by decide +kernel
theorem dX2_wetDoorsIfLate_27 : decode cX2_wetDoorsIfLate 27 = .ok (.aload_n 0, 1) := by decide +kernel
theorem dX2_wetDoorsIfLate_28 : decode cX2_wetDoorsIfLate 28 = .ok (.getfield 15, 3) := by decide +kernel
theorem dX2_wetDoorsIfLate_31 : decode cX2_wetDoorsIfLate 31 = .ok (.iload 6, 2) := by decide +kernel
theorem dX2_wetDoorsIfLate_33 : decode cX2_wetDoorsIfLate 33 = .ok (.iaload, 1) := by decide +kernel
theorem dX2_wetDoorsIfLate_34 : decode cX2_wetDoorsIfLate 34 = .ok (.iadd, 1) := by decide +kernel
theorem dX2_wetDoorsIfLate_35 : decode cX2_wetDoorsIfLate 35 = .ok (.istore 4, 2) := by decide +kernel
theorem dX2_wetDoorsIfLate_37 : decode cX2_wetDoorsIfLate 37 = .ok (.iload 5, 2) := by decide +kernel
theorem dX2_wetDoorsIfLate_39 : decode cX2_wetDoorsIfLate 39 = .ok (.aload_n 0, 1) := by decide +kernel
theorem dX2_wetDoorsIfLate_40 : decode cX2_wetDoorsIfLate 40 = .ok (.getfield 18, 3) := by decide +kernel
theorem dX2_wetDoorsIfLate_43 : decode cX2_wetDoorsIfLate 43 = .ok (.iload 6, 2) := by decide +kernel
theorem dX2_wetDoorsIfLate_45 : decode cX2_wetDoorsIfLate 45 = .ok (.iaload, 1) := by decide +kernel
theorem dX2_wetDoorsIfLate_46 : decode cX2_wetDoorsIfLate 46 = .ok (.iadd, 1) := by decide +kernel
theorem dX2_wetDoorsIfLate_47 : decode cX2_wetDoorsIfLate 47 = .ok (.istore 5, 2) := by decide +kernel
theorem dX2_wetDoorsIfLate_49 : decode cX2_wetDoorsIfLate 49 = .ok (.iinc 6 1, 3) := by decide +kernel
theorem dX2_wetDoorsIfLate_52 : decode cX2_wetDoorsIfLate 52 = .ok (.goto (-43), 3) := by decide +kernel
theorem dX2_wetDoorsIfLate_55 : decode cX2_wetDoorsIfLate 55 = .ok (.aload_n 0, 1) := by decide +kernel
theorem dX2_wetDoorsIfLate_56 : decode cX2_wetDoorsIfLate 56 = .ok (.getfield 21, 3) := by decide +kernel
theorem dX2_wetDoorsIfLate_59 : decode cX2_wetDoorsIfLate 59 = .ok (.iload 4, 2) := by decide +kernel
theorem dX2_wetDoorsIfLate_61 : decode cX2_wetDoorsIfLate 61 = .ok (.iload 5, 2) := by decide +kernel
theorem dX2_wetDoorsIfLate_63 : decode cX2_wetDoorsIfLate 63 = .ok (.invokevirtual 71, 3) := by decide +kernel
theorem dX2_wetDoorsIfLate_66 : decode cX2_wetDoorsIfLate 66 = .ok (.ireturn, 1) := by decide +kernel
theorem dX3_init_0 : decode cX3_init 0 = .ok (.aload_n 0, 1) := by decide +kernel
theorem dX3_init_1 : decode cX3_init 1 = .ok (.invokespecial 3, 3) := by decide +kernel
theorem dX3_init_4 : decode cX3_init 4 = .ok (.aload_n 0, 1) := by decide +kernel
theorem dX3_init_5 : decode cX3_init 5 = .ok (.bipush 40, 2) := by decide +kernel
theorem dX3_init_7 : decode cX3_init 7 = .ok (.newarray .char, 2) := by decide +kernel
theorem dX3_init_9 : decode cX3_init 9 = .ok (.putfield 9, 3) := by decide +kernel
theorem dX3_init_12 : decode cX3_init 12 = .ok (.return_, 1) := by decide +kernel
theorem dX3_length_0 : decode cX3_length 0 = .ok (.aload_n 0, 1) := by decide +kernel
theorem dX3_length_1 : decode cX3_length 1 = .ok (.getfield 15, 3) := by decide +kernel
theorem dX3_length_4 : decode cX3_length 4 = .ok (.ireturn, 1) := by decide +kernel
theorem dX3_letter_0 : decode cX3_letter 0 = .ok (.iload_n 1, 1) := by decide +kernel
theorem dX3_letter_1 : decode cX3_letter 1 = .ok (.ifCond .lt 20, 3) := by decide +kernel
theorem dX3_letter_4 : decode cX3_letter 4 = .ok (.iload_n 1, 1) := by decide +kernel
theorem dX3_letter_5 : decode cX3_letter 5 = .ok (.aload_n 0, 1) := by decide +kernel
theorem dX3_letter_6 : decode cX3_letter 6 = .ok (.getfield 15, 3) := by decide +kernel
theorem dX3_letter_9 : decode cX3_letter 9 = .ok (.if_icmp .ge 12, 3) := by decide +kernel
theorem dX3_letter_12 : decode cX3_letter 12 = .ok (.aload_n 0, 1) := by decide +kernel
theorem dX3_letter_13 : decode cX3_letter 13 = .ok (.getfield 9, 3) := by decide +kernel
theorem dX3_letter_16 : decode cX3_letter 16 = .ok (.iload_n 1, 1) := by decide +kernel
theorem dX3_letter_17 : decode cX3_letter 17 = .ok (.caload, 1) := by decide +kernel
theorem dX3_letter_18 : decode cX3_letter 18 = .ok (.goto 4, 3) := by decide +kernel
theorem dX3_letter_21 : decode cX3_letter 21 = .ok (.iconst 0, 1) := by decide +kernel
theorem dX3_letter_22 : decode cX3_letter 22 = .ok (.ireturn, 1) := by decide +kernel
theorem dX3_clear_0 : decode cX3_clear 0 = .ok (.aload_n 0, 1) := by decide +kernel
theorem dX3_clear_1 : decode cX3_clear 1 = .ok (.iconst 0, 1) := by decide +kernel
theorem dX3_clear_2 : decode cX3_clear 2 = .ok (.putfield 15, 3) := by decide +kernel
theorem dX3_clear_5 : decode cX3_clear 5 = .ok (.return_, 1) := by decide +kernel
theorem dX3_add_0 : decode cX3_add 0 = .ok (.lload_n 1, 1) := by decide +kernel
theorem dX3_add_1 : decode cX3_add 1 = .ok (.invokestatic 19, 3) := by decide +kernel
theorem dX3_add_4 : decode cX3_add 4 = .ok (.istore_n 3, 1) := by decide +kernel
theorem dX3_add_5 : decode cX3_add 5 = .ok (.iload_n 3, 1) := by decide +kernel
theorem dX3_add_6 : decode cX3_add 6 = .ok (.bipush (-102), 2) := by decide +kernel
theorem dX3_add_8 : decode cX3_add 8 = .ok (.if_icmp .ne 6, 3) := by decide +kernel
theorem dX3_add_11 : decode cX3_add 11 = .ok (.bipush (-102), 2) := by decide +kernel
theorem dX3_add_13 : decode cX3_add 13 = .ok (.ireturn, 1) := by decide +kernel
theorem dX3_add_14 : decode cX3_add 14 = .ok (.aload_n 0, 1) := by decide +kernel
theorem dX3_add_15 : decode cX3_add 15 = .ok (.getfield 15, 3) := by decide +kernel
theorem dX3_add_18 : decode cX3_add 18 = .ok (.iload_n 3, 1) := by decide +kernel
theorem dX3_add_19 : decode cX3_add 19 = .ok (.iadd, 1) := by decide +kernel
theorem dX3_add_20 : decode cX3_add 20 = .ok (.bipush 40, 2) := by decide +kernel
theorem dX3_add_22 : decode cX3_add 22 = .ok (.if_icmp .le 6, 3) := by decide +kernel
theorem dX3_add_25 : decode cX3_add 25 = .ok (.bipush (-104), 2) := by decide +kernel
theorem dX3_add_27 : decode cX3_add 27 = .ok (.ireturn, 1) := by decide +kernel
theorem dX3_add_28 : decode cX3_add 28 = .ok (.iconst 0, 1) := by decide +kernel
theorem dX3_add_29 : decode cX3_add 29 = .ok (.istore 4, 2) := by decide +kernel
theorem dX3_add_31 : decode cX3_add 31 = .ok (.iload 4, 2) := by decide +kernel
theorem dX3_add_33 : decode cX3_add 33 = .ok (.iload_n 3, 1) := by decide +kernel
theorem dX3_add_34 : decode cX3_add 34 = .ok (.if_icmp .ge 28, 3) := by decide +kernel
theorem dX3_add_37 : decode cX3_add 37 = .ok (.aload_n 0, 1) := by decide +kernel
theorem dX3_add_38 : decode cX3_add 38 = .ok (.getfield 9, 3) := by decide +kernel
theorem dX3_add_41 : decode cX3_add 41 = .ok (.aload_n 0, 1) := by decide +kernel
theorem dX3_add_42 : decode cX3_add 42 = .ok (.getfield 15, 3) := by decide +kernel
theorem dX3_add_45 : decode cX3_add 45 = .ok (.iload 4, 2) := by decide +kernel
theorem dX3_add_47 : decode cX3_add 47 = .ok (.iadd, 1) := by decide +kernel
theorem dX3_add_48 : decode cX3_add 48 = .ok (.lload_n 1, 1) := by decide +kernel
theorem dX3_add_49 : decode cX3_add 49 = .ok (.iload 4, 2) := by decide +kernel
theorem dX3_add_51 : decode cX3_add 51 = .ok (.invokestatic 23, 3) := by decide +kernel
theorem dX3_add_54 : decode cX3_add 54 = .ok (.i2c, 1) := by decide +kernel
theorem dX3_add_55 : decode cX3_add 55 = .ok (.castore, 1) := by decide +kernel
theorem dX3_add_56 : decode cX3_add 56 = .ok (.iinc 4 1, 3) := by decide +kernel
theorem dX3_add_59 : decode cX3_add 59 = .ok (.goto (-28), 3) := by decide +kernel
theorem dX3_add_62 : decode cX3_add 62 = .ok (.aload_n 0, 1) := by decide +kernel
theorem dX3_add_63 : decode cX3_add 63 = .ok (.dup, 1) := by decide +kernel
theorem dX3_add_64 : decode cX3_add 64 = .ok (.getfield 15, 3) := by decide +kernel
theorem dX3_add_67 : decode cX3_add 67 = .ok (.iload_n 3, 1) := by decide +kernel
theorem dX3_add_68 : decode cX3_add 68 = .ok (.iadd, 1) := by decide +kernel
theorem dX3_add_69 : decode cX3_add 69 = .ok (.putfield 15, 3) := by decide +kernel
theorem dX3_add_72 : decode cX3_add 72 = .ok (.aload_n 0, 1) := by decide +kernel
theorem dX3_add_73 : decode cX3_add 73 = .ok (.getfield 15, 3) := by decide +kernel
theorem dX3_add_76 : decode cX3_add 76 = .ok (.ireturn, 1) := by decide +kernel
theorem dX3_lettersTold_0 : decode cX3_lettersTold 0 = .ok (.iconst 0, 1) := by decide +kernel
theorem dX3_lettersTold_1 : decode cX3_lettersTold 1 = .ok (.istore_n 2, 1) := by decide +kernel
theorem dX3_lettersTold_2 : decode cX3_lettersTold 2 = .ok (.iconst 0, 1) := by decide +kernel
theorem dX3_lettersTold_3 : decode cX3_lettersTold 3 = .ok (.istore_n 3, 1) := by decide +kernel
theorem dX3_lettersTold_4 : decode cX3_lettersTold 4 = .ok (.iload_n 3, 1) := by decide +kernel
theorem dX3_lettersTold_5 : decode cX3_lettersTold 5 = .ok (.bipush 8, 2) := by decide +kernel
theorem dX3_lettersTold_7 : decode cX3_lettersTold 7 = .ok (.if_icmp .ge 56, 3) := by decide +kernel
theorem dX3_lettersTold_10 : decode cX3_lettersTold 10 = .ok (.lload_n 0, 1) := by decide +kernel
theorem dX3_lettersTold_11 : decode cX3_lettersTold 11 = .ok (.iload_n 3, 1) := by decide +kernel
theorem dX3_lettersTold_12 : decode cX3_lettersTold 12 = .ok (.invokestatic 23, 3) := by decide +kernel
theorem dX3_lettersTold_15 : decode cX3_lettersTold 15 = .ok (.istore 4, 2) := by decide +kernel
theorem dX3_lettersTold_17 : decode cX3_lettersTold 17 = .ok (.iload 4, 2) := by decide +kernel
theorem dX3_lettersTold_19 : decode cX3_lettersTold 19 = .ok (.ifCond .eq 12, 3) := by decide +kernel
theorem dX3_lettersTold_22 : decode cX3_lettersTold 22 = .ok (.iload_n 2, 1) := by decide +kernel
theorem dX3_lettersTold_23 : decode cX3_lettersTold 23 = .ok (.iload_n 3, 1) := by decide +kernel
theorem dX3_lettersTold_24 : decode cX3_lettersTold 24 = .ok (.if_icmp .ge 7, 3) := by decide +kernel
theorem dX3_lettersTold_27 : decode cX3_lettersTold 27 = .ok (.iconst 1, 1) := by decide +kernel
theorem dX3_lettersTold_28 : decode cX3_lettersTold 28 = .ok (.goto 4, 3) := by decide +kernel
theorem dX3_lettersTold_31 : decode cX3_lettersTold 31 = .ok (.iconst 0, 1) := by decide +kernel
theorem dX3_lettersTold_32 : decode cX3_lettersTold 32 = .ok (.istore 5, 2) := by decide +kernel
theorem dX3_lettersTold_34 : decode cX3_lettersTold 34 = .ok (.iload 4, 2) := by decide +kernel
theorem dX3_lettersTold_36 : decode cX3_lettersTold 36 = .ok (.bipush 126, 2) := by decide +kernel
theorem dX3_lettersTold_38 : decode cX3_lettersTold 38 = .ok (.if_icmp .gt 8, 3) := by decide +kernel
theorem dX3_lettersTold_41 : decode cX3_lettersTold 41 = .ok (.iload 5, 2) := by decide +kernel
theorem dX3_lettersTold_43 : decode cX3_lettersTold 43 = .ok (.ifCond .eq 6, 3) := by decide +kernel
theorem dX3_lettersTold_46 : decode cX3_lettersTold 46 = .ok (.bipush (-102), 2) := by decide +kernel
theorem dX3_lettersTold_48 : decode cX3_lettersTold 48 = .ok (.ireturn, 1) := by decide +kernel
theorem dX3_lettersTold_49 : decode cX3_lettersTold 49 = .ok (.iload 4, 2) := by decide +kernel
theorem dX3_lettersTold_51 : decode cX3_lettersTold 51 = .ok (.ifCond .eq 6, 3) := by decide +kernel
theorem dX3_lettersTold_54 : decode cX3_lettersTold 54 = .ok (.iinc 2 1, 3) := by decide +kernel
theorem dX3_lettersTold_57 : decode cX3_lettersTold 57 = .ok (.iinc 3 1, 3) := by decide +kernel
theorem dX3_lettersTold_60 : decode cX3_lettersTold 60 = .ok (.goto (-56), 3) := by decide +kernel
theorem dX3_lettersTold_63 : decode cX3_lettersTold 63 = .ok (.iload_n 2, 1) := by decide +kernel
theorem dX3_lettersTold_64 : decode cX3_lettersTold 64 = .ok (.ireturn, 1) := by decide +kernel
theorem dX3_codeAt_0 : decode cX3_codeAt 0 = .ok (.lload_n 0, 1) := by decide +kernel
theorem dX3_codeAt_1 : decode cX3_codeAt 1 = .ok (.bipush 8, 2) := by decide +kernel
theorem dX3_codeAt_3 : decode cX3_codeAt 3 = .ok (.iload_n 2, 1) := by decide +kernel
theorem dX3_codeAt_4 : decode cX3_codeAt 4 = .ok (.imul, 1) := by decide +kernel
theorem dX3_codeAt_5 : decode cX3_codeAt 5 = .ok (.lushr, 1) := by decide +kernel
theorem dX3_codeAt_6 : decode cX3_codeAt 6 = .ok (.ldc2_w 27, 3) := by decide +kernel
theorem dX3_codeAt_9 : decode cX3_codeAt 9 = .ok (.land, 1) := by decide +kernel
theorem dX3_codeAt_10 : decode cX3_codeAt 10 = .ok (.l2i, 1) := by decide +kernel
theorem dX3_codeAt_11 : decode cX3_codeAt 11 = .ok (.ireturn, 1) := by decide +kernel
theorem dX3_wayFault_0 : decode cX3_wayFault 0 = .ok (.iconst 0, 1) := by decide +kernel
theorem dX3_wayFault_1 : decode cX3_wayFault 1 = .ok (.istore_n 1, 1) := by decide +kernel
theorem dX3_wayFault_2 : decode cX3_wayFault 2 = .ok (.iload_n 1, 1) := by decide +kernel
theorem dX3_wayFault_3 : decode cX3_wayFault 3 = .ok (.aload_n 0, 1) := by decide +kernel
theorem dX3_wayFault_4 : decode cX3_wayFault 4 = .ok (.getfield 15, 3) := by decide +kernel
theorem dX3_wayFault_7 : decode cX3_wayFault 7 = .ok (.if_icmp .ge 25, 3) := by decide +kernel
theorem dX3_wayFault_10 : decode cX3_wayFault 10 = .ok (.iload_n 1, 1) := by decide +kernel
theorem dX3_wayFault_11 : decode cX3_wayFault 11 = .ok (.bipush 7, 2) := by decide +kernel
theorem dX3_wayFault_13 : decode cX3_wayFault 13 = .ok (.if_icmp .ge 11, 3) := by decide +kernel
theorem dX3_wayFault_16 : decode cX3_wayFault 16 = .ok (.aload_n 0, 1) := by decide +kernel
theorem dX3_wayFault_17 : decode cX3_wayFault 17 = .ok (.iload_n 1, 1) := by decide +kernel
theorem dX3_wayFault_18 : decode cX3_wayFault 18 = .ok (.invokevirtual 33, 3) := by decide +kernel
theorem dX3_wayFault_21 : decode cX3_wayFault 21 = .ok (.ifCond .ne 5, 3) := by decide +kernel
theorem dX3_wayFault_24 : decode cX3_wayFault 24 = .ok (.iload_n 1, 1) := by decide +kernel
theorem dX3_wayFault_25 : decode cX3_wayFault 25 = .ok (.ireturn, 1) := by decide +kernel
theorem dX3_wayFault_26 : decode cX3_wayFault 26 = .ok (.iinc 1 1, 3) := by decide +kernel
theorem dX3_wayFault_29 : decode cX3_wayFault 29 = .ok (.goto (-27), 3) := by decide +kernel
theorem dX3_wayFault_32 : decode cX3_wayFault 32 = .ok (.aload_n 0, 1) := by decide +kernel
theorem dX3_wayFault_33 : decode cX3_wayFault 33 = .ok (.getfield 15, 3) := by decide +kernel
theorem dX3_wayFault_36 : decode cX3_wayFault 36 = .ok (.ireturn, 1) := by decide +kernel
theorem dX3_wayAt_0 : decode cX3_wayAt 0 = .ok (.aload_n 0, 1) := by decide +kernel
theorem dX3_wayAt_1 : decode cX3_wayAt 1 = .ok (.iload_n 1, 1) := by decide +kernel
theorem dX3_wayAt_2 : decode cX3_wayAt 2 = .ok (.invokevirtual 37, 3) := by decide +kernel
theorem dX3_wayAt_5 : decode cX3_wayAt 5 = .ok (.lookupswitch 51 #[(101, 45), (110, 43), (115, 47), (119, 49)], 43) := by decide +kernel
theorem dX3_wayAt_48 : decode cX3_wayAt 48 = .ok (.iconst 1, 1) := by decide +kernel
theorem dX3_wayAt_49 : decode cX3_wayAt 49 = .ok (.ireturn, 1) := by decide +kernel
theorem dX3_wayAt_50 : decode cX3_wayAt 50 = .ok (.iconst 2, 1) := by decide +kernel
theorem dX3_wayAt_51 : decode cX3_wayAt 51 = .ok (.ireturn, 1) := by decide +kernel
theorem dX3_wayAt_52 : decode cX3_wayAt 52 = .ok (.iconst 3, 1) := by decide +kernel
theorem dX3_wayAt_53 : decode cX3_wayAt 53 = .ok (.ireturn, 1) := by decide +kernel
theorem dX3_wayAt_54 : decode cX3_wayAt 54 = .ok (.iconst 4, 1) := by decide +kernel
theorem dX3_wayAt_55 : decode cX3_wayAt 55 = .ok (.ireturn, 1) := by decide +kernel
theorem dX3_wayAt_56 : decode cX3_wayAt 56 = .ok (.iconst 0, 1) := by decide +kernel
theorem dX3_wayAt_57 : decode cX3_wayAt 57 = .ok (.ireturn, 1) := by decide +kernel
theorem dX4_init_0 : decode cX4_init 0 = .ok (.aload_n 0, 1) := by decide +kernel
theorem dX4_init_1 : decode cX4_init 1 = .ok (.invokespecial 3, 3) := by decide +kernel
theorem dX4_init_4 : decode cX4_init 4 = .ok (.return_, 1) := by decide +kernel
theorem dX4_rows_0 : decode cX4_rows 0 = .ok (.aload_n 0, 1) := by decide +kernel
theorem dX4_rows_1 : decode cX4_rows 1 = .ok (.getfield 9, 3) := by decide +kernel
theorem dX4_rows_4 : decode cX4_rows 4 = .ok (.ireturn, 1) := by decide +kernel
theorem dX4_columns_0 : decode cX4_columns 0 = .ok (.aload_n 0, 1) := by decide +kernel
theorem dX4_columns_1 : decode cX4_columns 1 = .ok (.getfield 15, 3) := by decide +kernel
theorem dX4_columns_4 : decode cX4_columns 4 = .ok (.ireturn, 1) := by decide +kernel
theorem dX4_isWhole_0 : decode cX4_isWhole 0 = .ok (.aload_n 0, 1) := by decide +kernel
theorem dX4_isWhole_1 : decode cX4_isWhole 1 = .ok (.aload_n 1, 1) := by decide +kernel
theorem dX4_isWhole_2 : decode cX4_isWhole 2 = .ok (.invokevirtual 18, 3) := by decide +kernel
theorem dX4_isWhole_5 : decode cX4_isWhole 5 = .ok (.aload_n 1, 1) := by decide +kernel
theorem dX4_isWhole_6 : decode cX4_isWhole 6 = .ok (.invokevirtual 22, 3) := by decide +kernel
theorem dX4_isWhole_9 : decode cX4_isWhole 9 = .ok (.if_icmp .ne 26, 3) := by decide +kernel
theorem dX4_isWhole_12 : decode cX4_isWhole 12 = .ok (.aload_n 0, 1) := by decide +kernel
theorem dX4_isWhole_13 : decode cX4_isWhole 13 = .ok (.getfield 9, 3) := by decide +kernel
theorem dX4_isWhole_16 : decode cX4_isWhole 16 = .ok (.iconst 2, 1) := by decide +kernel
theorem dX4_isWhole_17 : decode cX4_isWhole 17 = .ok (.if_icmp .lt 18, 3) := by decide +kernel
theorem dX4_isWhole_20 : decode cX4_isWhole 20 = .ok (.aload_n 0, 1) := by decide +kernel
theorem dX4_isWhole_21 : decode cX4_isWhole 21 = .ok (.getfield 28, 3) := by decide +kernel
theorem dX4_isWhole_24 : decode cX4_isWhole 24 = .ok (.aload_n 0, 1) := by decide +kernel
theorem dX4_isWhole_25 : decode cX4_isWhole 25 = .ok (.getfield 15, 3) := by decide +kernel
theorem dX4_isWhole_28 : decode cX4_isWhole 28 = .ok (.if_icmp .ne 7, 3) := by decide +kernel
theorem dX4_isWhole_31 : decode cX4_isWhole 31 = .ok (.iconst 1, 1) := by decide +kernel
theorem dX4_isWhole_32 : decode cX4_isWhole 32 = .ok (.goto 4, 3) := by decide +kernel
theorem dX4_isWhole_35 : decode cX4_isWhole 35 = .ok (.iconst 0, 1) := by decide +kernel
theorem dX4_isWhole_36 : decode cX4_isWhole 36 = .ok (.ireturn, 1) := by decide +kernel
theorem dX4_faultIn_0 : decode cX4_faultIn 0 = .ok (.aload_n 0, 1) := by decide +kernel
theorem dX4_faultIn_1 : decode cX4_faultIn 1 = .ok (.iconst 1, 1) := by decide +kernel
theorem dX4_faultIn_2 : decode cX4_faultIn 2 = .ok (.putfield 9, 3) := by decide +kernel
theorem dX4_faultIn_5 : decode cX4_faultIn 5 = .ok (.aload_n 0, 1) := by decide +kernel
theorem dX4_faultIn_6 : decode cX4_faultIn 6 = .ok (.iconst 0, 1) := by decide +kernel
theorem dX4_faultIn_7 : decode cX4_faultIn 7 = .ok (.putfield 15, 3) := by decide +kernel
theorem dX4_faultIn_10 : decode cX4_faultIn 10 = .ok (.aload_n 0, 1) := by decide +kernel
theorem dX4_faultIn_11 : decode cX4_faultIn 11 = .ok (.iconst 0, 1) := by decide +kernel
theorem dX4_faultIn_12 : decode cX4_faultIn 12 = .ok (.putfield 28, 3) := by decide +kernel
theorem dX4_faultIn_15 : decode cX4_faultIn 15 = .ok (.iconst 0, 1) := by decide +kernel
theorem dX4_faultIn_16 : decode cX4_faultIn 16 = .ok (.istore_n 2, 1) := by decide +kernel
theorem dX4_faultIn_17 : decode cX4_faultIn 17 = .ok (.iload_n 2, 1) := by decide +kernel
theorem dX4_faultIn_18 : decode cX4_faultIn 18 = .ok (.aload_n 1, 1) := by decide +kernel
theorem dX4_faultIn_19 : decode cX4_faultIn 19 = .ok (.invokevirtual 22, 3) := by decide +kernel
theorem dX4_faultIn_22 : decode cX4_faultIn 22 = .ok (.if_icmp .ge 23, 3) := by decide +kernel
theorem dX4_faultIn_25 : decode cX4_faultIn 25 = .ok (.aload_n 0, 1) := by decide +kernel
theorem dX4_faultIn_26 : decode cX4_faultIn 26 = .ok (.aload_n 1, 1) := by decide +kernel
theorem dX4_faultIn_27 : decode cX4_faultIn 27 = .ok (.iload_n 2, 1) := by decide +kernel
theorem dX4_faultIn_28 : decode cX4_faultIn 28 = .ok (.invokevirtual 31, 3) := by decide +kernel
theorem dX4_faultIn_31 : decode cX4_faultIn 31 = .ok (.invokevirtual 35, 3) := by decide +kernel
theorem dX4_faultIn_34 : decode cX4_faultIn 34 = .ok (.ifCond .ne 5, 3) := by decide +kernel
theorem dX4_faultIn_37 : decode cX4_faultIn 37 = .ok (.iload_n 2, 1) := by decide +kernel
theorem dX4_faultIn_38 : decode cX4_faultIn 38 = .ok (.ireturn, 1) := by decide +kernel
theorem dX4_faultIn_39 : decode cX4_faultIn 39 = .ok (.iinc 2 1, 3) := by decide +kernel
theorem dX4_faultIn_42 : decode cX4_faultIn 42 = .ok (.goto (-25), 3) := by decide +kernel
theorem dX4_faultIn_45 : decode cX4_faultIn 45 = .ok (.aload_n 1, 1) := by decide +kernel
theorem dX4_faultIn_46 : decode cX4_faultIn 46 = .ok (.invokevirtual 22, 3) := by decide +kernel
theorem dX4_faultIn_49 : decode cX4_faultIn 49 = .ok (.ireturn, 1) := by decide +kernel
theorem dX4_takes_0 : decode cX4_takes 0 = .ok (.iload_n 1, 1) := by decide +kernel
theorem dX4_takes_1 : decode cX4_takes 1 = .ok (.bipush 47, 2) := by decide +kernel
theorem dX4_takes_3 : decode cX4_takes 3 = .ok (.if_icmp .ne 8, 3) := by decide +kernel
theorem dX4_takes_6 : decode cX4_takes 6 = .ok (.aload_n 0, 1) := by decide +kernel
theorem dX4_takes_7 : decode cX4_takes 7 = .ok (.invokevirtual 39, 3) := by decide +kernel
theorem dX4_takes_10 : decode cX4_takes 10 = .ok (.ireturn, 1) := by decide +kernel
theorem dX4_takes_11 : decode cX4_takes 11 = .ok (.iload_n 1, 1) := by decide +kernel
theorem dX4_takes_12 : decode cX4_takes 12 = .ok (.bipush 46, 2) := by decide +kernel
theorem dX4_takes_14 : decode cX4_takes 14 = .ok (.if_icmp .eq 15, 3) := by decide +kernel
theorem dX4_takes_17 : decode cX4_takes 17 = .ok (.iload_n 1, 1) := by decide +kernel
theorem dX4_takes_18 : decode cX4_takes 18 = .ok (.bipush 49, 2) := by decide +kernel
theorem dX4_takes_20 : decode cX4_takes 20 = .ok (.if_icmp .lt 13, 3) := by decide +kernel
theorem dX4_takes_23 : decode cX4_takes 23 = .ok (.iload_n 1, 1) := by decide +kernel
theorem dX4_takes_24 : decode cX4_takes 24 = .ok (.bipush 57, 2) := by decide +kernel
theorem dX4_takes_26 : decode cX4_takes 26 = .ok (.if_icmp .gt 7, 3) := by decide +kernel
theorem dX4_takes_29 : decode cX4_takes 29 = .ok (.iconst 1, 1) := by decide +kernel
theorem dX4_takes_30 : decode cX4_takes 30 = .ok (.goto 4, 3) := by decide +kernel
theorem dX4_takes_33 : decode cX4_takes 33 = .ok (.iconst 0, 1) := by decide +kernel
theorem dX4_takes_34 : decode cX4_takes 34 = .ok (.istore_n 2, 1) := by decide +kernel
theorem dX4_takes_35 : decode cX4_takes 35 = .ok (.aload_n 0, 1) := by decide +kernel
theorem dX4_takes_36 : decode cX4_takes 36 = .ok (.getfield 9, 3) := by decide +kernel
theorem dX4_takes_39 : decode cX4_takes 39 = .ok (.iconst 1, 1) := by decide +kernel
theorem dX4_takes_40 : decode cX4_takes 40 = .ok (.if_icmp .ne 8, 3) := by decide +kernel
theorem dX4_takes_43 : decode cX4_takes 43 = .ok (.bipush 6, 2) := by decide +kernel
theorem dX4_takes_45 : decode cX4_takes 45 = .ok (.goto 7, 3) := by decide +kernel
theorem dX4_takes_48 : decode cX4_takes 48 = .ok (.aload_n 0, 1) := by decide +kernel
theorem dX4_takes_49 : decode cX4_takes 49 = .ok (.getfield 15, 3) := by decide +kernel
theorem dX4_takes_52 : decode cX4_takes 52 = .ok (.istore_n 3, 1) := by decide +kernel
theorem dX4_takes_53 : decode cX4_takes 53 = .ok (.iload_n 2, 1) := by decide +kernel
theorem dX4_takes_54 : decode cX4_takes 54 = .ok (.ifCond .eq 11, 3) := by decide +kernel
theorem dX4_takes_57 : decode cX4_takes 57 = .ok (.aload_n 0, 1) := by decide +kernel
theorem dX4_takes_58 : decode cX4_takes 58 = .ok (.getfield 28, 3) := by decide +kernel
theorem dX4_takes_61 : decode cX4_takes 61 = .ok (.iload_n 3, 1) := by decide +kernel
theorem dX4_takes_62 : decode cX4_takes 62 = .ok (.if_icmp .lt 5, 3) := by decide +kernel
theorem dX4_takes_65 : decode cX4_takes 65 = .ok (.iconst 0, 1) := by decide +kernel
theorem dX4_takes_66 : decode cX4_takes 66 = .ok (.ireturn, 1) := by decide +kernel
theorem dX4_takes_67 : decode cX4_takes 67 = .ok (.aload_n 0, 1) := by decide +kernel
theorem dX4_takes_68 : decode cX4_takes 68 = .ok (.dup, 1) := by decide +kernel
theorem dX4_takes_69 : decode cX4_takes 69 = .ok (.getfield 28, 3) := by decide +kernel
theorem dX4_takes_72 : decode cX4_takes 72 = .ok (.iconst 1, 1) := by decide +kernel
theorem dX4_takes_73 : decode cX4_takes 73 = .ok (.iadd, 1) := by decide +kernel
theorem dX4_takes_74 : decode cX4_takes 74 = .ok (.putfield 28, 3) := by decide +kernel
theorem dX4_takes_77 : decode cX4_takes 77 = .ok (.iconst 1, 1) := by decide +kernel
theorem dX4_takes_78 : decode cX4_takes 78 = .ok (.ireturn, 1) := by decide +kernel
theorem dX4_endsRow_0 : decode cX4_endsRow 0 = .ok (.aload_n 0, 1) := by decide +kernel
theorem dX4_endsRow_1 : decode cX4_endsRow 1 = .ok (.getfield 9, 3) := by decide +kernel
theorem dX4_endsRow_4 : decode cX4_endsRow 4 = .ok (.iconst 1, 1) := by decide +kernel
theorem dX4_endsRow_5 : decode cX4_endsRow 5 = .ok (.if_icmp .ne 19, 3) := by decide +kernel
theorem dX4_endsRow_8 : decode cX4_endsRow 8 = .ok (.aload_n 0, 1) := by decide +kernel
theorem dX4_endsRow_9 : decode cX4_endsRow 9 = .ok (.getfield 28, 3) := by decide +kernel
theorem dX4_endsRow_12 : decode cX4_endsRow 12 = .ok (.iconst 2, 1) := by decide +kernel
theorem dX4_endsRow_13 : decode cX4_endsRow 13 = .ok (.if_icmp .lt 7, 3) := by decide +kernel
theorem dX4_endsRow_16 : decode cX4_endsRow 16 = .ok (.iconst 1, 1) := by decide +kernel
theorem dX4_endsRow_17 : decode cX4_endsRow 17 = .ok (.goto 23, 3) := by decide +kernel
theorem dX4_endsRow_20 : decode cX4_endsRow 20 = .ok (.iconst 0, 1) := by decide +kernel
theorem dX4_endsRow_21 : decode cX4_endsRow 21 = .ok (.goto 19, 3) := by decide +kernel
theorem dX4_endsRow_24 : decode cX4_endsRow 24 = .ok (.aload_n 0, 1) := by decide +kernel
theorem dX4_endsRow_25 : decode cX4_endsRow 25 = .ok (.getfield 28, 3) := by decide +kernel
theorem dX4_endsRow_28 : decode cX4_endsRow 28 = .ok (.aload_n 0, 1) := by decide +kernel
theorem dX4_endsRow_29 : decode cX4_endsRow 29 = .ok (.getfield 15, 3) := by decide +kernel
theorem dX4_endsRow_32 : decode cX4_endsRow 32 = .ok (.if_icmp .ne 7, 3) := by decide +kernel
theorem dX4_endsRow_35 : decode cX4_endsRow 35 = .ok (.iconst 1, 1) := by decide +kernel
theorem dX4_endsRow_36 : decode cX4_endsRow 36 = .ok (.goto 4, 3) := by decide +kernel
theorem dX4_endsRow_39 : decode cX4_endsRow 39 = .ok (.iconst 0, 1) := by decide +kernel
theorem dX4_endsRow_40 : decode cX4_endsRow 40 = .ok (.istore_n 1, 1) := by decide +kernel
theorem dX4_endsRow_41 : decode cX4_endsRow 41 = .ok (.iload_n 1, 1) := by decide +kernel
theorem dX4_endsRow_42 : decode cX4_endsRow 42 = .ok (.ifCond .eq 11, 3) := by decide +kernel
theorem dX4_endsRow_45 : decode cX4_endsRow 45 = .ok (.aload_n 0, 1) := by decide +kernel
theorem dX4_endsRow_46 : decode cX4_endsRow 46 = .ok (.getfield 9, 3) := by decide +kernel
theorem dX4_endsRow_49 : decode cX4_endsRow 49 = .ok (.iconst 5, 1) := by decide +kernel
theorem dX4_endsRow_50 : decode cX4_endsRow 50 = .ok (.if_icmp .lt 5, 3) := by decide +kernel
theorem dX4_endsRow_53 : decode cX4_endsRow 53 = .ok (.iconst 0, 1) := by decide +kernel
theorem dX4_endsRow_54 : decode cX4_endsRow 54 = .ok (.ireturn, 1) := by decide +kernel
theorem dX4_endsRow_55 : decode cX4_endsRow 55 = .ok (.aload_n 0, 1) := by decide +kernel
theorem dX4_endsRow_56 : decode cX4_endsRow 56 = .ok (.aload_n 0, 1) := by decide +kernel
theorem dX4_endsRow_57 : decode cX4_endsRow 57 = .ok (.getfield 28, 3) := by decide +kernel
theorem dX4_endsRow_60 : decode cX4_endsRow 60 = .ok (.putfield 15, 3) := by decide +kernel
theorem dX4_endsRow_63 : decode cX4_endsRow 63 = .ok (.aload_n 0, 1) := by decide +kernel
theorem dX4_endsRow_64 : decode cX4_endsRow 64 = .ok (.dup, 1) := by decide +kernel
theorem dX4_endsRow_65 : decode cX4_endsRow 65 = .ok (.getfield 9, 3) := by decide +kernel
theorem dX4_endsRow_68 : decode cX4_endsRow 68 = .ok (.iconst 1, 1) := by decide +kernel
theorem dX4_endsRow_69 : decode cX4_endsRow 69 = .ok (.iadd, 1) := by decide +kernel
theorem dX4_endsRow_70 : decode cX4_endsRow 70 = .ok (.putfield 9, 3) := by decide +kernel
theorem dX4_endsRow_73 : decode cX4_endsRow 73 = .ok (.aload_n 0, 1) := by decide +kernel
theorem dX4_endsRow_74 : decode cX4_endsRow 74 = .ok (.iconst 0, 1) := by decide +kernel
theorem dX4_endsRow_75 : decode cX4_endsRow 75 = .ok (.putfield 28, 3) := by decide +kernel
theorem dX4_endsRow_78 : decode cX4_endsRow 78 = .ok (.iconst 1, 1) := by decide +kernel
theorem dX4_endsRow_79 : decode cX4_endsRow 79 = .ok (.ireturn, 1) := by decide +kernel
theorem dX5_init_0 : decode cX5_init 0 = .ok (.aload_n 0, 1) := by decide +kernel
theorem dX5_init_1 : decode cX5_init 1 = .ok (.invokespecial 3, 3) := by decide +kernel
theorem dX5_init_4 : decode cX5_init 4 = .ok (.aload_n 0, 1) := by decide +kernel
theorem dX5_init_5 : decode cX5_init 5 = .ok (.bipush 8, 2) := by decide +kernel
theorem dX5_init_7 : decode cX5_init 7 = .ok (.newarray .int, 2) := by decide +kernel
theorem dX5_init_9 : decode cX5_init 9 = .ok (.putfield 9, 3) := by decide +kernel
theorem dX5_init_12 : decode cX5_init 12 = .ok (.aload_n 0, 1) := by decide +kernel
theorem dX5_init_13 : decode cX5_init 13 = .ok (.bipush 8, 2) := by decide +kernel
theorem dX5_init_15 : decode cX5_init 15 = .ok (.newarray .int, 2) := by decide +kernel
theorem dX5_init_17 : decode cX5_init 17 = .ok (.putfield 15, 3) := by decide +kernel
theorem dX5_init_20 : decode cX5_init 20 = .ok (.aload_n 0, 1) := by decide +kernel
theorem dX5_init_21 : decode cX5_init 21 = .ok (.aload_n 1, 1) := by decide +kernel
theorem dX5_init_22 : decode cX5_init 22 = .ok (.putfield 18, 3) := by decide +kernel
theorem dX5_init_25 : decode cX5_init 25 = .ok (.aload_n 0, 1) := by decide +kernel
theorem dX5_init_26 : decode cX5_init 26 = .ok (.aload_n 2, 1) := by decide +kernel
theorem dX5_init_27 : decode cX5_init 27 = .ok (.putfield 22, 3) := by decide +kernel
theorem dX5_init_30 : decode cX5_init 30 = .ok (.aload_n 0, 1) := by decide +kernel
theorem dX5_init_31 : decode cX5_init 31 = .ok (.aload_n 3, 1) := by decide +kernel
theorem dX5_init_32 : decode cX5_init 32 = .ok (.putfield 26, 3) := by decide +kernel
theorem dX5_init_35 : decode cX5_init 35 = .ok (.return_, 1) := by decide +kernel
theorem dX6_init_0 : decode cX6_init 0 = .ok (.aload_n 0, 1) := by decide +kernel
theorem dX6_init_1 : decode cX6_init 1 = .ok (.invokespecial 3, 3) := by decide +kernel
theorem dX6_init_4 : decode cX6_init 4 = .ok (.aload_n 0, 1) := by decide +kernel
theorem dX6_init_5 : decode cX6_init 5 = .ok (.bipush 8, 2) := by decide +kernel
theorem dX6_init_7 : decode cX6_init 7 = .ok (.newarray .int, 2) := by decide +kernel
theorem dX6_init_9 : decode cX6_init 9 = .ok (.putfield 9, 3) := by decide +kernel
theorem dX6_init_12 : decode cX6_init 12 = .ok (.aload_n 0, 1) := by decide +kernel
theorem dX6_init_13 : decode cX6_init 13 = .ok (.aload_n 1, 1) := by decide +kernel
theorem dX6_init_14 : decode cX6_init 14 = .ok (.putfield 15, 3) := by decide +kernel
theorem dX6_init_17 : decode cX6_init 17 = .ok (.aload_n 0, 1) := by decide +kernel
theorem dX6_init_18 : decode cX6_init 18 = .ok (.aload_n 2, 1) := by decide +kernel
theorem dX6_init_19 : decode cX6_init 19 = .ok (.putfield 19, 3) := by decide +kernel
theorem dX6_init_22 : decode cX6_init 22 = .ok (.return_, 1) := by decide +kernel
theorem dX7_init_0 : decode cX7_init 0 = .ok (.aload_n 0, 1) := by decide +kernel
theorem dX7_init_1 : decode cX7_init 1 = .ok (.invokespecial 3, 3) := by decide +kernel
theorem dX7_init_4 : decode cX7_init 4 = .ok (.aload_n 0, 1) := by decide +kernel
theorem dX7_init_5 : decode cX7_init 5 = .ok (.iconst 5, 1) := by decide +kernel
theorem dX7_init_6 : decode cX7_init 6 = .ok (.newarray .int, 2) := by decide +kernel
theorem dX7_init_8 : decode cX7_init 8 = .ok (.putfield 11, 3) := by decide +kernel
theorem dX7_init_11 : decode cX7_init 11 = .ok (.aload_n 0, 1) := by decide +kernel
theorem dX7_init_12 : decode cX7_init 12 = .ok (.bipush 30, 2) := by decide +kernel
theorem dX7_init_14 : decode cX7_init 14 = .ok (.newarray .int, 2) := by decide +kernel
theorem dX7_init_16 : decode cX7_init 16 = .ok (.putfield 15, 3) := by decide +kernel
theorem dX7_init_19 : decode cX7_init 19 = .ok (.aload_n 0, 1) := by decide +kernel
theorem dX7_init_20 : decode cX7_init 20 = .ok (.aload_n 1, 1) := by decide +kernel
theorem dX7_init_21 : decode cX7_init 21 = .ok (.putfield 18, 3) := by decide +kernel
theorem dX7_init_24 : decode cX7_init 24 = .ok (.aload_n 0, 1) := by decide +kernel
theorem dX7_init_25 : decode cX7_init 25 = .ok (.aload_n 2, 1) := by decide +kernel
theorem dX7_init_26 : decode cX7_init 26 = .ok (.putfield 22, 3) := by decide +kernel
theorem dX7_init_29 : decode cX7_init 29 = .ok (.aload_n 0, 1) := by decide +kernel
theorem dX7_init_30 : decode cX7_init 30 = .ok (.aload_n 3, 1) := by decide +kernel
theorem dX7_init_31 : decode cX7_init 31 = .ok (.putfield 26, 3) := by decide +kernel
theorem dX7_init_34 : decode cX7_init 34 = .ok (.return_, 1) := by decide +kernel
theorem dX8_init_0 : decode cX8_init 0 = .ok (.aload_n 0, 1) := by decide +kernel
theorem dX8_init_1 : decode cX8_init 1 = .ok (.invokespecial 3, 3) := by decide +kernel
theorem dX8_init_4 : decode cX8_init 4 = .ok (.aload_n 0, 1) := by decide +kernel
theorem dX8_init_5 : decode cX8_init 5 = .ok (.bipush 8, 2) := by decide +kernel
theorem dX8_init_7 : decode cX8_init 7 = .ok (.newarray .int, 2) := by decide +kernel
theorem dX8_init_9 : decode cX8_init 9 = .ok (.putfield 9, 3) := by decide +kernel
theorem dX8_init_12 : decode cX8_init 12 = .ok (.aload_n 0, 1) := by decide +kernel
theorem dX8_init_13 : decode cX8_init 13 = .ok (.bipush 8, 2) := by decide +kernel
theorem dX8_init_15 : decode cX8_init 15 = .ok (.newarray .int, 2) := by decide +kernel
theorem dX8_init_17 : decode cX8_init 17 = .ok (.putfield 15, 3) := by decide +kernel
theorem dX8_init_20 : decode cX8_init 20 = .ok (.aload_n 0, 1) := by decide +kernel
theorem dX8_init_21 : decode cX8_init 21 = .ok (.bipush 64, 2) := by decide +kernel
theorem dX8_init_23 : decode cX8_init 23 = .ok (.newarray .int, 2) := by decide +kernel
theorem dX8_init_25 : decode cX8_init 25 = .ok (.putfield 18, 3) := by decide +kernel
theorem dX8_init_28 : decode cX8_init 28 = .ok (.aload_n 0, 1) := by decide +kernel
theorem dX8_init_29 : decode cX8_init 29 = .ok (.bipush 64, 2) := by decide +kernel
theorem dX8_init_31 : decode cX8_init 31 = .ok (.newarray .int, 2) := by decide +kernel
theorem dX8_init_33 : decode cX8_init 33 = .ok (.putfield 21, 3) := by decide +kernel
theorem dX8_init_36 : decode cX8_init 36 = .ok (.aload_n 0, 1) := by decide +kernel
theorem dX8_init_37 : decode cX8_init 37 = .ok (.iconst (-1), 1) := by decide +kernel
theorem dX8_init_38 : decode cX8_init 38 = .ok (.putfield 24, 3) := by decide +kernel
theorem dX8_init_41 : decode cX8_init 41 = .ok (.return_, 1) := by decide +kernel
theorem dX8_clear_0 : decode cX8_clear 0 = .ok (.aload_n 0, 1) := by decide +kernel
theorem dX8_clear_1 : decode cX8_clear 1 = .ok (.iconst 0, 1) := by decide +kernel
theorem dX8_clear_2 : decode cX8_clear 2 = .ok (.putfield 28, 3) := by decide +kernel
theorem dX8_clear_5 : decode cX8_clear 5 = .ok (.aload_n 0, 1) := by decide +kernel
theorem dX8_clear_6 : decode cX8_clear 6 = .ok (.iconst (-1), 1) := by decide +kernel
theorem dX8_clear_7 : decode cX8_clear 7 = .ok (.putfield 24, 3) := by decide +kernel
theorem dX8_clear_10 : decode cX8_clear 10 = .ok (.return_, 1) := by decide +kernel
theorem dX8_size_0 : decode cX8_size 0 = .ok (.aload_n 0, 1) := by decide +kernel
theorem dX8_size_1 : decode cX8_size 1 = .ok (.getfield 28, 3) := by decide +kernel
theorem dX8_size_4 : decode cX8_size 4 = .ok (.ireturn, 1) := by decide +kernel
theorem dX8_has_0 : decode cX8_has 0 = .ok (.iload_n 1, 1) := by decide +kernel
theorem dX8_has_1 : decode cX8_has 1 = .ok (.ifCond .lt 15, 3) := by decide +kernel
theorem dX8_has_4 : decode cX8_has 4 = .ok (.iload_n 1, 1) := by decide +kernel
theorem dX8_has_5 : decode cX8_has 5 = .ok (.aload_n 0, 1) := by decide +kernel
theorem dX8_has_6 : decode cX8_has 6 = .ok (.getfield 28, 3) := by decide +kernel
theorem dX8_has_9 : decode cX8_has 9 = .ok (.if_icmp .ge 7, 3) := by decide +kernel
theorem dX8_has_12 : decode cX8_has 12 = .ok (.iconst 1, 1) := by decide +kernel
theorem dX8_has_13 : decode cX8_has 13 = .ok (.goto 4, 3) := by decide +kernel
theorem dX8_has_16 : decode cX8_has 16 = .ok (.iconst 0, 1) := by decide +kernel
theorem dX8_has_17 : decode cX8_has 17 = .ok (.ireturn, 1) := by decide +kernel
theorem dX8_add_0 : decode cX8_add 0 = .ok (.aload_n 0, 1) := by decide +kernel
theorem dX8_add_1 : decode cX8_add 1 = .ok (.getfield 28, 3) := by decide +kernel
theorem dX8_add_4 : decode cX8_add 4 = .ok (.bipush 8, 2) := by decide +kernel
theorem dX8_add_6 : decode cX8_add 6 = .ok (.if_icmp .lt 6, 3) := by decide +kernel
theorem dX8_add_9 : decode cX8_add 9 = .ok (.bipush (-104), 2) := by decide +kernel
theorem dX8_add_11 : decode cX8_add 11 = .ok (.ireturn, 1) := by decide +kernel
theorem dX8_add_12 : decode cX8_add 12 = .ok (.aload_n 0, 1) := by decide +kernel
theorem dX8_add_13 : decode cX8_add 13 = .ok (.getfield 28, 3) := by decide +kernel
theorem dX8_add_16 : decode cX8_add 16 = .ok (.istore 4, 2) := by decide +kernel
theorem dX8_add_18 : decode cX8_add 18 = .ok (.aload_n 0, 1) := by decide +kernel
theorem dX8_add_19 : decode cX8_add 19 = .ok (.getfield 9, 3) := by decide +kernel
theorem dX8_add_22 : decode cX8_add 22 = .ok (.iload 4, 2) := by decide +kernel
theorem dX8_add_24 : decode cX8_add 24 = .ok (.iload_n 1, 1) := by decide +kernel
theorem dX8_add_25 : decode cX8_add 25 = .ok (.iastore, 1) := by decide +kernel
theorem dX8_add_26 : decode cX8_add 26 = .ok (.aload_n 0, 1) := by decide +kernel
theorem dX8_add_27 : decode cX8_add 27 = .ok (.getfield 15, 3) := by decide +kernel
theorem dX8_add_30 : decode cX8_add 30 = .ok (.iload 4, 2) := by decide +kernel
theorem dX8_add_32 : decode cX8_add 32 = .ok (.iload_n 2, 1) := by decide +kernel
theorem dX8_add_33 : decode cX8_add 33 = .ok (.iastore, 1) := by decide +kernel
theorem dX8_add_34 : decode cX8_add 34 = .ok (.aload_n 0, 1) := by decide +kernel
theorem dX8_add_35 : decode cX8_add 35 = .ok (.dup, 1) := by decide +kernel
theorem dX8_add_36 : decode cX8_add 36 = .ok (.getfield 28, 3) := by decide +kernel
theorem dX8_add_39 : decode cX8_add 39 = .ok (.iconst 1, 1) := by decide +kernel
theorem dX8_add_40 : decode cX8_add 40 = .ok (.iadd, 1) := by decide +kernel
theorem dX8_add_41 : decode cX8_add 41 = .ok (.putfield 28, 3) := by decide +kernel
theorem dX8_add_44 : decode cX8_add 44 = .ok (.aload_n 0, 1) := by decide +kernel
theorem dX8_add_45 : decode cX8_add 45 = .ok (.iload 4, 2) := by decide +kernel
theorem dX8_add_47 : decode cX8_add 47 = .ok (.iload_n 3, 1) := by decide +kernel
theorem dX8_add_48 : decode cX8_add 48 = .ok (.invokevirtual 31, 3) := by decide +kernel
theorem dX8_add_51 : decode cX8_add 51 = .ok (.iload 4, 2) := by decide +kernel
theorem dX8_add_53 : decode cX8_add 53 = .ok (.ireturn, 1) := by decide +kernel
theorem dX8_kind_0 : decode cX8_kind 0 = .ok (.aload_n 0, 1) := by decide +kernel
theorem dX8_kind_1 : decode cX8_kind 1 = .ok (.iload_n 1, 1) := by decide +kernel
theorem dX8_kind_2 : decode cX8_kind 2 = .ok (.invokevirtual 35, 3) := by decide +kernel
theorem dX8_kind_5 : decode cX8_kind 5 = .ok (.ifCond .eq 12, 3) := by decide +kernel
theorem dX8_kind_8 : decode cX8_kind 8 = .ok (.aload_n 0, 1) := by decide +kernel
theorem dX8_kind_9 : decode cX8_kind 9 = .ok (.getfield 9, 3) := by decide +kernel
theorem dX8_kind_12 : decode cX8_kind 12 = .ok (.iload_n 1, 1) := by decide +kernel
theorem dX8_kind_13 : decode cX8_kind 13 = .ok (.iaload, 1) := by decide +kernel
theorem dX8_kind_14 : decode cX8_kind 14 = .ok (.goto 4, 3) := by decide +kernel
theorem dX8_kind_17 : decode cX8_kind 17 = .ok (.iconst (-1), 1) := by decide +kernel
theorem dX8_kind_18 : decode cX8_kind 18 = .ok (.ireturn, 1) := by decide +kernel
theorem dX8_weight_0 : decode cX8_weight 0 = .ok (.aload_n 0, 1) := by decide +kernel
theorem dX8_weight_1 : decode cX8_weight 1 = .ok (.iload_n 1, 1) := by decide +kernel
theorem dX8_weight_2 : decode cX8_weight 2 = .ok (.invokevirtual 35, 3) := by decide +kernel
theorem dX8_weight_5 : decode cX8_weight 5 = .ok (.ifCond .eq 12, 3) := by decide +kernel
theorem dX8_weight_8 : decode cX8_weight 8 = .ok (.aload_n 0, 1) := by decide +kernel
theorem dX8_weight_9 : decode cX8_weight 9 = .ok (.getfield 15, 3) := by decide +kernel
theorem dX8_weight_12 : decode cX8_weight 12 = .ok (.iload_n 1, 1) := by decide +kernel
theorem dX8_weight_13 : decode cX8_weight 13 = .ok (.iaload, 1) := by decide +kernel
theorem dX8_weight_14 : decode cX8_weight 14 = .ok (.goto 4, 3) := by decide +kernel
theorem dX8_weight_17 : decode cX8_weight 17 = .ok (.iconst 0, 1) := by decide +kernel
theorem dX8_weight_18 : decode cX8_weight 18 = .ok (.ireturn, 1) := by decide +kernel
theorem dX8_weighs_0 : decode cX8_weighs 0 = .ok (.aload_n 0, 1) := by decide +kernel
theorem dX8_weighs_1 : decode cX8_weighs 1 = .ok (.iload_n 1, 1) := by decide +kernel
theorem dX8_weighs_2 : decode cX8_weighs 2 = .ok (.invokevirtual 35, 3) := by decide +kernel
theorem dX8_weighs_5 : decode cX8_weighs 5 = .ok (.ifCond .ne 5, 3) := by decide +kernel
theorem dX8_weighs_8 : decode cX8_weighs 8 = .ok (.iconst 0, 1) := by decide +kernel
theorem dX8_weighs_9 : decode cX8_weighs 9 = .ok (.ireturn, 1) := by decide +kernel
theorem dX8_weighs_10 : decode cX8_weighs 10 = .ok (.aload_n 0, 1) := by decide +kernel
theorem dX8_weighs_11 : decode cX8_weighs 11 = .ok (.getfield 9, 3) := by decide +kernel
theorem dX8_weighs_14 : decode cX8_weighs 14 = .ok (.iload_n 1, 1) := by decide +kernel
theorem dX8_weighs_15 : decode cX8_weighs 15 = .ok (.iaload, 1) := by decide +kernel
theorem dX8_weighs_16 : decode cX8_weighs 16 = .ok (.iconst 4, 1) := by decide +kernel
theorem dX8_weighs_17 : decode cX8_weighs 17 = .ok (.if_icmp .ne 14, 3) := by decide +kernel
theorem dX8_weighs_20 : decode cX8_weighs 20 = .ok (.iconst 2, 1) := by decide +kernel
theorem dX8_weighs_21 : decode cX8_weighs 21 = .ok (.aload_n 0, 1) := by decide +kernel
theorem dX8_weighs_22 : decode cX8_weighs 22 = .ok (.getfield 15, 3) := by decide +kernel
theorem dX8_weighs_25 : decode cX8_weighs 25 = .ok (.iload_n 1, 1) := by decide +kernel
theorem dX8_weighs_26 : decode cX8_weighs 26 = .ok (.iaload, 1) := by decide +kernel
theorem dX8_weighs_27 : decode cX8_weighs 27 = .ok (.imul, 1) := by decide +kernel
theorem dX8_weighs_28 : decode cX8_weighs 28 = .ok (.goto 9, 3) := by decide +kernel
theorem dX8_weighs_31 : decode cX8_weighs 31 = .ok (.aload_n 0, 1) := by decide +kernel
theorem dX8_weighs_32 : decode cX8_weighs 32 = .ok (.getfield 15, 3) := by decide +kernel
theorem dX8_weighs_35 : decode cX8_weighs 35 = .ok (.iload_n 1, 1) := by decide +kernel
theorem dX8_weighs_36 : decode cX8_weighs 36 = .ok (.iaload, 1) := by decide +kernel
theorem dX8_weighs_37 : decode cX8_weighs 37 = .ok (.ireturn, 1) := by decide +kernel
theorem dX8_isA_0 : decode cX8_isA 0 = .ok (.aload_n 0, 1) := by decide +kernel
theorem dX8_isA_1 : decode cX8_isA 1 = .ok (.iload_n 1, 1) := by decide +kernel
theorem dX8_isA_2 : decode cX8_isA 2 = .ok (.invokevirtual 39, 3) := by decide +kernel
theorem dX8_isA_5 : decode cX8_isA 5 = .ok (.istore_n 3, 1) := by decide +kernel
theorem dX8_isA_6 : decode cX8_isA 6 = .ok (.iload_n 3, 1) := by decide +kernel
theorem dX8_isA_7 : decode cX8_isA 7 = .ok (.iload_n 2, 1) := by decide +kernel
theorem dX8_isA_8 : decode cX8_isA 8 = .ok (.if_icmp .eq 17, 3) := by decide +kernel
theorem dX8_isA_11 : decode cX8_isA 11 = .ok (.iload_n 2, 1) := by decide +kernel
theorem dX8_isA_12 : decode cX8_isA 12 = .ok (.ifCond .eq 13, 3) := by decide +kernel
theorem dX8_isA_15 : decode cX8_isA 15 = .ok (.iload_n 2, 1) := by decide +kernel
theorem dX8_isA_16 : decode cX8_isA 16 = .ok (.iconst 3, 1) := by decide +kernel
theorem dX8_isA_17 : decode cX8_isA 17 = .ok (.if_icmp .ne 12, 3) := by decide +kernel
theorem dX8_isA_20 : decode cX8_isA 20 = .ok (.iload_n 3, 1) := by decide +kernel
theorem dX8_isA_21 : decode cX8_isA 21 = .ok (.iconst 4, 1) := by decide +kernel
theorem dX8_isA_22 : decode cX8_isA 22 = .ok (.if_icmp .ne 7, 3) := by decide +kernel
theorem dX8_isA_25 : decode cX8_isA 25 = .ok (.iconst 1, 1) := by decide +kernel
theorem dX8_isA_26 : decode cX8_isA 26 = .ok (.goto 4, 3) := by decide +kernel
theorem dX8_isA_29 : decode cX8_isA 29 = .ok (.iconst 0, 1) := by decide +kernel
theorem dX8_isA_30 : decode cX8_isA 30 = .ok (.ireturn, 1) := by decide +kernel
theorem dX8_people_0 : decode cX8_people 0 = .ok (.aload_n 0, 1) := by decide +kernel
theorem dX8_people_1 : decode cX8_people 1 = .ok (.invokevirtual 43, 3) := by decide +kernel
theorem dX8_people_4 : decode cX8_people 4 = .ok (.invokestatic 47, 3) := by decide +kernel
theorem dX8_people_7 : decode cX8_people 7 = .ok (.ireturn, 1) := by decide +kernel
theorem dX8_peopleBits_0 : decode cX8_peopleBits 0 = .ok (.iconst 0, 1) := by decide +kernel
theorem dX8_peopleBits_1 : decode cX8_peopleBits 1 = .ok (.istore_n 1, 1) := by decide +kernel
theorem dX8_peopleBits_2 : decode cX8_peopleBits 2 = .ok (.iconst 0, 1) := by decide +kernel
theorem dX8_peopleBits_3 : decode cX8_peopleBits 3 = .ok (.istore_n 2, 1) := by decide +kernel
theorem dX8_peopleBits_4 : decode cX8_peopleBits 4 = .ok (.iload_n 2, 1) := by decide +kernel
theorem dX8_peopleBits_5 : decode cX8_peopleBits 5 = .ok (.aload_n 0, 1) := by decide +kernel
theorem dX8_peopleBits_6 : decode cX8_peopleBits 6 = .ok (.getfield 28, 3) := by decide +kernel
theorem dX8_peopleBits_9 : decode cX8_peopleBits 9 = .ok (.if_icmp .ge 24, 3) := by decide +kernel
theorem dX8_peopleBits_12 : decode cX8_peopleBits 12 = .ok (.aload_n 0, 1) := by decide +kernel
theorem dX8_peopleBits_13 : decode cX8_peopleBits 13 = .ok (.iload_n 2, 1) := by decide +kernel
theorem dX8_peopleBits_14 : decode cX8_peopleBits 14 = .ok (.iconst 3, 1) := by decide +kernel
theorem dX8_peopleBits_15 : decode cX8_peopleBits 15 = .ok (.invokevirtual 52, 3) := by decide +kernel
theorem dX8_peopleBits_18 : decode cX8_peopleBits 18 = .ok (.ifCond .eq 9, 3) := by decide +kernel
theorem dX8_peopleBits_21 : decode cX8_peopleBits 21 = .ok (.iload_n 1, 1) := by decide +kernel
theorem dX8_peopleBits_22 : decode cX8_peopleBits 22 = .ok (.iconst 1, 1) := by decide +kernel
theorem dX8_peopleBits_23 : decode cX8_peopleBits 23 = .ok (.iload_n 2, 1) := by decide +kernel
theorem dX8_peopleBits_24 : decode cX8_peopleBits 24 = .ok (.ishl, 1) := by decide +kernel
theorem dX8_peopleBits_25 : decode cX8_peopleBits 25 = .ok (.ior, 1) := by decide +kernel
theorem dX8_peopleBits_26 : decode cX8_peopleBits 26 = .ok (.istore_n 1, 1) := by decide +kernel
theorem dX8_peopleBits_27 : decode cX8_peopleBits 27 = .ok (.iinc 2 1, 3) := by decide +kernel
theorem dX8_peopleBits_30 : decode cX8_peopleBits 30 = .ok (.goto (-26), 3) := by decide +kernel
theorem dX8_peopleBits_33 : decode cX8_peopleBits 33 = .ok (.iload_n 1, 1) := by decide +kernel
theorem dX8_peopleBits_34 : decode cX8_peopleBits 34 = .ok (.ireturn, 1) := by decide +kernel
theorem dX8_place_0 : decode cX8_place 0 = .ok (.aload_n 0, 1) := by decide +kernel
theorem dX8_place_1 : decode cX8_place 1 = .ok (.iload_n 1, 1) := by decide +kernel
theorem dX8_place_2 : decode cX8_place 2 = .ok (.invokevirtual 35, 3) := by decide +kernel
theorem dX8_place_5 : decode cX8_place 5 = .ok (.ifCond .eq 24, 3) := by decide +kernel
theorem dX8_place_8 : decode cX8_place 8 = .ok (.iload_n 2, 1) := by decide +kernel
theorem dX8_place_9 : decode cX8_place 9 = .ok (.invokestatic 56, 3) := by decide +kernel
theorem dX8_place_12 : decode cX8_place 12 = .ok (.ifCond .eq 17, 3) := by decide +kernel
theorem dX8_place_15 : decode cX8_place 15 = .ok (.aload_n 0, 1) := by decide +kernel
theorem dX8_place_16 : decode cX8_place 16 = .ok (.getfield 18, 3) := by decide +kernel
theorem dX8_place_19 : decode cX8_place 19 = .ok (.iload_n 1, 1) := by decide +kernel
theorem dX8_place_20 : decode cX8_place 20 = .ok (.bipush 8, 2) := by decide +kernel
theorem dX8_place_22 : decode cX8_place 22 = .ok (.imul, 1) := by decide +kernel
theorem dX8_place_23 : decode cX8_place 23 = .ok (.iload_n 2, 1) := by decide +kernel
theorem dX8_place_24 : decode cX8_place 24 = .ok (.iadd, 1) := by decide +kernel
theorem dX8_place_25 : decode cX8_place 25 = .ok (.iaload, 1) := by decide +kernel
theorem dX8_place_26 : decode cX8_place 26 = .ok (.goto 4, 3) := by decide +kernel
theorem dX8_place_29 : decode cX8_place 29 = .ok (.iconst (-1), 1) := by decide +kernel
theorem dX8_place_30 : decode cX8_place 30 = .ok (.ireturn, 1) := by decide +kernel
theorem dX8_move_0 : decode cX8_move 0 = .ok (.aload_n 0, 1) := by decide +kernel
theorem dX8_move_1 : decode cX8_move 1 = .ok (.iload_n 1, 1) := by decide +kernel
theorem dX8_move_2 : decode cX8_move 2 = .ok (.invokevirtual 35, 3) := by decide +kernel
theorem dX8_move_5 : decode cX8_move 5 = .ok (.ifCond .eq 22, 3) := by decide +kernel
theorem dX8_move_8 : decode cX8_move 8 = .ok (.iload_n 2, 1) := by decide +kernel
theorem dX8_move_9 : decode cX8_move 9 = .ok (.invokestatic 56, 3) := by decide +kernel
theorem dX8_move_12 : decode cX8_move 12 = .ok (.ifCond .eq 15, 3) := by decide +kernel
theorem dX8_move_15 : decode cX8_move 15 = .ok (.aload_n 0, 1) := by decide +kernel
theorem dX8_move_16 : decode cX8_move 16 = .ok (.getfield 18, 3) := by decide +kernel
theorem dX8_move_19 : decode cX8_move 19 = .ok (.iload_n 1, 1) := by decide +kernel
theorem dX8_move_20 : decode cX8_move 20 = .ok (.bipush 8, 2) := by decide +kernel
theorem dX8_move_22 : decode cX8_move 22 = .ok (.imul, 1) := by decide +kernel
theorem dX8_move_23 : decode cX8_move 23 = .ok (.iload_n 2, 1) := by decide +kernel
theorem dX8_move_24 : decode cX8_move 24 = .ok (.iadd, 1) := by decide +kernel
theorem dX8_move_25 : decode cX8_move 25 = .ok (.iload_n 3, 1) := by decide +kernel
theorem dX8_move_26 : decode cX8_move 26 = .ok (.iastore, 1) := by decide +kernel
theorem dX8_move_27 : decode cX8_move 27 = .ok (.return_, 1) := by decide +kernel
theorem dX8_moveAllDay_0 : decode cX8_moveAllDay 0 = .ok (.iconst 0, 1) := by decide +kernel
theorem dX8_moveAllDay_1 : decode cX8_moveAllDay 1 = .ok (.istore_n 3, 1) := by decide +kernel
theorem dX8_moveAllDay_2 : decode cX8_moveAllDay 2 = .ok (.iload_n 3, 1) := by decide +kernel
theorem dX8_moveAllDay_3 : decode cX8_moveAllDay 3 = .ok (.bipush 8, 2) := by decide +kernel
theorem dX8_moveAllDay_5 : decode cX8_moveAllDay 5 = .ok (.if_icmp .ge 16, 3) := by decide +kernel
theorem dX8_moveAllDay_8 : decode cX8_moveAllDay 8 = .ok (.aload_n 0, 1) := by decide +kernel
theorem dX8_moveAllDay_9 : decode cX8_moveAllDay 9 = .ok (.iload_n 1, 1) := by decide +kernel
theorem dX8_moveAllDay_10 : decode cX8_moveAllDay 10 = .ok (.iload_n 3, 1) := by decide +kernel
theorem dX8_moveAllDay_11 : decode cX8_moveAllDay 11 = .ok (.iload_n 2, 1) := by decide +kernel
theorem dX8_moveAllDay_12 : decode cX8_moveAllDay 12 = .ok (.invokevirtual 59, 3) := by decide +kernel
theorem dX8_moveAllDay_15 : decode cX8_moveAllDay 15 = .ok (.iinc 3 1, 3) := by decide +kernel
theorem dX8_moveAllDay_18 : decode cX8_moveAllDay 18 = .ok (.goto (-16), 3) := by decide +kernel
theorem dX8_moveAllDay_21 : decode cX8_moveAllDay 21 = .ok (.return_, 1) := by decide +kernel
theorem dX9_init_0 : decode cX9_init 0 = .ok (.aload_n 0, 1) := by decide +kernel
theorem dX9_init_1 : decode cX9_init 1 = .ok (.invokespecial 3, 3) := by decide +kernel
theorem dX9_init_4 : decode cX9_init 4 = .ok (.aload_n 0, 1) := by decide +kernel
theorem dX9_init_5 : decode cX9_init 5 = .ok (.bipush 6, 2) := by decide +kernel
theorem dX9_init_7 : decode cX9_init 7 = .ok (.newarray .int, 2) := by decide +kernel
theorem dX9_init_9 : decode cX9_init 9 = .ok (.putfield 9, 3) := by decide +kernel
theorem dX9_init_12 : decode cX9_init 12 = .ok (.aload_n 0, 1) := by decide +kernel
theorem dX9_init_13 : decode cX9_init 13 = .ok (.bipush 6, 2) := by decide +kernel
theorem dX9_init_15 : decode cX9_init 15 = .ok (.newarray .int, 2) := by decide +kernel
theorem dX9_init_17 : decode cX9_init 17 = .ok (.putfield 15, 3) := by decide +kernel
theorem dX9_init_20 : decode cX9_init 20 = .ok (.aload_n 0, 1) := by decide +kernel
theorem dX9_init_21 : decode cX9_init 21 = .ok (.bipush 6, 2) := by decide +kernel
theorem dX9_init_23 : decode cX9_init 23 = .ok (.newarray .int, 2) := by decide +kernel
theorem dX9_init_25 : decode cX9_init 25 = .ok (.putfield 18, 3) := by decide +kernel
theorem dX9_init_28 : decode cX9_init 28 = .ok (.aload_n 0, 1) := by decide +kernel
theorem dX9_init_29 : decode cX9_init 29 = .ok (.bipush 6, 2) := by decide +kernel
theorem dX9_init_31 : decode cX9_init 31 = .ok (.newarray .int, 2) := by decide +kernel
theorem dX9_init_33 : decode cX9_init 33 = .ok (.putfield 21, 3) := by decide +kernel
theorem dX9_init_36 : decode cX9_init 36 = .ok (.aload_n 0, 1) := by decide +kernel
theorem dX9_init_37 : decode cX9_init 37 = .ok (.aload_n 1, 1) := by decide +kernel
theorem dX9_init_38 : decode cX9_init 38 = .ok (.putfield 24, 3) := by decide +kernel
theorem dX9_init_41 : decode cX9_init 41 = .ok (.aload_n 0, 1) := by decide +kernel
theorem dX9_init_42 : decode cX9_init 42 = .ok (.aload_n 2, 1) := by decide +kernel
theorem dX9_init_43 : decode cX9_init 43 = .ok (.putfield 28, 3) := by decide +kernel
theorem dX9_init_46 : decode cX9_init 46 = .ok (.aload_n 0, 1) := by decide +kernel
theorem dX9_init_47 : decode cX9_init 47 = .ok (.aload_n 3, 1) := by decide +kernel
theorem dX9_init_48 : decode cX9_init 48 = .ok (.putfield 32, 3) := by decide +kernel
theorem dX9_init_51 : decode cX9_init 51 = .ok (.return_, 1) := by decide +kernel
theorem dJ6_bitCount_0f7a4_0 : decode cJ6_bitCount_0f7a4 0 = .ok (.iload_n 0, 1) := by decide +kernel
theorem dJ6_bitCount_0f7a4_1 : decode cJ6_bitCount_0f7a4 1 = .ok (.iload_n 0, 1) := by decide +kernel
theorem dJ6_bitCount_0f7a4_2 : decode cJ6_bitCount_0f7a4 2 = .ok (.iconst 1, 1) := by decide +kernel
theorem dJ6_bitCount_0f7a4_3 : decode cJ6_bitCount_0f7a4 3 = .ok (.iushr, 1) := by decide +kernel
theorem dJ6_bitCount_0f7a4_4 : decode cJ6_bitCount_0f7a4 4 = .ok (.ldc_w 265, 3) := by decide +kernel
theorem dJ6_bitCount_0f7a4_7 : decode cJ6_bitCount_0f7a4 7 = .ok (.iand, 1) := by decide +kernel
theorem dJ6_bitCount_0f7a4_8 : decode cJ6_bitCount_0f7a4 8 = .ok (.isub, 1) := by decide +kernel
theorem dJ6_bitCount_0f7a4_9 : decode cJ6_bitCount_0f7a4 9 = .ok (.istore_n 0, 1) := by decide +kernel
theorem dJ6_bitCount_0f7a4_10 : decode cJ6_bitCount_0f7a4 10 = .ok (.iload_n 0, 1) := by decide +kernel
theorem dJ6_bitCount_0f7a4_11 : decode cJ6_bitCount_0f7a4 11 = .ok (.ldc_w 266, 3) := by decide +kernel
theorem dJ6_bitCount_0f7a4_14 : decode cJ6_bitCount_0f7a4 14 = .ok (.iand, 1) := by decide +kernel
theorem dJ6_bitCount_0f7a4_15 : decode cJ6_bitCount_0f7a4 15 = .ok (.iload_n 0, 1) := by decide +kernel
theorem dJ6_bitCount_0f7a4_16 : decode cJ6_bitCount_0f7a4 16 = .ok (.iconst 2, 1) := by decide +kernel
theorem dJ6_bitCount_0f7a4_17 : decode cJ6_bitCount_0f7a4 17 = .ok (.iushr, 1) := by decide +kernel
theorem dJ6_bitCount_0f7a4_18 : decode cJ6_bitCount_0f7a4 18 = .ok (.ldc_w 266, 3) := by decide +kernel
theorem dJ6_bitCount_0f7a4_21 : decode cJ6_bitCount_0f7a4 21 = .ok (.iand, 1) := by decide +kernel
theorem dJ6_bitCount_0f7a4_22 : decode cJ6_bitCount_0f7a4 22 = .ok (.iadd, 1) := by decide +kernel
theorem dJ6_bitCount_0f7a4_23 : decode cJ6_bitCount_0f7a4 23 = .ok (.istore_n 0, 1) := by decide +kernel
theorem dJ6_bitCount_0f7a4_24 : decode cJ6_bitCount_0f7a4 24 = .ok (.iload_n 0, 1) := by decide +kernel
theorem dJ6_bitCount_0f7a4_25 : decode cJ6_bitCount_0f7a4 25 = .ok (.iload_n 0, 1) := by decide +kernel
theorem dJ6_bitCount_0f7a4_26 : decode cJ6_bitCount_0f7a4 26 = .ok (.iconst 4, 1) := by decide +kernel
theorem dJ6_bitCount_0f7a4_27 : decode cJ6_bitCount_0f7a4 27 = .ok (.iushr, 1) := by decide +kernel
theorem dJ6_bitCount_0f7a4_28 : decode cJ6_bitCount_0f7a4 28 = .ok (.iadd, 1) := by decide +kernel
theorem dJ6_bitCount_0f7a4_29 : decode cJ6_bitCount_0f7a4 29 = .ok (.ldc_w 267, 3) := by decide +kernel
theorem dJ6_bitCount_0f7a4_32 : decode cJ6_bitCount_0f7a4 32 = .ok (.iand, 1) := by decide +kernel
theorem dJ6_bitCount_0f7a4_33 : decode cJ6_bitCount_0f7a4 33 = .ok (.istore_n 0, 1) := by decide +kernel
theorem dJ6_bitCount_0f7a4_34 : decode cJ6_bitCount_0f7a4 34 = .ok (.iload_n 0, 1) := by decide +kernel
theorem dJ6_bitCount_0f7a4_35 : decode cJ6_bitCount_0f7a4 35 = .ok (.iload_n 0, 1) := by decide +kernel
theorem dJ6_bitCount_0f7a4_36 : decode cJ6_bitCount_0f7a4 36 = .ok (.bipush 8, 2) := by decide +kernel
theorem dJ6_bitCount_0f7a4_38 : decode cJ6_bitCount_0f7a4 38 = .ok (.iushr, 1) := by decide +kernel
theorem dJ6_bitCount_0f7a4_39 : decode cJ6_bitCount_0f7a4 39 = .ok (.iadd, 1) := by decide +kernel
theorem dJ6_bitCount_0f7a4_40 : decode cJ6_bitCount_0f7a4 40 = .ok (.istore_n 0, 1) := by decide +kernel
theorem dJ6_bitCount_0f7a4_41 : decode cJ6_bitCount_0f7a4 41 = .ok (.iload_n 0, 1) := by decide +kernel
theorem dJ6_bitCount_0f7a4_42 : decode cJ6_bitCount_0f7a4 42 = .ok (.iload_n 0, 1) := by decide +kernel
theorem dJ6_bitCount_0f7a4_43 : decode cJ6_bitCount_0f7a4 43 = .ok (.bipush 16, 2) := by decide +kernel
theorem dJ6_bitCount_0f7a4_45 : decode cJ6_bitCount_0f7a4 45 = .ok (.iushr, 1) := by decide +kernel
theorem dJ6_bitCount_0f7a4_46 : decode cJ6_bitCount_0f7a4 46 = .ok (.iadd, 1) := by decide +kernel
theorem dJ6_bitCount_0f7a4_47 : decode cJ6_bitCount_0f7a4 47 = .ok (.istore_n 0, 1) := by decide +kernel
theorem dJ6_bitCount_0f7a4_48 : decode cJ6_bitCount_0f7a4 48 = .ok (.iload_n 0, 1) := by decide +kernel
theorem dJ6_bitCount_0f7a4_49 : decode cJ6_bitCount_0f7a4 49 = .ok (.bipush 63, 2) := by decide +kernel
theorem dJ6_bitCount_0f7a4_51 : decode cJ6_bitCount_0f7a4 51 = .ok (.iand, 1) := by decide +kernel
theorem dJ6_bitCount_0f7a4_52 : decode cJ6_bitCount_0f7a4 52 = .ok (.ireturn, 1) := by decide +kernel
end
section
theorem dL_law_0 : decode cL_law 0 = .ok (.new 9, 3) := by decide +kernel
theorem dL_law_3 : decode cL_law 3 = .ok (.dup, 1) := by decide +kernel
theorem dL_law_4 : decode cL_law 4 = .ok (.invokespecial 55, 3) := by decide +kernel
theorem dL_law_7 : decode cL_law 7 = .ok (.astore_n 1, 1) := by decide +kernel
theorem dL_law_8 : decode cL_law 8 = .ok (.iconst 2, 1) := by decide +kernel
theorem dL_law_9 : decode cL_law 9 = .ok (.newarray .int, 2) := by decide +kernel
theorem dL_law_11 : decode cL_law 11 = .ok (.astore_n 2, 1) := by decide +kernel
theorem dL_law_12 : decode cL_law 12 = .ok (.bipush 30, 2) := by decide +kernel
theorem dL_law_14 : decode cL_law 14 = .ok (.newarray .int, 2) := by decide +kernel
theorem dL_law_16 : decode cL_law 16 = .ok (.astore_n 3, 1) := by decide +kernel
theorem dL_law_17 : decode cL_law 17 = .ok (.bipush 60, 2) := by decide +kernel
theorem dL_law_19 : decode cL_law 19 = .ok (.newarray .int, 2) := by decide +kernel
theorem dL_law_21 : decode cL_law 21 = .ok (.astore 4, 2) := by decide +kernel
theorem dL_law_23 : decode cL_law 23 = .ok (.bipush 8, 2) := by decide +kernel
theorem dL_law_25 : decode cL_law 25 = .ok (.newarray .int, 2) := by decide +kernel
theorem dL_law_27 : decode cL_law 27 = .ok (.astore 5, 2) := by decide +kernel
theorem dL_law_29 : decode cL_law 29 = .ok (.aload_n 1, 1) := by decide +kernel
theorem dL_law_30 : decode cL_law 30 = .ok (.aload_n 0, 1) := by decide +kernel
theorem dL_law_31 : decode cL_law 31 = .ok (.iconst 0, 1) := by decide +kernel
theorem dL_law_32 : decode cL_law 32 = .ok (.iconst 5, 1) := by decide +kernel
theorem dL_law_33 : decode cL_law 33 = .ok (.aload_n 2, 1) := by decide +kernel
theorem dL_law_34 : decode cL_law 34 = .ok (.aload_n 3, 1) := by decide +kernel
theorem dL_law_35 : decode cL_law 35 = .ok (.invokestatic 56, 3) := by decide +kernel
theorem dL_law_38 : decode cL_law 38 = .ok (.ifCond .ne 5, 3) := by decide +kernel
theorem dL_law_41 : decode cL_law 41 = .ok (.iconst 0, 1) := by decide +kernel
theorem dL_law_42 : decode cL_law 42 = .ok (.ireturn, 1) := by decide +kernel
theorem dL_law_43 : decode cL_law 43 = .ok (.aload_n 2, 1) := by decide +kernel
theorem dL_law_44 : decode cL_law 44 = .ok (.iconst 0, 1) := by decide +kernel
theorem dL_law_45 : decode cL_law 45 = .ok (.iaload, 1) := by decide +kernel
theorem dL_law_46 : decode cL_law 46 = .ok (.aload_n 2, 1) := by decide +kernel
theorem dL_law_47 : decode cL_law 47 = .ok (.iconst 1, 1) := by decide +kernel
theorem dL_law_48 : decode cL_law 48 = .ok (.iaload, 1) := by decide +kernel
theorem dL_law_49 : decode cL_law 49 = .ok (.imul, 1) := by decide +kernel
theorem dL_law_50 : decode cL_law 50 = .ok (.istore 6, 2) := by decide +kernel
theorem dL_law_52 : decode cL_law 52 = .ok (.iconst 1, 1) := by decide +kernel
theorem dL_law_53 : decode cL_law 53 = .ok (.aload_n 0, 1) := by decide +kernel
theorem dL_law_54 : decode cL_law 54 = .ok (.bipush 7, 2) := by decide +kernel
theorem dL_law_56 : decode cL_law 56 = .ok (.invokestatic 14, 3) := by decide +kernel
theorem dL_law_59 : decode cL_law 59 = .ok (.bipush 6, 2) := by decide +kernel
theorem dL_law_61 : decode cL_law 61 = .ok (.irem, 1) := by decide +kernel
theorem dL_law_62 : decode cL_law 62 = .ok (.iadd, 1) := by decide +kernel
theorem dL_law_63 : decode cL_law 63 = .ok (.istore 7, 2) := by decide +kernel
theorem dL_law_65 : decode cL_law 65 = .ok (.aload_n 1, 1) := by decide +kernel
theorem dL_law_66 : decode cL_law 66 = .ok (.aload_n 0, 1) := by decide +kernel
theorem dL_law_67 : decode cL_law 67 = .ok (.bipush 8, 2) := by decide +kernel
theorem dL_law_69 : decode cL_law 69 = .ok (.iload 7, 2) := by decide +kernel
theorem dL_law_71 : decode cL_law 71 = .ok (.aload_n 2, 1) := by decide +kernel
theorem dL_law_72 : decode cL_law 72 = .ok (.aload 4, 2) := by decide +kernel
theorem dL_law_74 : decode cL_law 74 = .ok (.invokestatic 59, 3) := by decide +kernel
theorem dL_law_77 : decode cL_law 77 = .ok (.ifCond .ne 5, 3) := by decide +kernel
theorem dL_law_80 : decode cL_law 80 = .ok (.iconst 0, 1) := by decide +kernel
theorem dL_law_81 : decode cL_law 81 = .ok (.ireturn, 1) := by decide +kernel
theorem dL_law_82 : decode cL_law 82 = .ok (.iconst 0, 1) := by decide +kernel
theorem dL_law_83 : decode cL_law 83 = .ok (.istore 8, 2) := by decide +kernel
theorem dL_law_85 : decode cL_law 85 = .ok (.iload 8, 2) := by decide +kernel
theorem dL_law_87 : decode cL_law 87 = .ok (.iload 7, 2) := by decide +kernel
theorem dL_law_89 : decode cL_law 89 = .ok (.if_icmp .ge 79, 3) := by decide +kernel
theorem dL_law_92 : decode cL_law 92 = .ok (.iconst 0, 1) := by decide +kernel
theorem dL_law_93 : decode cL_law 93 = .ok (.istore 9, 2) := by decide +kernel
theorem dL_law_95 : decode cL_law 95 = .ok (.iload 9, 2) := by decide +kernel
theorem dL_law_97 : decode cL_law 97 = .ok (.iconst 5, 1) := by decide +kernel
theorem dL_law_98 : decode cL_law 98 = .ok (.if_icmp .ge 64, 3) := by decide +kernel
theorem dL_law_101 : decode cL_law 101 = .ok (.aload_n 1, 1) := by decide +kernel
theorem dL_law_102 : decode cL_law 102 = .ok (.iload 8, 2) := by decide +kernel
theorem dL_law_104 : decode cL_law 104 = .ok (.iload 9, 2) := by decide +kernel
theorem dL_law_106 : decode cL_law 106 = .ok (.invokevirtual 62, 3) := by decide +kernel
theorem dL_law_109 : decode cL_law 109 = .ok (.iload 9, 2) := by decide +kernel
theorem dL_law_111 : decode cL_law 111 = .ok (.ifCond .eq 34, 3) := by decide +kernel
theorem dL_law_114 : decode cL_law 114 = .ok (.iload 9, 2) := by decide +kernel
theorem dL_law_116 : decode cL_law 116 = .ok (.aload 4, 2) := by decide +kernel
theorem dL_law_118 : decode cL_law 118 = .ok (.bipush 10, 2) := by decide +kernel
theorem dL_law_120 : decode cL_law 120 = .ok (.iload 8, 2) := by decide +kernel
theorem dL_law_122 : decode cL_law 122 = .ok (.imul, 1) := by decide +kernel
theorem dL_law_123 : decode cL_law 123 = .ok (.iaload, 1) := by decide +kernel
theorem dL_law_124 : decode cL_law 124 = .ok (.if_icmp .eq 21, 3) := by decide +kernel
theorem dL_law_127 : decode cL_law 127 = .ok (.iload 9, 2) := by decide +kernel
theorem dL_law_129 : decode cL_law 129 = .ok (.iconst 3, 1) := by decide +kernel
theorem dL_law_130 : decode cL_law 130 = .ok (.if_icmp .ne 20, 3) := by decide +kernel
theorem dL_law_133 : decode cL_law 133 = .ok (.aload 4, 2) := by decide +kernel
theorem dL_law_135 : decode cL_law 135 = .ok (.bipush 10, 2) := by decide +kernel
theorem dL_law_137 : decode cL_law 137 = .ok (.iload 8, 2) := by decide +kernel
theorem dL_law_139 : decode cL_law 139 = .ok (.imul, 1) := by decide +kernel
theorem dL_law_140 : decode cL_law 140 = .ok (.iaload, 1) := by decide +kernel
theorem dL_law_141 : decode cL_law 141 = .ok (.iconst 4, 1) := by decide +kernel
theorem dL_law_142 : decode cL_law 142 = .ok (.if_icmp .ne 8, 3) := by decide +kernel
theorem dL_law_145 : decode cL_law 145 = .ok (.iload 8, 2) := by decide +kernel
theorem dL_law_147 : decode cL_law 147 = .ok (.goto 4, 3) := by decide +kernel
theorem dL_law_150 : decode cL_law 150 = .ok (.iconst (-1), 1) := by decide +kernel
theorem dL_law_151 : decode cL_law 151 = .ok (.if_icmp .eq 5, 3) := by decide +kernel
theorem dL_law_154 : decode cL_law 154 = .ok (.iconst 0, 1) := by decide +kernel
theorem dL_law_155 : decode cL_law 155 = .ok (.ireturn, 1) := by decide +kernel
theorem dL_law_156 : decode cL_law 156 = .ok (.iinc 9 1, 3) := by decide +kernel
theorem dL_law_159 : decode cL_law 159 = .ok (.goto (-64), 3) := by decide +kernel
theorem dL_law_162 : decode cL_law 162 = .ok (.iinc 8 1, 3) := by decide +kernel
theorem dL_law_165 : decode cL_law 165 = .ok (.goto (-80), 3) := by decide +kernel
theorem dL_law_168 : decode cL_law 168 = .ok (.iconst 0, 1) := by decide +kernel
theorem dL_law_169 : decode cL_law 169 = .ok (.istore 8, 2) := by decide +kernel
theorem dL_law_171 : decode cL_law 171 = .ok (.iload 8, 2) := by decide +kernel
theorem dL_law_173 : decode cL_law 173 = .ok (.bipush 12, 2) := by decide +kernel
theorem dL_law_175 : decode cL_law 175 = .ok (.if_icmp .ge 990, 3) := by decide +kernel
theorem dL_law_178 : decode cL_law 178 = .ok (.aload_n 0, 1) := by decide +kernel
theorem dL_law_179 : decode cL_law 179 = .ok (.bipush 20, 2) := by decide +kernel
theorem dL_law_181 : decode cL_law 181 = .ok (.iload 8, 2) := by decide +kernel
theorem dL_law_183 : decode cL_law 183 = .ok (.iadd, 1) := by decide +kernel
theorem dL_law_184 : decode cL_law 184 = .ok (.invokestatic 14, 3) := by decide +kernel
theorem dL_law_187 : decode cL_law 187 = .ok (.istore 9, 2) := by decide +kernel
theorem dL_law_189 : decode cL_law 189 = .ok (.iload 9, 2) := by decide +kernel
theorem dL_law_191 : decode cL_law 191 = .ok (.iconst 4, 1) := by decide +kernel
theorem dL_law_192 : decode cL_law 192 = .ok (.idiv, 1) := by decide +kernel
theorem dL_law_193 : decode cL_law 193 = .ok (.iload 7, 2) := by decide +kernel
theorem dL_law_195 : decode cL_law 195 = .ok (.irem, 1) := by decide +kernel
theorem dL_law_196 : decode cL_law 196 = .ok (.istore 10, 2) := by decide +kernel
theorem dL_law_198 : decode cL_law 198 = .ok (.iload 9, 2) := by decide +kernel
theorem dL_law_200 : decode cL_law 200 = .ok (.bipush 32, 2) := by decide +kernel
theorem dL_law_202 : decode cL_law 202 = .ok (.idiv, 1) := by decide +kernel
theorem dL_law_203 : decode cL_law 203 = .ok (.iload 7, 2) := by decide +kernel
theorem dL_law_205 : decode cL_law 205 = .ok (.irem, 1) := by decide +kernel
theorem dL_law_206 : decode cL_law 206 = .ok (.istore 11, 2) := by decide +kernel
theorem dL_law_208 : decode cL_law 208 = .ok (.iload 9, 2) := by decide +kernel
theorem dL_law_210 : decode cL_law 210 = .ok (.sipush 256, 3) := by decide +kernel
theorem dL_law_213 : decode cL_law 213 = .ok (.idiv, 1) := by decide +kernel
theorem dL_law_214 : decode cL_law 214 = .ok (.bipush 8, 2) := by decide +kernel
theorem dL_law_216 : decode cL_law 216 = .ok (.irem, 1) := by decide +kernel
theorem dL_law_217 : decode cL_law 217 = .ok (.istore 12, 2) := by decide +kernel
theorem dL_law_219 : decode cL_law 219 = .ok (.iload 9, 2) := by decide +kernel
theorem dL_law_221 : decode cL_law 221 = .ok (.sipush 2048, 3) := by decide +kernel
theorem dL_law_224 : decode cL_law 224 = .ok (.idiv, 1) := by decide +kernel
theorem dL_law_225 : decode cL_law 225 = .ok (.iload 6, 2) := by decide +kernel
theorem dL_law_227 : decode cL_law 227 = .ok (.irem, 1) := by decide +kernel
theorem dL_law_228 : decode cL_law 228 = .ok (.istore 13, 2) := by decide +kernel
theorem dL_law_230 : decode cL_law 230 = .ok (.aload 4, 2) := by decide +kernel
theorem dL_law_232 : decode cL_law 232 = .ok (.bipush 10, 2) := by decide +kernel
theorem dL_law_234 : decode cL_law 234 = .ok (.iload 10, 2) := by decide +kernel
theorem dL_law_236 : decode cL_law 236 = .ok (.imul, 1) := by decide +kernel
theorem dL_law_237 : decode cL_law 237 = .ok (.iaload, 1) := by decide +kernel
theorem dL_law_238 : decode cL_law 238 = .ok (.iconst 2, 1) := by decide +kernel
theorem dL_law_239 : decode cL_law 239 = .ok (.if_icmp .le 7, 3) := by decide +kernel
theorem dL_law_242 : decode cL_law 242 = .ok (.iconst 1, 1) := by decide +kernel
theorem dL_law_243 : decode cL_law 243 = .ok (.goto 4, 3) := by decide +kernel
theorem dL_law_246 : decode cL_law 246 = .ok (.iconst 0, 1) := by decide +kernel
theorem dL_law_247 : decode cL_law 247 = .ok (.istore 14, 2) := by decide +kernel
theorem dL_law_249 : decode cL_law 249 = .ok (.iload 9, 2) := by decide +kernel
theorem dL_law_251 : decode cL_law 251 = .ok (.iconst 4, 1) := by decide +kernel
theorem dL_law_252 : decode cL_law 252 = .ok (.irem, 1) := by decide +kernel
theorem dL_law_253 : decode cL_law 253 = .ok (.ifCond .ne 73, 3) := by decide +kernel
theorem dL_law_256 : decode cL_law 256 = .ok (.aload 4, 2) := by decide +kernel
theorem dL_law_258 : decode cL_law 258 = .ok (.bipush 10, 2) := by decide +kernel
theorem dL_law_260 : decode cL_law 260 = .ok (.iload 10, 2) := by decide +kernel
theorem dL_law_262 : decode cL_law 262 = .ok (.imul, 1) := by decide +kernel
theorem dL_law_263 : decode cL_law 263 = .ok (.iconst 2, 1) := by decide +kernel
theorem dL_law_264 : decode cL_law 264 = .ok (.iadd, 1) := by decide +kernel
theorem dL_law_265 : decode cL_law 265 = .ok (.iload 12, 2) := by decide +kernel
theorem dL_law_267 : decode cL_law 267 = .ok (.iadd, 1) := by decide +kernel
theorem dL_law_268 : decode cL_law 268 = .ok (.iaload, 1) := by decide +kernel
theorem dL_law_269 : decode cL_law 269 = .ok (.istore 15, 2) := by decide +kernel
theorem dL_law_271 : decode cL_law 271 = .ok (.aload_n 1, 1) := by decide +kernel
theorem dL_law_272 : decode cL_law 272 = .ok (.iload 10, 2) := by decide +kernel
theorem dL_law_274 : decode cL_law 274 = .ok (.iload 12, 2) := by decide +kernel
theorem dL_law_276 : decode cL_law 276 = .ok (.iload 13, 2) := by decide +kernel
theorem dL_law_278 : decode cL_law 278 = .ok (.invokevirtual 39, 3) := by decide +kernel
theorem dL_law_281 : decode cL_law 281 = .ok (.iload 14, 2) := by decide +kernel
theorem dL_law_283 : decode cL_law 283 = .ok (.ifCond .eq 8, 3) := by decide +kernel
theorem dL_law_286 : decode cL_law 286 = .ok (.iload 15, 2) := by decide +kernel
theorem dL_law_288 : decode cL_law 288 = .ok (.goto 5, 3) := by decide +kernel
theorem dL_law_291 : decode cL_law 291 = .ok (.bipush (-103), 2) := by decide +kernel
theorem dL_law_293 : decode cL_law 293 = .ok (.if_icmp .eq 5, 3) := by decide +kernel
theorem dL_law_296 : decode cL_law 296 = .ok (.iconst 0, 1) := by decide +kernel
theorem dL_law_297 : decode cL_law 297 = .ok (.ireturn, 1) := by decide +kernel
theorem dL_law_298 : decode cL_law 298 = .ok (.aload 4, 2) := by decide +kernel
theorem dL_law_300 : decode cL_law 300 = .ok (.bipush 10, 2) := by decide +kernel
theorem dL_law_302 : decode cL_law 302 = .ok (.iload 10, 2) := by decide +kernel
theorem dL_law_304 : decode cL_law 304 = .ok (.imul, 1) := by decide +kernel
theorem dL_law_305 : decode cL_law 305 = .ok (.iconst 2, 1) := by decide +kernel
theorem dL_law_306 : decode cL_law 306 = .ok (.iadd, 1) := by decide +kernel
theorem dL_law_307 : decode cL_law 307 = .ok (.iload 12, 2) := by decide +kernel
theorem dL_law_309 : decode cL_law 309 = .ok (.iadd, 1) := by decide +kernel
theorem dL_law_310 : decode cL_law 310 = .ok (.iload 14, 2) := by decide +kernel
theorem dL_law_312 : decode cL_law 312 = .ok (.ifCond .eq 8, 3) := by decide +kernel
theorem dL_law_315 : decode cL_law 315 = .ok (.iload 13, 2) := by decide +kernel
theorem dL_law_317 : decode cL_law 317 = .ok (.goto 5, 3) := by decide +kernel
theorem dL_law_320 : decode cL_law 320 = .ok (.iload 15, 2) := by decide +kernel
theorem dL_law_322 : decode cL_law 322 = .ok (.iastore, 1) := by decide +kernel
theorem dL_law_323 : decode cL_law 323 = .ok (.goto 224, 3) := by decide +kernel
theorem dL_law_326 : decode cL_law 326 = .ok (.iload 9, 2) := by decide +kernel
theorem dL_law_328 : decode cL_law 328 = .ok (.iconst 4, 1) := by decide +kernel
theorem dL_law_329 : decode cL_law 329 = .ok (.irem, 1) := by decide +kernel
theorem dL_law_330 : decode cL_law 330 = .ok (.iconst 1, 1) := by decide +kernel
theorem dL_law_331 : decode cL_law 331 = .ok (.if_icmp .ne 75, 3) := by decide +kernel
theorem dL_law_334 : decode cL_law 334 = .ok (.aload_n 1, 1) := by decide +kernel
theorem dL_law_335 : decode cL_law 335 = .ok (.iload 10, 2) := by decide +kernel
theorem dL_law_337 : decode cL_law 337 = .ok (.iload 13, 2) := by decide +kernel
theorem dL_law_339 : decode cL_law 339 = .ok (.invokevirtual 66, 3) := by decide +kernel
theorem dL_law_342 : decode cL_law 342 = .ok (.iload 14, 2) := by decide +kernel
theorem dL_law_344 : decode cL_law 344 = .ok (.ifCond .eq 8, 3) := by decide +kernel
theorem dL_law_347 : decode cL_law 347 = .ok (.bipush (-103), 2) := by decide +kernel
theorem dL_law_349 : decode cL_law 349 = .ok (.goto 13, 3) := by decide +kernel
theorem dL_law_352 : decode cL_law 352 = .ok (.aload 4, 2) := by decide +kernel
theorem dL_law_354 : decode cL_law 354 = .ok (.bipush 10, 2) := by decide +kernel
theorem dL_law_356 : decode cL_law 356 = .ok (.iload 10, 2) := by decide +kernel
theorem dL_law_358 : decode cL_law 358 = .ok (.imul, 1) := by decide +kernel
theorem dL_law_359 : decode cL_law 359 = .ok (.iconst 2, 1) := by decide +kernel
theorem dL_law_360 : decode cL_law 360 = .ok (.iadd, 1) := by decide +kernel
theorem dL_law_361 : decode cL_law 361 = .ok (.iaload, 1) := by decide +kernel
theorem dL_law_362 : decode cL_law 362 = .ok (.if_icmp .eq 5, 3) := by decide +kernel
theorem dL_law_365 : decode cL_law 365 = .ok (.iconst 0, 1) := by decide +kernel
theorem dL_law_366 : decode cL_law 366 = .ok (.ireturn, 1) := by decide +kernel
theorem dL_law_367 : decode cL_law 367 = .ok (.iconst 0, 1) := by decide +kernel
theorem dL_law_368 : decode cL_law 368 = .ok (.istore 15, 2) := by decide +kernel
theorem dL_law_370 : decode cL_law 370 = .ok (.iload 15, 2) := by decide +kernel
theorem dL_law_372 : decode cL_law 372 = .ok (.bipush 8, 2) := by decide +kernel
theorem dL_law_374 : decode cL_law 374 = .ok (.if_icmp .ge 29, 3) := by decide +kernel
theorem dL_law_377 : decode cL_law 377 = .ok (.iload 14, 2) := by decide +kernel
theorem dL_law_379 : decode cL_law 379 = .ok (.ifCond .ne 24, 3) := by decide +kernel
theorem dL_law_382 : decode cL_law 382 = .ok (.aload 4, 2) := by decide +kernel
theorem dL_law_384 : decode cL_law 384 = .ok (.bipush 10, 2) := by decide +kernel
theorem dL_law_386 : decode cL_law 386 = .ok (.iload 10, 2) := by decide +kernel
theorem dL_law_388 : decode cL_law 388 = .ok (.imul, 1) := by decide +kernel
theorem dL_law_389 : decode cL_law 389 = .ok (.iconst 2, 1) := by decide +kernel
theorem dL_law_390 : decode cL_law 390 = .ok (.iadd, 1) := by decide +kernel
theorem dL_law_391 : decode cL_law 391 = .ok (.iload 15, 2) := by decide +kernel
theorem dL_law_393 : decode cL_law 393 = .ok (.iadd, 1) := by decide +kernel
theorem dL_law_394 : decode cL_law 394 = .ok (.iload 13, 2) := by decide +kernel
theorem dL_law_396 : decode cL_law 396 = .ok (.iastore, 1) := by decide +kernel
theorem dL_law_397 : decode cL_law 397 = .ok (.iinc 15 1, 3) := by decide +kernel
theorem dL_law_400 : decode cL_law 400 = .ok (.goto (-30), 3) := by decide +kernel
theorem dL_law_403 : decode cL_law 403 = .ok (.goto 144, 3) := by decide +kernel
theorem dL_law_406 : decode cL_law 406 = .ok (.iload 14, 2) := by decide +kernel
theorem dL_law_408 : decode cL_law 408 = .ok (.ifCond .eq 19, 3) := by decide +kernel
theorem dL_law_411 : decode cL_law 411 = .ok (.aload 4, 2) := by decide +kernel
theorem dL_law_413 : decode cL_law 413 = .ok (.bipush 10, 2) := by decide +kernel
theorem dL_law_415 : decode cL_law 415 = .ok (.iload 11, 2) := by decide +kernel
theorem dL_law_417 : decode cL_law 417 = .ok (.imul, 1) := by decide +kernel
theorem dL_law_418 : decode cL_law 418 = .ok (.iaload, 1) := by decide +kernel
theorem dL_law_419 : decode cL_law 419 = .ok (.iconst 2, 1) := by decide +kernel
theorem dL_law_420 : decode cL_law 420 = .ok (.if_icmp .le 7, 3) := by decide +kernel
theorem dL_law_423 : decode cL_law 423 = .ok (.iconst 1, 1) := by decide +kernel
theorem dL_law_424 : decode cL_law 424 = .ok (.goto 4, 3) := by decide +kernel
theorem dL_law_427 : decode cL_law 427 = .ok (.iconst 0, 1) := by decide +kernel
theorem dL_law_428 : decode cL_law 428 = .ok (.istore 15, 2) := by decide +kernel
theorem dL_law_430 : decode cL_law 430 = .ok (.aload 4, 2) := by decide +kernel
theorem dL_law_432 : decode cL_law 432 = .ok (.bipush 10, 2) := by decide +kernel
theorem dL_law_434 : decode cL_law 434 = .ok (.iload 10, 2) := by decide +kernel
theorem dL_law_436 : decode cL_law 436 = .ok (.imul, 1) := by decide +kernel
theorem dL_law_437 : decode cL_law 437 = .ok (.iconst 2, 1) := by decide +kernel
theorem dL_law_438 : decode cL_law 438 = .ok (.iadd, 1) := by decide +kernel
theorem dL_law_439 : decode cL_law 439 = .ok (.iload 12, 2) := by decide +kernel
theorem dL_law_441 : decode cL_law 441 = .ok (.iadd, 1) := by decide +kernel
theorem dL_law_442 : decode cL_law 442 = .ok (.iaload, 1) := by decide +kernel
theorem dL_law_443 : decode cL_law 443 = .ok (.istore 16, 2) := by decide +kernel
theorem dL_law_445 : decode cL_law 445 = .ok (.aload 4, 2) := by decide +kernel
theorem dL_law_447 : decode cL_law 447 = .ok (.bipush 10, 2) := by decide +kernel
theorem dL_law_449 : decode cL_law 449 = .ok (.iload 11, 2) := by decide +kernel
theorem dL_law_451 : decode cL_law 451 = .ok (.imul, 1) := by decide +kernel
theorem dL_law_452 : decode cL_law 452 = .ok (.iconst 2, 1) := by decide +kernel
theorem dL_law_453 : decode cL_law 453 = .ok (.iadd, 1) := by decide +kernel
theorem dL_law_454 : decode cL_law 454 = .ok (.iload 12, 2) := by decide +kernel
theorem dL_law_456 : decode cL_law 456 = .ok (.iadd, 1) := by decide +kernel
theorem dL_law_457 : decode cL_law 457 = .ok (.iaload, 1) := by decide +kernel
theorem dL_law_458 : decode cL_law 458 = .ok (.istore 17, 2) := by decide +kernel
theorem dL_law_460 : decode cL_law 460 = .ok (.aload_n 1, 1) := by decide +kernel
theorem dL_law_461 : decode cL_law 461 = .ok (.iload 10, 2) := by decide +kernel
theorem dL_law_463 : decode cL_law 463 = .ok (.iload 11, 2) := by decide +kernel
theorem dL_law_465 : decode cL_law 465 = .ok (.iload 12, 2) := by decide +kernel
theorem dL_law_467 : decode cL_law 467 = .ok (.invokevirtual 68, 3) := by decide +kernel
theorem dL_law_470 : decode cL_law 470 = .ok (.iload 15, 2) := by decide +kernel
theorem dL_law_472 : decode cL_law 472 = .ok (.ifCond .eq 18, 3) := by decide +kernel
theorem dL_law_475 : decode cL_law 475 = .ok (.iload 16, 2) := by decide +kernel
theorem dL_law_477 : decode cL_law 477 = .ok (.iload 17, 2) := by decide +kernel
theorem dL_law_479 : decode cL_law 479 = .ok (.if_icmp .ne 7, 3) := by decide +kernel
theorem dL_law_482 : decode cL_law 482 = .ok (.iconst 0, 1) := by decide +kernel
theorem dL_law_483 : decode cL_law 483 = .ok (.goto 9, 3) := by decide +kernel
theorem dL_law_486 : decode cL_law 486 = .ok (.iconst 1, 1) := by decide +kernel
theorem dL_law_487 : decode cL_law 487 = .ok (.goto 5, 3) := by decide +kernel
theorem dL_law_490 : decode cL_law 490 = .ok (.bipush (-103), 2) := by decide +kernel
theorem dL_law_492 : decode cL_law 492 = .ok (.if_icmp .eq 5, 3) := by decide +kernel
theorem dL_law_495 : decode cL_law 495 = .ok (.iconst 0, 1) := by decide +kernel
theorem dL_law_496 : decode cL_law 496 = .ok (.ireturn, 1) := by decide +kernel
theorem dL_law_497 : decode cL_law 497 = .ok (.aload 4, 2) := by decide +kernel
theorem dL_law_499 : decode cL_law 499 = .ok (.bipush 10, 2) := by decide +kernel
theorem dL_law_501 : decode cL_law 501 = .ok (.iload 10, 2) := by decide +kernel
theorem dL_law_503 : decode cL_law 503 = .ok (.imul, 1) := by decide +kernel
theorem dL_law_504 : decode cL_law 504 = .ok (.iconst 2, 1) := by decide +kernel
theorem dL_law_505 : decode cL_law 505 = .ok (.iadd, 1) := by decide +kernel
theorem dL_law_506 : decode cL_law 506 = .ok (.iload 12, 2) := by decide +kernel
theorem dL_law_508 : decode cL_law 508 = .ok (.iadd, 1) := by decide +kernel
theorem dL_law_509 : decode cL_law 509 = .ok (.iload 15, 2) := by decide +kernel
theorem dL_law_511 : decode cL_law 511 = .ok (.ifCond .eq 8, 3) := by decide +kernel
theorem dL_law_514 : decode cL_law 514 = .ok (.iload 17, 2) := by decide +kernel
theorem dL_law_516 : decode cL_law 516 = .ok (.goto 5, 3) := by decide +kernel
theorem dL_law_519 : decode cL_law 519 = .ok (.iload 16, 2) := by decide +kernel
theorem dL_law_521 : decode cL_law 521 = .ok (.iastore, 1) := by decide +kernel
theorem dL_law_522 : decode cL_law 522 = .ok (.aload 4, 2) := by decide +kernel
theorem dL_law_524 : decode cL_law 524 = .ok (.bipush 10, 2) := by decide +kernel
theorem dL_law_526 : decode cL_law 526 = .ok (.iload 11, 2) := by decide +kernel
theorem dL_law_528 : decode cL_law 528 = .ok (.imul, 1) := by decide +kernel
theorem dL_law_529 : decode cL_law 529 = .ok (.iconst 2, 1) := by decide +kernel
theorem dL_law_530 : decode cL_law 530 = .ok (.iadd, 1) := by decide +kernel
theorem dL_law_531 : decode cL_law 531 = .ok (.iload 12, 2) := by decide +kernel
theorem dL_law_533 : decode cL_law 533 = .ok (.iadd, 1) := by decide +kernel
theorem dL_law_534 : decode cL_law 534 = .ok (.iload 15, 2) := by decide +kernel
theorem dL_law_536 : decode cL_law 536 = .ok (.ifCond .eq 8, 3) := by decide +kernel
theorem dL_law_539 : decode cL_law 539 = .ok (.iload 16, 2) := by decide +kernel
theorem dL_law_541 : decode cL_law 541 = .ok (.goto 5, 3) := by decide +kernel
theorem dL_law_544 : decode cL_law 544 = .ok (.iload 17, 2) := by decide +kernel
theorem dL_law_546 : decode cL_law 546 = .ok (.iastore, 1) := by decide +kernel
theorem dL_law_547 : decode cL_law 547 = .ok (.iconst 0, 1) := by decide +kernel
theorem dL_law_548 : decode cL_law 548 = .ok (.istore 15, 2) := by decide +kernel
theorem dL_law_550 : decode cL_law 550 = .ok (.iconst 0, 1) := by decide +kernel
theorem dL_law_551 : decode cL_law 551 = .ok (.istore 16, 2) := by decide +kernel
theorem dL_law_553 : decode cL_law 553 = .ok (.iload 16, 2) := by decide +kernel
theorem dL_law_555 : decode cL_law 555 = .ok (.iload 7, 2) := by decide +kernel
theorem dL_law_557 : decode cL_law 557 = .ok (.if_icmp .ge 133, 3) := by decide +kernel
theorem dL_law_560 : decode cL_law 560 = .ok (.iload 15, 2) := by decide +kernel
theorem dL_law_562 : decode cL_law 562 = .ok (.aload 4, 2) := by decide +kernel
theorem dL_law_564 : decode cL_law 564 = .ok (.bipush 10, 2) := by decide +kernel
theorem dL_law_566 : decode cL_law 566 = .ok (.iload 16, 2) := by decide +kernel
theorem dL_law_568 : decode cL_law 568 = .ok (.imul, 1) := by decide +kernel
theorem dL_law_569 : decode cL_law 569 = .ok (.iaload, 1) := by decide +kernel
theorem dL_law_570 : decode cL_law 570 = .ok (.iconst 2, 1) := by decide +kernel
theorem dL_law_571 : decode cL_law 571 = .ok (.if_icmp .le 7, 3) := by decide +kernel
theorem dL_law_574 : decode cL_law 574 = .ok (.iconst 1, 1) := by decide +kernel
theorem dL_law_575 : decode cL_law 575 = .ok (.goto 4, 3) := by decide +kernel
theorem dL_law_578 : decode cL_law 578 = .ok (.iconst 0, 1) := by decide +kernel
theorem dL_law_579 : decode cL_law 579 = .ok (.iadd, 1) := by decide +kernel
theorem dL_law_580 : decode cL_law 580 = .ok (.istore 15, 2) := by decide +kernel
theorem dL_law_582 : decode cL_law 582 = .ok (.aload_n 1, 1) := by decide +kernel
theorem dL_law_583 : decode cL_law 583 = .ok (.iload 16, 2) := by decide +kernel
theorem dL_law_585 : decode cL_law 585 = .ok (.iconst 0, 1) := by decide +kernel
theorem dL_law_586 : decode cL_law 586 = .ok (.invokevirtual 71, 3) := by decide +kernel
theorem dL_law_589 : decode cL_law 589 = .ok (.aload 4, 2) := by decide +kernel
theorem dL_law_591 : decode cL_law 591 = .ok (.bipush 10, 2) := by decide +kernel
theorem dL_law_593 : decode cL_law 593 = .ok (.iload 16, 2) := by decide +kernel
theorem dL_law_595 : decode cL_law 595 = .ok (.imul, 1) := by decide +kernel
theorem dL_law_596 : decode cL_law 596 = .ok (.iaload, 1) := by decide +kernel
theorem dL_law_597 : decode cL_law 597 = .ok (.if_icmp .ne 40, 3) := by decide +kernel
theorem dL_law_600 : decode cL_law 600 = .ok (.aload_n 1, 1) := by decide +kernel
theorem dL_law_601 : decode cL_law 601 = .ok (.iload 16, 2) := by decide +kernel
theorem dL_law_603 : decode cL_law 603 = .ok (.iconst 1, 1) := by decide +kernel
theorem dL_law_604 : decode cL_law 604 = .ok (.invokevirtual 71, 3) := by decide +kernel
theorem dL_law_607 : decode cL_law 607 = .ok (.aload 4, 2) := by decide +kernel
theorem dL_law_609 : decode cL_law 609 = .ok (.bipush 10, 2) := by decide +kernel
theorem dL_law_611 : decode cL_law 611 = .ok (.iload 16, 2) := by decide +kernel
theorem dL_law_613 : decode cL_law 613 = .ok (.imul, 1) := by decide +kernel
theorem dL_law_614 : decode cL_law 614 = .ok (.iconst 1, 1) := by decide +kernel
theorem dL_law_615 : decode cL_law 615 = .ok (.iadd, 1) := by decide +kernel
theorem dL_law_616 : decode cL_law 616 = .ok (.iaload, 1) := by decide +kernel
theorem dL_law_617 : decode cL_law 617 = .ok (.if_icmp .ne 20, 3) := by decide +kernel
theorem dL_law_620 : decode cL_law 620 = .ok (.aload_n 1, 1) := by decide +kernel
theorem dL_law_621 : decode cL_law 621 = .ok (.iload 16, 2) := by decide +kernel
theorem dL_law_623 : decode cL_law 623 = .ok (.iconst 2, 1) := by decide +kernel
theorem dL_law_624 : decode cL_law 624 = .ok (.invokevirtual 71, 3) := by decide +kernel
theorem dL_law_627 : decode cL_law 627 = .ok (.aload 4, 2) := by decide +kernel
theorem dL_law_629 : decode cL_law 629 = .ok (.iload 16, 2) := by decide +kernel
theorem dL_law_631 : decode cL_law 631 = .ok (.invokestatic 48, 3) := by decide +kernel
theorem dL_law_634 : decode cL_law 634 = .ok (.if_icmp .eq 5, 3) := by decide +kernel
theorem dL_law_637 : decode cL_law 637 = .ok (.iconst 0, 1) := by decide +kernel
theorem dL_law_638 : decode cL_law 638 = .ok (.ireturn, 1) := by decide +kernel
theorem dL_law_639 : decode cL_law 639 = .ok (.iconst 0, 1) := by decide +kernel
theorem dL_law_640 : decode cL_law 640 = .ok (.istore 17, 2) := by decide +kernel
theorem dL_law_642 : decode cL_law 642 = .ok (.iload 17, 2) := by decide +kernel
theorem dL_law_644 : decode cL_law 644 = .ok (.bipush 8, 2) := by decide +kernel
theorem dL_law_646 : decode cL_law 646 = .ok (.if_icmp .ge 38, 3) := by decide +kernel
theorem dL_law_649 : decode cL_law 649 = .ok (.aload_n 1, 1) := by decide +kernel
theorem dL_law_650 : decode cL_law 650 = .ok (.iload 16, 2) := by decide +kernel
theorem dL_law_652 : decode cL_law 652 = .ok (.bipush 10, 2) := by decide +kernel
theorem dL_law_654 : decode cL_law 654 = .ok (.iload 17, 2) := by decide +kernel
theorem dL_law_656 : decode cL_law 656 = .ok (.iadd, 1) := by decide +kernel
theorem dL_law_657 : decode cL_law 657 = .ok (.invokevirtual 71, 3) := by decide +kernel
theorem dL_law_660 : decode cL_law 660 = .ok (.aload 4, 2) := by decide +kernel
theorem dL_law_662 : decode cL_law 662 = .ok (.bipush 10, 2) := by decide +kernel
theorem dL_law_664 : decode cL_law 664 = .ok (.iload 16, 2) := by decide +kernel
theorem dL_law_666 : decode cL_law 666 = .ok (.imul, 1) := by decide +kernel
theorem dL_law_667 : decode cL_law 667 = .ok (.iconst 2, 1) := by decide +kernel
theorem dL_law_668 : decode cL_law 668 = .ok (.iadd, 1) := by decide +kernel
theorem dL_law_669 : decode cL_law 669 = .ok (.iload 17, 2) := by decide +kernel
theorem dL_law_671 : decode cL_law 671 = .ok (.iadd, 1) := by decide +kernel
theorem dL_law_672 : decode cL_law 672 = .ok (.iaload, 1) := by decide +kernel
theorem dL_law_673 : decode cL_law 673 = .ok (.if_icmp .eq 5, 3) := by decide +kernel
theorem dL_law_676 : decode cL_law 676 = .ok (.iconst 0, 1) := by decide +kernel
theorem dL_law_677 : decode cL_law 677 = .ok (.ireturn, 1) := by decide +kernel
theorem dL_law_678 : decode cL_law 678 = .ok (.iinc 17 1, 3) := by decide +kernel
theorem dL_law_681 : decode cL_law 681 = .ok (.goto (-39), 3) := by decide +kernel
theorem dL_law_684 : decode cL_law 684 = .ok (.iinc 16 1, 3) := by decide +kernel
theorem dL_law_687 : decode cL_law 687 = .ok (.goto (-134), 3) := by decide +kernel
theorem dL_law_690 : decode cL_law 690 = .ok (.iconst 0, 1) := by decide +kernel
theorem dL_law_691 : decode cL_law 691 = .ok (.istore 16, 2) := by decide +kernel
theorem dL_law_693 : decode cL_law 693 = .ok (.iload 16, 2) := by decide +kernel
theorem dL_law_695 : decode cL_law 695 = .ok (.bipush 8, 2) := by decide +kernel
theorem dL_law_697 : decode cL_law 697 = .ok (.if_icmp .ge 165, 3) := by decide +kernel
theorem dL_law_700 : decode cL_law 700 = .ok (.iconst 0, 1) := by decide +kernel
theorem dL_law_701 : decode cL_law 701 = .ok (.istore 17, 2) := by decide +kernel
theorem dL_law_703 : decode cL_law 703 = .ok (.iconst 0, 1) := by decide +kernel
theorem dL_law_704 : decode cL_law 704 = .ok (.istore 18, 2) := by decide +kernel
theorem dL_law_706 : decode cL_law 706 = .ok (.iconst 0, 1) := by decide +kernel
theorem dL_law_707 : decode cL_law 707 = .ok (.istore 19, 2) := by decide +kernel
theorem dL_law_709 : decode cL_law 709 = .ok (.iload 19, 2) := by decide +kernel
theorem dL_law_711 : decode cL_law 711 = .ok (.iload 7, 2) := by decide +kernel
theorem dL_law_713 : decode cL_law 713 = .ok (.if_icmp .ge 69, 3) := by decide +kernel
theorem dL_law_716 : decode cL_law 716 = .ok (.iload 17, 2) := by decide +kernel
theorem dL_law_718 : decode cL_law 718 = .ok (.aload 4, 2) := by decide +kernel
theorem dL_law_720 : decode cL_law 720 = .ok (.iload 19, 2) := by decide +kernel
theorem dL_law_722 : decode cL_law 722 = .ok (.invokestatic 48, 3) := by decide +kernel
theorem dL_law_725 : decode cL_law 725 = .ok (.aload_n 2, 1) := by decide +kernel
theorem dL_law_726 : decode cL_law 726 = .ok (.aload 4, 2) := by decide +kernel
theorem dL_law_728 : decode cL_law 728 = .ok (.bipush 10, 2) := by decide +kernel
theorem dL_law_730 : decode cL_law 730 = .ok (.iload 19, 2) := by decide +kernel
theorem dL_law_732 : decode cL_law 732 = .ok (.imul, 1) := by decide +kernel
theorem dL_law_733 : decode cL_law 733 = .ok (.iconst 2, 1) := by decide +kernel
theorem dL_law_734 : decode cL_law 734 = .ok (.iadd, 1) := by decide +kernel
theorem dL_law_735 : decode cL_law 735 = .ok (.iload 16, 2) := by decide +kernel
theorem dL_law_737 : decode cL_law 737 = .ok (.iadd, 1) := by decide +kernel
theorem dL_law_738 : decode cL_law 738 = .ok (.iaload, 1) := by decide +kernel
theorem dL_law_739 : decode cL_law 739 = .ok (.invokestatic 42, 3) := by decide +kernel
theorem dL_law_742 : decode cL_law 742 = .ok (.imul, 1) := by decide +kernel
theorem dL_law_743 : decode cL_law 743 = .ok (.iadd, 1) := by decide +kernel
theorem dL_law_744 : decode cL_law 744 = .ok (.istore 17, 2) := by decide +kernel
theorem dL_law_746 : decode cL_law 746 = .ok (.iload 18, 2) := by decide +kernel
theorem dL_law_748 : decode cL_law 748 = .ok (.aload 4, 2) := by decide +kernel
theorem dL_law_750 : decode cL_law 750 = .ok (.iload 19, 2) := by decide +kernel
theorem dL_law_752 : decode cL_law 752 = .ok (.invokestatic 48, 3) := by decide +kernel
theorem dL_law_755 : decode cL_law 755 = .ok (.aload_n 2, 1) := by decide +kernel
theorem dL_law_756 : decode cL_law 756 = .ok (.aload 4, 2) := by decide +kernel
theorem dL_law_758 : decode cL_law 758 = .ok (.bipush 10, 2) := by decide +kernel
theorem dL_law_760 : decode cL_law 760 = .ok (.iload 19, 2) := by decide +kernel
theorem dL_law_762 : decode cL_law 762 = .ok (.imul, 1) := by decide +kernel
theorem dL_law_763 : decode cL_law 763 = .ok (.iconst 2, 1) := by decide +kernel
theorem dL_law_764 : decode cL_law 764 = .ok (.iadd, 1) := by decide +kernel
theorem dL_law_765 : decode cL_law 765 = .ok (.iload 16, 2) := by decide +kernel
theorem dL_law_767 : decode cL_law 767 = .ok (.iadd, 1) := by decide +kernel
theorem dL_law_768 : decode cL_law 768 = .ok (.iaload, 1) := by decide +kernel
theorem dL_law_769 : decode cL_law 769 = .ok (.invokestatic 45, 3) := by decide +kernel
theorem dL_law_772 : decode cL_law 772 = .ok (.imul, 1) := by decide +kernel
theorem dL_law_773 : decode cL_law 773 = .ok (.iadd, 1) := by decide +kernel
theorem dL_law_774 : decode cL_law 774 = .ok (.istore 18, 2) := by decide +kernel
theorem dL_law_776 : decode cL_law 776 = .ok (.iinc 19 1, 3) := by decide +kernel
theorem dL_law_779 : decode cL_law 779 = .ok (.goto (-70), 3) := by decide +kernel
theorem dL_law_782 : decode cL_law 782 = .ok (.aload_n 1, 1) := by decide +kernel
theorem dL_law_783 : decode cL_law 783 = .ok (.iload 16, 2) := by decide +kernel
theorem dL_law_785 : decode cL_law 785 = .ok (.iconst 0, 1) := by decide +kernel
theorem dL_law_786 : decode cL_law 786 = .ok (.invokevirtual 74, 3) := by decide +kernel
theorem dL_law_789 : decode cL_law 789 = .ok (.iload 17, 2) := by decide +kernel
theorem dL_law_791 : decode cL_law 791 = .ok (.if_icmp .ne 63, 3) := by decide +kernel
theorem dL_law_794 : decode cL_law 794 = .ok (.aload_n 1, 1) := by decide +kernel
theorem dL_law_795 : decode cL_law 795 = .ok (.iload 16, 2) := by decide +kernel
theorem dL_law_797 : decode cL_law 797 = .ok (.iconst 1, 1) := by decide +kernel
theorem dL_law_798 : decode cL_law 798 = .ok (.invokevirtual 74, 3) := by decide +kernel
theorem dL_law_801 : decode cL_law 801 = .ok (.iload 18, 2) := by decide +kernel
theorem dL_law_803 : decode cL_law 803 = .ok (.if_icmp .ne 51, 3) := by decide +kernel
theorem dL_law_806 : decode cL_law 806 = .ok (.aload_n 1, 1) := by decide +kernel
theorem dL_law_807 : decode cL_law 807 = .ok (.iload 16, 2) := by decide +kernel
theorem dL_law_809 : decode cL_law 809 = .ok (.invokevirtual 77, 3) := by decide +kernel
theorem dL_law_812 : decode cL_law 812 = .ok (.aload_n 2, 1) := by decide +kernel
theorem dL_law_813 : decode cL_law 813 = .ok (.aload_n 3, 1) := by decide +kernel
theorem dL_law_814 : decode cL_law 814 = .ok (.iload 17, 2) := by decide +kernel
theorem dL_law_816 : decode cL_law 816 = .ok (.iload 18, 2) := by decide +kernel
theorem dL_law_818 : decode cL_law 818 = .ok (.invokestatic 51, 3) := by decide +kernel
theorem dL_law_821 : decode cL_law 821 = .ok (.if_icmp .ne 33, 3) := by decide +kernel
theorem dL_law_824 : decode cL_law 824 = .ok (.aload_n 1, 1) := by decide +kernel
theorem dL_law_825 : decode cL_law 825 = .ok (.iload 13, 2) := by decide +kernel
theorem dL_law_827 : decode cL_law 827 = .ok (.iload 16, 2) := by decide +kernel
theorem dL_law_829 : decode cL_law 829 = .ok (.invokevirtual 79, 3) := by decide +kernel
theorem dL_law_832 : decode cL_law 832 = .ok (.iload 17, 2) := by decide +kernel
theorem dL_law_834 : decode cL_law 834 = .ok (.aload_n 2, 1) := by decide +kernel
theorem dL_law_835 : decode cL_law 835 = .ok (.iload 13, 2) := by decide +kernel
theorem dL_law_837 : decode cL_law 837 = .ok (.invokestatic 42, 3) := by decide +kernel
theorem dL_law_840 : decode cL_law 840 = .ok (.imul, 1) := by decide +kernel
theorem dL_law_841 : decode cL_law 841 = .ok (.iload 18, 2) := by decide +kernel
theorem dL_law_843 : decode cL_law 843 = .ok (.aload_n 2, 1) := by decide +kernel
theorem dL_law_844 : decode cL_law 844 = .ok (.iload 13, 2) := by decide +kernel
theorem dL_law_846 : decode cL_law 846 = .ok (.invokestatic 45, 3) := by decide +kernel
theorem dL_law_849 : decode cL_law 849 = .ok (.imul, 1) := by decide +kernel
theorem dL_law_850 : decode cL_law 850 = .ok (.iadd, 1) := by decide +kernel
theorem dL_law_851 : decode cL_law 851 = .ok (.if_icmp .eq 5, 3) := by decide +kernel
theorem dL_law_854 : decode cL_law 854 = .ok (.iconst 0, 1) := by decide +kernel
theorem dL_law_855 : decode cL_law 855 = .ok (.ireturn, 1) := by decide +kernel
theorem dL_law_856 : decode cL_law 856 = .ok (.iinc 16 1, 3) := by decide +kernel
theorem dL_law_859 : decode cL_law 859 = .ok (.goto (-166), 3) := by decide +kernel
theorem dL_law_862 : decode cL_law 862 = .ok (.iconst 1, 1) := by decide +kernel
theorem dL_law_863 : decode cL_law 863 = .ok (.iload 9, 2) := by decide +kernel
theorem dL_law_865 : decode cL_law 865 = .ok (.iconst 3, 1) := by decide +kernel
theorem dL_law_866 : decode cL_law 866 = .ok (.idiv, 1) := by decide +kernel
theorem dL_law_867 : decode cL_law 867 = .ok (.bipush 7, 2) := by decide +kernel
theorem dL_law_869 : decode cL_law 869 = .ok (.irem, 1) := by decide +kernel
theorem dL_law_870 : decode cL_law 870 = .ok (.iadd, 1) := by decide +kernel
theorem dL_law_871 : decode cL_law 871 = .ok (.istore 16, 2) := by decide +kernel
theorem dL_law_873 : decode cL_law 873 = .ok (.iload 9, 2) := by decide +kernel
theorem dL_law_875 : decode cL_law 875 = .ok (.bipush 64, 2) := by decide +kernel
theorem dL_law_877 : decode cL_law 877 = .ok (.idiv, 1) := by decide +kernel
theorem dL_law_878 : decode cL_law 878 = .ok (.iconst 1, 1) := by decide +kernel
theorem dL_law_879 : decode cL_law 879 = .ok (.iload 7, 2) := by decide +kernel
theorem dL_law_881 : decode cL_law 881 = .ok (.ishl, 1) := by decide +kernel
theorem dL_law_882 : decode cL_law 882 = .ok (.irem, 1) := by decide +kernel
theorem dL_law_883 : decode cL_law 883 = .ok (.istore 17, 2) := by decide +kernel
theorem dL_law_885 : decode cL_law 885 = .ok (.iconst 0, 1) := by decide +kernel
theorem dL_law_886 : decode cL_law 886 = .ok (.istore 18, 2) := by decide +kernel
theorem dL_law_888 : decode cL_law 888 = .ok (.iconst 0, 1) := by decide +kernel
theorem dL_law_889 : decode cL_law 889 = .ok (.istore 19, 2) := by decide +kernel
theorem dL_law_891 : decode cL_law 891 = .ok (.iload 19, 2) := by decide +kernel
theorem dL_law_893 : decode cL_law 893 = .ok (.iconst 2, 1) := by decide +kernel
theorem dL_law_894 : decode cL_law 894 = .ok (.if_icmp .ge 253, 3) := by decide +kernel
theorem dL_law_897 : decode cL_law 897 = .ok (.iconst 0, 1) := by decide +kernel
theorem dL_law_898 : decode cL_law 898 = .ok (.istore 20, 2) := by decide +kernel
theorem dL_law_900 : decode cL_law 900 = .ok (.iconst 0, 1) := by decide +kernel
theorem dL_law_901 : decode cL_law 901 = .ok (.istore 21, 2) := by decide +kernel
theorem dL_law_903 : decode cL_law 903 = .ok (.iconst 0, 1) := by decide +kernel
theorem dL_law_904 : decode cL_law 904 = .ok (.istore 22, 2) := by decide +kernel
theorem dL_law_906 : decode cL_law 906 = .ok (.iconst 0, 1) := by decide +kernel
theorem dL_law_907 : decode cL_law 907 = .ok (.istore 23, 2) := by decide +kernel
theorem dL_law_909 : decode cL_law 909 = .ok (.iload 23, 2) := by decide +kernel
theorem dL_law_911 : decode cL_law 911 = .ok (.iconst 1, 1) := by decide +kernel
theorem dL_law_912 : decode cL_law 912 = .ok (.iload 7, 2) := by decide +kernel
theorem dL_law_914 : decode cL_law 914 = .ok (.ishl, 1) := by decide +kernel
theorem dL_law_915 : decode cL_law 915 = .ok (.if_icmp .ge 176, 3) := by decide +kernel
theorem dL_law_918 : decode cL_law 918 = .ok (.iconst 1, 1) := by decide +kernel
theorem dL_law_919 : decode cL_law 919 = .ok (.istore 24, 2) := by decide +kernel
theorem dL_law_921 : decode cL_law 921 = .ok (.iconst 0, 1) := by decide +kernel
theorem dL_law_922 : decode cL_law 922 = .ok (.istore 25, 2) := by decide +kernel
theorem dL_law_924 : decode cL_law 924 = .ok (.iload 25, 2) := by decide +kernel
theorem dL_law_926 : decode cL_law 926 = .ok (.iload 7, 2) := by decide +kernel
theorem dL_law_928 : decode cL_law 928 = .ok (.if_icmp .ge 69, 3) := by decide +kernel
theorem dL_law_931 : decode cL_law 931 = .ok (.iload 24, 2) := by decide +kernel
theorem dL_law_933 : decode cL_law 933 = .ok (.ifCond .eq 29, 3) := by decide +kernel
theorem dL_law_936 : decode cL_law 936 = .ok (.iload 23, 2) := by decide +kernel
theorem dL_law_938 : decode cL_law 938 = .ok (.iload 25, 2) := by decide +kernel
theorem dL_law_940 : decode cL_law 940 = .ok (.ishr, 1) := by decide +kernel
theorem dL_law_941 : decode cL_law 941 = .ok (.iconst 1, 1) := by decide +kernel
theorem dL_law_942 : decode cL_law 942 = .ok (.iand, 1) := by decide +kernel
theorem dL_law_943 : decode cL_law 943 = .ok (.ifCond .eq 15, 3) := by decide +kernel
theorem dL_law_946 : decode cL_law 946 = .ok (.aload 4, 2) := by decide +kernel
theorem dL_law_948 : decode cL_law 948 = .ok (.bipush 10, 2) := by decide +kernel
theorem dL_law_950 : decode cL_law 950 = .ok (.iload 25, 2) := by decide +kernel
theorem dL_law_952 : decode cL_law 952 = .ok (.imul, 1) := by decide +kernel
theorem dL_law_953 : decode cL_law 953 = .ok (.iaload, 1) := by decide +kernel
theorem dL_law_954 : decode cL_law 954 = .ok (.iconst 2, 1) := by decide +kernel
theorem dL_law_955 : decode cL_law 955 = .ok (.if_icmp .le 7, 3) := by decide +kernel
theorem dL_law_958 : decode cL_law 958 = .ok (.iconst 1, 1) := by decide +kernel
theorem dL_law_959 : decode cL_law 959 = .ok (.goto 4, 3) := by decide +kernel
theorem dL_law_962 : decode cL_law 962 = .ok (.iconst 0, 1) := by decide +kernel
theorem dL_law_963 : decode cL_law 963 = .ok (.istore 24, 2) := by decide +kernel
theorem dL_law_965 : decode cL_law 965 = .ok (.aload 5, 2) := by decide +kernel
theorem dL_law_967 : decode cL_law 967 = .ok (.iload 25, 2) := by decide +kernel
theorem dL_law_969 : decode cL_law 969 = .ok (.aload 4, 2) := by decide +kernel
theorem dL_law_971 : decode cL_law 971 = .ok (.bipush 10, 2) := by decide +kernel
theorem dL_law_973 : decode cL_law 973 = .ok (.iload 25, 2) := by decide +kernel
theorem dL_law_975 : decode cL_law 975 = .ok (.imul, 1) := by decide +kernel
theorem dL_law_976 : decode cL_law 976 = .ok (.iconst 2, 1) := by decide +kernel
theorem dL_law_977 : decode cL_law 977 = .ok (.iadd, 1) := by decide +kernel
theorem dL_law_978 : decode cL_law 978 = .ok (.iload 16, 2) := by decide +kernel
theorem dL_law_980 : decode cL_law 980 = .ok (.iadd, 1) := by decide +kernel
theorem dL_law_981 : decode cL_law 981 = .ok (.iload 23, 2) := by decide +kernel
theorem dL_law_983 : decode cL_law 983 = .ok (.iload 25, 2) := by decide +kernel
theorem dL_law_985 : decode cL_law 985 = .ok (.ishr, 1) := by decide +kernel
theorem dL_law_986 : decode cL_law 986 = .ok (.iconst 1, 1) := by decide +kernel
theorem dL_law_987 : decode cL_law 987 = .ok (.iand, 1) := by decide +kernel
theorem dL_law_988 : decode cL_law 988 = .ok (.isub, 1) := by decide +kernel
theorem dL_law_989 : decode cL_law 989 = .ok (.iaload, 1) := by decide +kernel
theorem dL_law_990 : decode cL_law 990 = .ok (.iastore, 1) := by decide +kernel
theorem dL_law_991 : decode cL_law 991 = .ok (.iinc 25 1, 3) := by decide +kernel
theorem dL_law_994 : decode cL_law 994 = .ok (.goto (-70), 3) := by decide +kernel
theorem dL_law_997 : decode cL_law 997 = .ok (.iload 24, 2) := by decide +kernel
theorem dL_law_999 : decode cL_law 999 = .ok (.ifCond .eq 17, 3) := by decide +kernel
theorem dL_law_1002 : decode cL_law 1002 = .ok (.aload_n 2, 1) := by decide +kernel
theorem dL_law_1003 : decode cL_law 1003 = .ok (.aload_n 3, 1) := by decide +kernel
theorem dL_law_1004 : decode cL_law 1004 = .ok (.aload 4, 2) := by decide +kernel
theorem dL_law_1006 : decode cL_law 1006 = .ok (.iload 7, 2) := by decide +kernel
theorem dL_law_1008 : decode cL_law 1008 = .ok (.aload 5, 2) := by decide +kernel
theorem dL_law_1010 : decode cL_law 1010 = .ok (.invokestatic 82, 3) := by decide +kernel
theorem dL_law_1013 : decode cL_law 1013 = .ok (.goto 4, 3) := by decide +kernel
theorem dL_law_1016 : decode cL_law 1016 = .ok (.iconst (-1), 1) := by decide +kernel
theorem dL_law_1017 : decode cL_law 1017 = .ok (.istore 25, 2) := by decide +kernel
theorem dL_law_1019 : decode cL_law 1019 = .ok (.iload 19, 2) := by decide +kernel
theorem dL_law_1021 : decode cL_law 1021 = .ok (.ifCond .ne 20, 3) := by decide +kernel
theorem dL_law_1024 : decode cL_law 1024 = .ok (.iload 23, 2) := by decide +kernel
theorem dL_law_1026 : decode cL_law 1026 = .ok (.iload 17, 2) := by decide +kernel
theorem dL_law_1028 : decode cL_law 1028 = .ok (.if_icmp .ne 13, 3) := by decide +kernel
theorem dL_law_1031 : decode cL_law 1031 = .ok (.iload 24, 2) := by decide +kernel
theorem dL_law_1033 : decode cL_law 1033 = .ok (.ifCond .eq 8, 3) := by decide +kernel
theorem dL_law_1036 : decode cL_law 1036 = .ok (.iload 25, 2) := by decide +kernel
theorem dL_law_1038 : decode cL_law 1038 = .ok (.goto 5, 3) := by decide +kernel
theorem dL_law_1041 : decode cL_law 1041 = .ok (.iload 18, 2) := by decide +kernel
theorem dL_law_1043 : decode cL_law 1043 = .ok (.istore 18, 2) := by decide +kernel
theorem dL_law_1045 : decode cL_law 1045 = .ok (.iload 19, 2) := by decide +kernel
theorem dL_law_1047 : decode cL_law 1047 = .ok (.iconst 1, 1) := by decide +kernel
theorem dL_law_1048 : decode cL_law 1048 = .ok (.if_icmp .ne 37, 3) := by decide +kernel
theorem dL_law_1051 : decode cL_law 1051 = .ok (.iload 25, 2) := by decide +kernel
theorem dL_law_1053 : decode cL_law 1053 = .ok (.iload 18, 2) := by decide +kernel
theorem dL_law_1055 : decode cL_law 1055 = .ok (.if_icmp .ne 30, 3) := by decide +kernel
theorem dL_law_1058 : decode cL_law 1058 = .ok (.iload 20, 2) := by decide +kernel
theorem dL_law_1060 : decode cL_law 1060 = .ok (.ifCond .ne 8, 3) := by decide +kernel
theorem dL_law_1063 : decode cL_law 1063 = .ok (.iload 23, 2) := by decide +kernel
theorem dL_law_1065 : decode cL_law 1065 = .ok (.goto 8, 3) := by decide +kernel
theorem dL_law_1068 : decode cL_law 1068 = .ok (.iload 21, 2) := by decide +kernel
theorem dL_law_1070 : decode cL_law 1070 = .ok (.iload 23, 2) := by decide +kernel
theorem dL_law_1072 : decode cL_law 1072 = .ok (.iand, 1) := by decide +kernel
theorem dL_law_1073 : decode cL_law 1073 = .ok (.istore 21, 2) := by decide +kernel
theorem dL_law_1075 : decode cL_law 1075 = .ok (.iload 22, 2) := by decide +kernel
theorem dL_law_1077 : decode cL_law 1077 = .ok (.iload 23, 2) := by decide +kernel
theorem dL_law_1079 : decode cL_law 1079 = .ok (.ior, 1) := by decide +kernel
theorem dL_law_1080 : decode cL_law 1080 = .ok (.istore 22, 2) := by decide +kernel
theorem dL_law_1082 : decode cL_law 1082 = .ok (.iinc 20 1, 3) := by decide +kernel
theorem dL_law_1085 : decode cL_law 1085 = .ok (.iinc 23 1, 3) := by decide +kernel
theorem dL_law_1088 : decode cL_law 1088 = .ok (.goto (-179), 3) := by decide +kernel
theorem dL_law_1091 : decode cL_law 1091 = .ok (.iload 19, 2) := by decide +kernel
theorem dL_law_1093 : decode cL_law 1093 = .ok (.iconst 1, 1) := by decide +kernel
theorem dL_law_1094 : decode cL_law 1094 = .ok (.if_icmp .ne 47, 3) := by decide +kernel
theorem dL_law_1097 : decode cL_law 1097 = .ok (.aload_n 1, 1) := by decide +kernel
theorem dL_law_1098 : decode cL_law 1098 = .ok (.iload 16, 2) := by decide +kernel
theorem dL_law_1100 : decode cL_law 1100 = .ok (.iload 18, 2) := by decide +kernel
theorem dL_law_1102 : decode cL_law 1102 = .ok (.iconst 0, 1) := by decide +kernel
theorem dL_law_1103 : decode cL_law 1103 = .ok (.invokevirtual 86, 3) := by decide +kernel
theorem dL_law_1106 : decode cL_law 1106 = .ok (.iload 20, 2) := by decide +kernel
theorem dL_law_1108 : decode cL_law 1108 = .ok (.if_icmp .ne 31, 3) := by decide +kernel
theorem dL_law_1111 : decode cL_law 1111 = .ok (.aload_n 1, 1) := by decide +kernel
theorem dL_law_1112 : decode cL_law 1112 = .ok (.iload 16, 2) := by decide +kernel
theorem dL_law_1114 : decode cL_law 1114 = .ok (.iload 18, 2) := by decide +kernel
theorem dL_law_1116 : decode cL_law 1116 = .ok (.iconst 1, 1) := by decide +kernel
theorem dL_law_1117 : decode cL_law 1117 = .ok (.invokevirtual 86, 3) := by decide +kernel
theorem dL_law_1120 : decode cL_law 1120 = .ok (.iload 21, 2) := by decide +kernel
theorem dL_law_1122 : decode cL_law 1122 = .ok (.if_icmp .ne 17, 3) := by decide +kernel
theorem dL_law_1125 : decode cL_law 1125 = .ok (.aload_n 1, 1) := by decide +kernel
theorem dL_law_1126 : decode cL_law 1126 = .ok (.iload 16, 2) := by decide +kernel
theorem dL_law_1128 : decode cL_law 1128 = .ok (.iload 18, 2) := by decide +kernel
theorem dL_law_1130 : decode cL_law 1130 = .ok (.iconst 2, 1) := by decide +kernel
theorem dL_law_1131 : decode cL_law 1131 = .ok (.invokevirtual 86, 3) := by decide +kernel
theorem dL_law_1134 : decode cL_law 1134 = .ok (.iload 22, 2) := by decide +kernel
theorem dL_law_1136 : decode cL_law 1136 = .ok (.if_icmp .eq 5, 3) := by decide +kernel
theorem dL_law_1139 : decode cL_law 1139 = .ok (.iconst 0, 1) := by decide +kernel
theorem dL_law_1140 : decode cL_law 1140 = .ok (.ireturn, 1) := by decide +kernel
theorem dL_law_1141 : decode cL_law 1141 = .ok (.iinc 19 1, 3) := by decide +kernel
theorem dL_law_1144 : decode cL_law 1144 = .ok (.goto (-253), 3) := by decide +kernel
theorem dL_law_1147 : decode cL_law 1147 = .ok (.aload_n 1, 1) := by decide +kernel
theorem dL_law_1148 : decode cL_law 1148 = .ok (.iconst 3, 1) := by decide +kernel
theorem dL_law_1149 : decode cL_law 1149 = .ok (.invokevirtual 28, 3) := by decide +kernel
theorem dL_law_1152 : decode cL_law 1152 = .ok (.iload 15, 2) := by decide +kernel
theorem dL_law_1154 : decode cL_law 1154 = .ok (.if_icmp .eq 5, 3) := by decide +kernel
theorem dL_law_1157 : decode cL_law 1157 = .ok (.iconst 0, 1) := by decide +kernel
theorem dL_law_1158 : decode cL_law 1158 = .ok (.ireturn, 1) := by decide +kernel
theorem dL_law_1159 : decode cL_law 1159 = .ok (.iinc 8 1, 3) := by decide +kernel
theorem dL_law_1162 : decode cL_law 1162 = .ok (.goto (-991), 3) := by decide +kernel
theorem dL_law_1165 : decode cL_law 1165 = .ok (.aload_n 1, 1) := by decide +kernel
theorem dL_law_1166 : decode cL_law 1166 = .ok (.iload 7, 2) := by decide +kernel
theorem dL_law_1168 : decode cL_law 1168 = .ok (.iconst 0, 1) := by decide +kernel
theorem dL_law_1169 : decode cL_law 1169 = .ok (.invokevirtual 71, 3) := by decide +kernel
theorem dL_law_1172 : decode cL_law 1172 = .ok (.bipush (-101), 2) := by decide +kernel
theorem dL_law_1174 : decode cL_law 1174 = .ok (.if_icmp .ne 261, 3) := by decide +kernel
theorem dL_law_1177 : decode cL_law 1177 = .ok (.aload_n 1, 1) := by decide +kernel
theorem dL_law_1178 : decode cL_law 1178 = .ok (.iconst 0, 1) := by decide +kernel
theorem dL_law_1179 : decode cL_law 1179 = .ok (.iconst 3, 1) := by decide +kernel
theorem dL_law_1180 : decode cL_law 1180 = .ok (.invokevirtual 71, 3) := by decide +kernel
theorem dL_law_1183 : decode cL_law 1183 = .ok (.bipush (-102), 2) := by decide +kernel
theorem dL_law_1185 : decode cL_law 1185 = .ok (.if_icmp .ne 250, 3) := by decide +kernel
theorem dL_law_1188 : decode cL_law 1188 = .ok (.aload_n 1, 1) := by decide +kernel
theorem dL_law_1189 : decode cL_law 1189 = .ok (.iconst 0, 1) := by decide +kernel
theorem dL_law_1190 : decode cL_law 1190 = .ok (.bipush 9, 2) := by decide +kernel
theorem dL_law_1192 : decode cL_law 1192 = .ok (.invokevirtual 71, 3) := by decide +kernel
theorem dL_law_1195 : decode cL_law 1195 = .ok (.bipush (-102), 2) := by decide +kernel
theorem dL_law_1197 : decode cL_law 1197 = .ok (.if_icmp .ne 238, 3) := by decide +kernel
theorem dL_law_1200 : decode cL_law 1200 = .ok (.aload_n 1, 1) := by decide +kernel
theorem dL_law_1201 : decode cL_law 1201 = .ok (.iconst 0, 1) := by decide +kernel
theorem dL_law_1202 : decode cL_law 1202 = .ok (.bipush 18, 2) := by decide +kernel
theorem dL_law_1204 : decode cL_law 1204 = .ok (.invokevirtual 71, 3) := by decide +kernel
theorem dL_law_1207 : decode cL_law 1207 = .ok (.bipush (-102), 2) := by decide +kernel
theorem dL_law_1209 : decode cL_law 1209 = .ok (.if_icmp .ne 226, 3) := by decide +kernel
theorem dL_law_1212 : decode cL_law 1212 = .ok (.aload_n 1, 1) := by decide +kernel
theorem dL_law_1213 : decode cL_law 1213 = .ok (.iload 7, 2) := by decide +kernel
theorem dL_law_1215 : decode cL_law 1215 = .ok (.iconst 0, 1) := by decide +kernel
theorem dL_law_1216 : decode cL_law 1216 = .ok (.invokevirtual 62, 3) := by decide +kernel
theorem dL_law_1219 : decode cL_law 1219 = .ok (.bipush (-101), 2) := by decide +kernel
theorem dL_law_1221 : decode cL_law 1221 = .ok (.if_icmp .ne 214, 3) := by decide +kernel
theorem dL_law_1224 : decode cL_law 1224 = .ok (.aload_n 1, 1) := by decide +kernel
theorem dL_law_1225 : decode cL_law 1225 = .ok (.iconst 0, 1) := by decide +kernel
theorem dL_law_1226 : decode cL_law 1226 = .ok (.iconst 5, 1) := by decide +kernel
theorem dL_law_1227 : decode cL_law 1227 = .ok (.invokevirtual 62, 3) := by decide +kernel
theorem dL_law_1230 : decode cL_law 1230 = .ok (.bipush (-102), 2) := by decide +kernel
theorem dL_law_1232 : decode cL_law 1232 = .ok (.if_icmp .ne 203, 3) := by decide +kernel
theorem dL_law_1235 : decode cL_law 1235 = .ok (.aload_n 1, 1) := by decide +kernel
theorem dL_law_1236 : decode cL_law 1236 = .ok (.iload 7, 2) := by decide +kernel
theorem dL_law_1238 : decode cL_law 1238 = .ok (.iconst 0, 1) := by decide +kernel
theorem dL_law_1239 : decode cL_law 1239 = .ok (.iconst 0, 1) := by decide +kernel
theorem dL_law_1240 : decode cL_law 1240 = .ok (.invokevirtual 39, 3) := by decide +kernel
theorem dL_law_1243 : decode cL_law 1243 = .ok (.bipush (-101), 2) := by decide +kernel
theorem dL_law_1245 : decode cL_law 1245 = .ok (.if_icmp .ne 190, 3) := by decide +kernel
theorem dL_law_1248 : decode cL_law 1248 = .ok (.aload_n 1, 1) := by decide +kernel
theorem dL_law_1249 : decode cL_law 1249 = .ok (.iconst 0, 1) := by decide +kernel
theorem dL_law_1250 : decode cL_law 1250 = .ok (.bipush 8, 2) := by decide +kernel
theorem dL_law_1252 : decode cL_law 1252 = .ok (.iconst 0, 1) := by decide +kernel
theorem dL_law_1253 : decode cL_law 1253 = .ok (.invokevirtual 39, 3) := by decide +kernel
theorem dL_law_1256 : decode cL_law 1256 = .ok (.bipush (-101), 2) := by decide +kernel
theorem dL_law_1258 : decode cL_law 1258 = .ok (.if_icmp .ne 177, 3) := by decide +kernel
theorem dL_law_1261 : decode cL_law 1261 = .ok (.aload_n 1, 1) := by decide +kernel
theorem dL_law_1262 : decode cL_law 1262 = .ok (.iconst 0, 1) := by decide +kernel
theorem dL_law_1263 : decode cL_law 1263 = .ok (.iconst 0, 1) := by decide +kernel
theorem dL_law_1264 : decode cL_law 1264 = .ok (.iload 6, 2) := by decide +kernel
theorem dL_law_1266 : decode cL_law 1266 = .ok (.invokevirtual 39, 3) := by decide +kernel
theorem dL_law_1269 : decode cL_law 1269 = .ok (.bipush (-101), 2) := by decide +kernel
theorem dL_law_1271 : decode cL_law 1271 = .ok (.if_icmp .ne 164, 3) := by decide +kernel
theorem dL_law_1274 : decode cL_law 1274 = .ok (.aload_n 1, 1) := by decide +kernel
theorem dL_law_1275 : decode cL_law 1275 = .ok (.iload 7, 2) := by decide +kernel
theorem dL_law_1277 : decode cL_law 1277 = .ok (.iconst 0, 1) := by decide +kernel
theorem dL_law_1278 : decode cL_law 1278 = .ok (.invokevirtual 66, 3) := by decide +kernel
theorem dL_law_1281 : decode cL_law 1281 = .ok (.bipush (-101), 2) := by decide +kernel
theorem dL_law_1283 : decode cL_law 1283 = .ok (.if_icmp .ne 152, 3) := by decide +kernel
theorem dL_law_1286 : decode cL_law 1286 = .ok (.aload_n 1, 1) := by decide +kernel
theorem dL_law_1287 : decode cL_law 1287 = .ok (.iconst 0, 1) := by decide +kernel
theorem dL_law_1288 : decode cL_law 1288 = .ok (.iload 6, 2) := by decide +kernel
theorem dL_law_1290 : decode cL_law 1290 = .ok (.invokevirtual 66, 3) := by decide +kernel
theorem dL_law_1293 : decode cL_law 1293 = .ok (.bipush (-101), 2) := by decide +kernel
theorem dL_law_1295 : decode cL_law 1295 = .ok (.if_icmp .ne 140, 3) := by decide +kernel
theorem dL_law_1298 : decode cL_law 1298 = .ok (.aload_n 1, 1) := by decide +kernel
theorem dL_law_1299 : decode cL_law 1299 = .ok (.iconst 0, 1) := by decide +kernel
theorem dL_law_1300 : decode cL_law 1300 = .ok (.iload 7, 2) := by decide +kernel
theorem dL_law_1302 : decode cL_law 1302 = .ok (.iconst 0, 1) := by decide +kernel
theorem dL_law_1303 : decode cL_law 1303 = .ok (.invokevirtual 68, 3) := by decide +kernel
theorem dL_law_1306 : decode cL_law 1306 = .ok (.bipush (-101), 2) := by decide +kernel
theorem dL_law_1308 : decode cL_law 1308 = .ok (.if_icmp .ne 127, 3) := by decide +kernel
theorem dL_law_1311 : decode cL_law 1311 = .ok (.aload_n 1, 1) := by decide +kernel
theorem dL_law_1312 : decode cL_law 1312 = .ok (.iconst 0, 1) := by decide +kernel
theorem dL_law_1313 : decode cL_law 1313 = .ok (.iconst 0, 1) := by decide +kernel
theorem dL_law_1314 : decode cL_law 1314 = .ok (.bipush 8, 2) := by decide +kernel
theorem dL_law_1316 : decode cL_law 1316 = .ok (.invokevirtual 68, 3) := by decide +kernel
theorem dL_law_1319 : decode cL_law 1319 = .ok (.bipush (-101), 2) := by decide +kernel
theorem dL_law_1321 : decode cL_law 1321 = .ok (.if_icmp .ne 114, 3) := by decide +kernel
theorem dL_law_1324 : decode cL_law 1324 = .ok (.aload_n 1, 1) := by decide +kernel
theorem dL_law_1325 : decode cL_law 1325 = .ok (.bipush 8, 2) := by decide +kernel
theorem dL_law_1327 : decode cL_law 1327 = .ok (.iconst 0, 1) := by decide +kernel
theorem dL_law_1328 : decode cL_law 1328 = .ok (.invokevirtual 74, 3) := by decide +kernel
theorem dL_law_1331 : decode cL_law 1331 = .ok (.ldc 89, 2) := by decide +kernel
theorem dL_law_1333 : decode cL_law 1333 = .ok (.if_icmp .ne 102, 3) := by decide +kernel
theorem dL_law_1336 : decode cL_law 1336 = .ok (.aload_n 1, 1) := by decide +kernel
theorem dL_law_1337 : decode cL_law 1337 = .ok (.iconst 0, 1) := by decide +kernel
theorem dL_law_1338 : decode cL_law 1338 = .ok (.iconst 2, 1) := by decide +kernel
theorem dL_law_1339 : decode cL_law 1339 = .ok (.invokevirtual 74, 3) := by decide +kernel
theorem dL_law_1342 : decode cL_law 1342 = .ok (.ldc 90, 2) := by decide +kernel
theorem dL_law_1344 : decode cL_law 1344 = .ok (.if_icmp .ne 91, 3) := by decide +kernel
theorem dL_law_1347 : decode cL_law 1347 = .ok (.aload_n 1, 1) := by decide +kernel
theorem dL_law_1348 : decode cL_law 1348 = .ok (.iload 6, 2) := by decide +kernel
theorem dL_law_1350 : decode cL_law 1350 = .ok (.iconst 0, 1) := by decide +kernel
theorem dL_law_1351 : decode cL_law 1351 = .ok (.invokevirtual 79, 3) := by decide +kernel
theorem dL_law_1354 : decode cL_law 1354 = .ok (.ldc 91, 2) := by decide +kernel
theorem dL_law_1356 : decode cL_law 1356 = .ok (.if_icmp .ne 79, 3) := by decide +kernel
theorem dL_law_1359 : decode cL_law 1359 = .ok (.aload_n 1, 1) := by decide +kernel
theorem dL_law_1360 : decode cL_law 1360 = .ok (.iconst 0, 1) := by decide +kernel
theorem dL_law_1361 : decode cL_law 1361 = .ok (.bipush 8, 2) := by decide +kernel
theorem dL_law_1363 : decode cL_law 1363 = .ok (.invokevirtual 79, 3) := by decide +kernel
theorem dL_law_1366 : decode cL_law 1366 = .ok (.ldc 91, 2) := by decide +kernel
theorem dL_law_1368 : decode cL_law 1368 = .ok (.if_icmp .ne 67, 3) := by decide +kernel
theorem dL_law_1371 : decode cL_law 1371 = .ok (.aload_n 1, 1) := by decide +kernel
theorem dL_law_1372 : decode cL_law 1372 = .ok (.bipush 8, 2) := by decide +kernel
theorem dL_law_1374 : decode cL_law 1374 = .ok (.invokevirtual 77, 3) := by decide +kernel
theorem dL_law_1377 : decode cL_law 1377 = .ok (.bipush (-101), 2) := by decide +kernel
theorem dL_law_1379 : decode cL_law 1379 = .ok (.if_icmp .ne 56, 3) := by decide +kernel
theorem dL_law_1382 : decode cL_law 1382 = .ok (.aload_n 1, 1) := by decide +kernel
theorem dL_law_1383 : decode cL_law 1383 = .ok (.iconst 0, 1) := by decide +kernel
theorem dL_law_1384 : decode cL_law 1384 = .ok (.iconst 0, 1) := by decide +kernel
theorem dL_law_1385 : decode cL_law 1385 = .ok (.iconst 0, 1) := by decide +kernel
theorem dL_law_1386 : decode cL_law 1386 = .ok (.invokevirtual 86, 3) := by decide +kernel
theorem dL_law_1389 : decode cL_law 1389 = .ok (.bipush (-101), 2) := by decide +kernel
theorem dL_law_1391 : decode cL_law 1391 = .ok (.if_icmp .ne 44, 3) := by decide +kernel
theorem dL_law_1394 : decode cL_law 1394 = .ok (.aload_n 1, 1) := by decide +kernel
theorem dL_law_1395 : decode cL_law 1395 = .ok (.bipush 8, 2) := by decide +kernel
theorem dL_law_1397 : decode cL_law 1397 = .ok (.iconst 0, 1) := by decide +kernel
theorem dL_law_1398 : decode cL_law 1398 = .ok (.iconst 0, 1) := by decide +kernel
theorem dL_law_1399 : decode cL_law 1399 = .ok (.invokevirtual 86, 3) := by decide +kernel
theorem dL_law_1402 : decode cL_law 1402 = .ok (.bipush (-101), 2) := by decide +kernel
theorem dL_law_1404 : decode cL_law 1404 = .ok (.if_icmp .ne 31, 3) := by decide +kernel
theorem dL_law_1407 : decode cL_law 1407 = .ok (.aload_n 1, 1) := by decide +kernel
theorem dL_law_1408 : decode cL_law 1408 = .ok (.iconst 1, 1) := by decide +kernel
theorem dL_law_1409 : decode cL_law 1409 = .ok (.iconst (-1), 1) := by decide +kernel
theorem dL_law_1410 : decode cL_law 1410 = .ok (.iconst 0, 1) := by decide +kernel
theorem dL_law_1411 : decode cL_law 1411 = .ok (.invokevirtual 86, 3) := by decide +kernel
theorem dL_law_1414 : decode cL_law 1414 = .ok (.bipush (-102), 2) := by decide +kernel
theorem dL_law_1416 : decode cL_law 1416 = .ok (.if_icmp .ne 19, 3) := by decide +kernel
theorem dL_law_1419 : decode cL_law 1419 = .ok (.aload_n 1, 1) := by decide +kernel
theorem dL_law_1420 : decode cL_law 1420 = .ok (.iconst 1, 1) := by decide +kernel
theorem dL_law_1421 : decode cL_law 1421 = .ok (.iconst 0, 1) := by decide +kernel
theorem dL_law_1422 : decode cL_law 1422 = .ok (.iconst 3, 1) := by decide +kernel
theorem dL_law_1423 : decode cL_law 1423 = .ok (.invokevirtual 86, 3) := by decide +kernel
theorem dL_law_1426 : decode cL_law 1426 = .ok (.bipush (-102), 2) := by decide +kernel
theorem dL_law_1428 : decode cL_law 1428 = .ok (.if_icmp .ne 7, 3) := by decide +kernel
theorem dL_law_1431 : decode cL_law 1431 = .ok (.iconst 1, 1) := by decide +kernel
theorem dL_law_1432 : decode cL_law 1432 = .ok (.goto 4, 3) := by decide +kernel
theorem dL_law_1435 : decode cL_law 1435 = .ok (.iconst 0, 1) := by decide +kernel
theorem dL_law_1436 : decode cL_law 1436 = .ok (.ireturn, 1) := by decide +kernel
end
section
theorem dX10_init_0 : decode cX10_init 0 = .ok (.aload_n 0, 1) := by decide +kernel
theorem dX10_init_1 : decode cX10_init 1 = .ok (.invokespecial 1, 3) := by decide +kernel
theorem dX10_init_4 : decode cX10_init 4 = .ok (.aload_n 0, 1) := by decide +kernel
theorem dX10_init_5 : decode cX10_init 5 = .ok (.new 7, 3) := by decide +kernel
theorem dX10_init_8 : decode cX10_init 8 = .ok (.dup, 1) := by decide +kernel
theorem dX10_init_9 : decode cX10_init 9 = .ok (.invokespecial 9, 3) := by decide +kernel
theorem dX10_init_12 : decode cX10_init 12 = .ok (.putfield 10, 3) := by decide +kernel
theorem dX10_init_15 : decode cX10_init 15 = .ok (.aload_n 0, 1) := by decide +kernel
theorem dX10_init_16 : decode cX10_init 16 = .ok (.new 16, 3) := by decide +kernel
theorem dX10_init_19 : decode cX10_init 19 = .ok (.dup, 1) := by decide +kernel
theorem dX10_init_20 : decode cX10_init 20 = .ok (.invokespecial 18, 3) := by decide +kernel
theorem dX10_init_23 : decode cX10_init 23 = .ok (.putfield 19, 3) := by decide +kernel
theorem dX10_init_26 : decode cX10_init 26 = .ok (.aload_n 0, 1) := by decide +kernel
theorem dX10_init_27 : decode cX10_init 27 = .ok (.new 23, 3) := by decide +kernel
theorem dX10_init_30 : decode cX10_init 30 = .ok (.dup, 1) := by decide +kernel
theorem dX10_init_31 : decode cX10_init 31 = .ok (.invokespecial 25, 3) := by decide +kernel
theorem dX10_init_34 : decode cX10_init 34 = .ok (.putfield 26, 3) := by decide +kernel
theorem dX10_init_37 : decode cX10_init 37 = .ok (.aload_n 0, 1) := by decide +kernel
theorem dX10_init_38 : decode cX10_init 38 = .ok (.new 30, 3) := by decide +kernel
theorem dX10_init_41 : decode cX10_init 41 = .ok (.dup, 1) := by decide +kernel
theorem dX10_init_42 : decode cX10_init 42 = .ok (.invokespecial 32, 3) := by decide +kernel
theorem dX10_init_45 : decode cX10_init 45 = .ok (.putfield 33, 3) := by decide +kernel
theorem dX10_init_48 : decode cX10_init 48 = .ok (.aload_n 0, 1) := by decide +kernel
theorem dX10_init_49 : decode cX10_init 49 = .ok (.new 37, 3) := by decide +kernel
theorem dX10_init_52 : decode cX10_init 52 = .ok (.dup, 1) := by decide +kernel
theorem dX10_init_53 : decode cX10_init 53 = .ok (.aload_n 0, 1) := by decide +kernel
theorem dX10_init_54 : decode cX10_init 54 = .ok (.getfield 26, 3) := by decide +kernel
theorem dX10_init_57 : decode cX10_init 57 = .ok (.aload_n 0, 1) := by decide +kernel
theorem dX10_init_58 : decode cX10_init 58 = .ok (.getfield 33, 3) := by decide +kernel
theorem dX10_init_61 : decode cX10_init 61 = .ok (.invokespecial 39, 3) := by decide +kernel
theorem dX10_init_64 : decode cX10_init 64 = .ok (.putfield 42, 3) := by decide +kernel
theorem dX10_init_67 : decode cX10_init 67 = .ok (.aload_n 0, 1) := by decide +kernel
theorem dX10_init_68 : decode cX10_init 68 = .ok (.new 46, 3) := by decide +kernel
theorem dX10_init_71 : decode cX10_init 71 = .ok (.dup, 1) := by decide +kernel
theorem dX10_init_72 : decode cX10_init 72 = .ok (.aload_n 0, 1) := by decide +kernel
theorem dX10_init_73 : decode cX10_init 73 = .ok (.getfield 10, 3) := by decide +kernel
theorem dX10_init_76 : decode cX10_init 76 = .ok (.aload_n 0, 1) := by decide +kernel
theorem dX10_init_77 : decode cX10_init 77 = .ok (.getfield 26, 3) := by decide +kernel
theorem dX10_init_80 : decode cX10_init 80 = .ok (.aload_n 0, 1) := by decide +kernel
theorem dX10_init_81 : decode cX10_init 81 = .ok (.getfield 42, 3) := by decide +kernel
theorem dX10_init_84 : decode cX10_init 84 = .ok (.invokespecial 48, 3) := by decide +kernel
theorem dX10_init_87 : decode cX10_init 87 = .ok (.putfield 51, 3) := by decide +kernel
theorem dX10_init_90 : decode cX10_init 90 = .ok (.aload_n 0, 1) := by decide +kernel
theorem dX10_init_91 : decode cX10_init 91 = .ok (.new 55, 3) := by decide +kernel
theorem dX10_init_94 : decode cX10_init 94 = .ok (.dup, 1) := by decide +kernel
theorem dX10_init_95 : decode cX10_init 95 = .ok (.aload_n 0, 1) := by decide +kernel
theorem dX10_init_96 : decode cX10_init 96 = .ok (.getfield 26, 3) := by decide +kernel
theorem dX10_init_99 : decode cX10_init 99 = .ok (.aload_n 0, 1) := by decide +kernel
theorem dX10_init_100 : decode cX10_init 100 = .ok (.getfield 33, 3) := by decide +kernel
theorem dX10_init_103 : decode cX10_init 103 = .ok (.aload_n 0, 1) := by decide +kernel
theorem dX10_init_104 : decode cX10_init 104 = .ok (.getfield 42, 3) := by decide +kernel
theorem dX10_init_107 : decode cX10_init 107 = .ok (.invokespecial 57, 3) := by decide +kernel
theorem dX10_init_110 : decode cX10_init 110 = .ok (.putfield 60, 3) := by decide +kernel
theorem dX10_init_113 : decode cX10_init 113 = .ok (.aload_n 0, 1) := by decide +kernel
theorem dX10_init_114 : decode cX10_init 114 = .ok (.new 64, 3) := by decide +kernel
theorem dX10_init_117 : decode cX10_init 117 = .ok (.dup, 1) := by decide +kernel
theorem dX10_init_118 : decode cX10_init 118 = .ok (.aload_n 0, 1) := by decide +kernel
theorem dX10_init_119 : decode cX10_init 119 = .ok (.getfield 26, 3) := by decide +kernel
theorem dX10_init_122 : decode cX10_init 122 = .ok (.aload_n 0, 1) := by decide +kernel
theorem dX10_init_123 : decode cX10_init 123 = .ok (.getfield 33, 3) := by decide +kernel
theorem dX10_init_126 : decode cX10_init 126 = .ok (.aload_n 0, 1) := by decide +kernel
theorem dX10_init_127 : decode cX10_init 127 = .ok (.getfield 42, 3) := by decide +kernel
theorem dX10_init_130 : decode cX10_init 130 = .ok (.invokespecial 66, 3) := by decide +kernel
theorem dX10_init_133 : decode cX10_init 133 = .ok (.putfield 67, 3) := by decide +kernel
theorem dX10_init_136 : decode cX10_init 136 = .ok (.aload_n 0, 1) := by decide +kernel
theorem dX10_init_137 : decode cX10_init 137 = .ok (.new 71, 3) := by decide +kernel
theorem dX10_init_140 : decode cX10_init 140 = .ok (.dup, 1) := by decide +kernel
theorem dX10_init_141 : decode cX10_init 141 = .ok (.aload_n 0, 1) := by decide +kernel
theorem dX10_init_142 : decode cX10_init 142 = .ok (.getfield 26, 3) := by decide +kernel
theorem dX10_init_145 : decode cX10_init 145 = .ok (.aload_n 0, 1) := by decide +kernel
theorem dX10_init_146 : decode cX10_init 146 = .ok (.getfield 33, 3) := by decide +kernel
theorem dX10_init_149 : decode cX10_init 149 = .ok (.aload_n 0, 1) := by decide +kernel
theorem dX10_init_150 : decode cX10_init 150 = .ok (.getfield 42, 3) := by decide +kernel
theorem dX10_init_153 : decode cX10_init 153 = .ok (.invokespecial 73, 3) := by decide +kernel
theorem dX10_init_156 : decode cX10_init 156 = .ok (.putfield 74, 3) := by decide +kernel
theorem dX10_init_159 : decode cX10_init 159 = .ok (.aload_n 0, 1) := by decide +kernel
theorem dX10_init_160 : decode cX10_init 160 = .ok (.new 78, 3) := by decide +kernel
theorem dX10_init_163 : decode cX10_init 163 = .ok (.dup, 1) := by decide +kernel
theorem dX10_init_164 : decode cX10_init 164 = .ok (.aload_n 0, 1) := by decide +kernel
theorem dX10_init_165 : decode cX10_init 165 = .ok (.getfield 26, 3) := by decide +kernel
theorem dX10_init_168 : decode cX10_init 168 = .ok (.aload_n 0, 1) := by decide +kernel
theorem dX10_init_169 : decode cX10_init 169 = .ok (.getfield 33, 3) := by decide +kernel
theorem dX10_init_172 : decode cX10_init 172 = .ok (.invokespecial 80, 3) := by decide +kernel
theorem dX10_init_175 : decode cX10_init 175 = .ok (.putfield 81, 3) := by decide +kernel
theorem dX10_init_178 : decode cX10_init 178 = .ok (.return_, 1) := by decide +kernel
theorem dX10_letters_0 : decode cX10_letters 0 = .ok (.aload_n 0, 1) := by decide +kernel
theorem dX10_letters_1 : decode cX10_letters 1 = .ok (.getfield 10, 3) := by decide +kernel
theorem dX10_letters_4 : decode cX10_letters 4 = .ok (.lload_n 1, 1) := by decide +kernel
theorem dX10_letters_5 : decode cX10_letters 5 = .ok (.invokevirtual 85, 3) := by decide +kernel
theorem dX10_letters_8 : decode cX10_letters 8 = .ok (.ireturn, 1) := by decide +kernel
theorem dX10_fault_0 : decode cX10_fault 0 = .ok (.iload_n 1, 1) := by decide +kernel
theorem dX10_fault_1 : decode cX10_fault 1 = .ok (.ifCond .ne 15, 3) := by decide +kernel
theorem dX10_fault_4 : decode cX10_fault 4 = .ok (.aload_n 0, 1) := by decide +kernel
theorem dX10_fault_5 : decode cX10_fault 5 = .ok (.getfield 19, 3) := by decide +kernel
theorem dX10_fault_8 : decode cX10_fault 8 = .ok (.aload_n 0, 1) := by decide +kernel
theorem dX10_fault_9 : decode cX10_fault 9 = .ok (.getfield 10, 3) := by decide +kernel
theorem dX10_fault_12 : decode cX10_fault 12 = .ok (.invokevirtual 96, 3) := by decide +kernel
theorem dX10_fault_15 : decode cX10_fault 15 = .ok (.ireturn, 1) := by decide +kernel
theorem dX10_fault_16 : decode cX10_fault 16 = .ok (.iload_n 1, 1) := by decide +kernel
theorem dX10_fault_17 : decode cX10_fault 17 = .ok (.iconst 1, 1) := by decide +kernel
theorem dX10_fault_18 : decode cX10_fault 18 = .ok (.if_icmp .ne 13, 3) := by decide +kernel
theorem dX10_fault_21 : decode cX10_fault 21 = .ok (.aload_n 0, 1) := by decide +kernel
theorem dX10_fault_22 : decode cX10_fault 22 = .ok (.getfield 10, 3) := by decide +kernel
theorem dX10_fault_25 : decode cX10_fault 25 = .ok (.invokevirtual 100, 3) := by decide +kernel
theorem dX10_fault_28 : decode cX10_fault 28 = .ok (.goto 5, 3) := by decide +kernel
theorem dX10_fault_31 : decode cX10_fault 31 = .ok (.bipush (-102), 2) := by decide +kernel
theorem dX10_fault_33 : decode cX10_fault 33 = .ok (.ireturn, 1) := by decide +kernel
theorem dX10_plan_0 : decode cX10_plan 0 = .ok (.aload_n 0, 1) := by decide +kernel
theorem dX10_plan_1 : decode cX10_plan 1 = .ok (.getfield 19, 3) := by decide +kernel
theorem dX10_plan_4 : decode cX10_plan 4 = .ok (.aload_n 0, 1) := by decide +kernel
theorem dX10_plan_5 : decode cX10_plan 5 = .ok (.getfield 10, 3) := by decide +kernel
theorem dX10_plan_8 : decode cX10_plan 8 = .ok (.invokevirtual 103, 3) := by decide +kernel
theorem dX10_plan_11 : decode cX10_plan 11 = .ok (.ifCond .ne 6, 3) := by decide +kernel
theorem dX10_plan_14 : decode cX10_plan 14 = .ok (.bipush (-103), 2) := by decide +kernel
theorem dX10_plan_16 : decode cX10_plan 16 = .ok (.ireturn, 1) := by decide +kernel
theorem dX10_plan_17 : decode cX10_plan 17 = .ok (.aload_n 0, 1) := by decide +kernel
theorem dX10_plan_18 : decode cX10_plan 18 = .ok (.getfield 26, 3) := by decide +kernel
theorem dX10_plan_21 : decode cX10_plan 21 = .ok (.aload_n 0, 1) := by decide +kernel
theorem dX10_plan_22 : decode cX10_plan 22 = .ok (.getfield 10, 3) := by decide +kernel
theorem dX10_plan_25 : decode cX10_plan 25 = .ok (.aload_n 0, 1) := by decide +kernel
theorem dX10_plan_26 : decode cX10_plan 26 = .ok (.getfield 19, 3) := by decide +kernel
theorem dX10_plan_29 : decode cX10_plan 29 = .ok (.invokevirtual 107, 3) := by decide +kernel
theorem dX10_plan_32 : decode cX10_plan 32 = .ok (.aload_n 0, 1) := by decide +kernel
theorem dX10_plan_33 : decode cX10_plan 33 = .ok (.getfield 19, 3) := by decide +kernel
theorem dX10_plan_36 : decode cX10_plan 36 = .ok (.invokevirtual 110, 3) := by decide +kernel
theorem dX10_plan_39 : decode cX10_plan 39 = .ok (.invokevirtual 113, 3) := by decide +kernel
theorem dX10_plan_42 : decode cX10_plan 42 = .ok (.aload_n 0, 1) := by decide +kernel
theorem dX10_plan_43 : decode cX10_plan 43 = .ok (.getfield 33, 3) := by decide +kernel
theorem dX10_plan_46 : decode cX10_plan 46 = .ok (.invokevirtual 117, 3) := by decide +kernel
theorem dX10_plan_49 : decode cX10_plan 49 = .ok (.aload_n 0, 1) := by decide +kernel
theorem dX10_plan_50 : decode cX10_plan 50 = .ok (.getfield 10, 3) := by decide +kernel
theorem dX10_plan_53 : decode cX10_plan 53 = .ok (.invokevirtual 93, 3) := by decide +kernel
theorem dX10_plan_56 : decode cX10_plan 56 = .ok (.aload_n 0, 1) := by decide +kernel
theorem dX10_plan_57 : decode cX10_plan 57 = .ok (.dup, 1) := by decide +kernel
theorem dX10_plan_58 : decode cX10_plan 58 = .ok (.getfield 118, 3) := by decide +kernel
theorem dX10_plan_61 : decode cX10_plan 61 = .ok (.iconst 1, 1) := by decide +kernel
theorem dX10_plan_62 : decode cX10_plan 62 = .ok (.iadd, 1) := by decide +kernel
theorem dX10_plan_63 : decode cX10_plan 63 = .ok (.putfield 118, 3) := by decide +kernel
theorem dX10_plan_66 : decode cX10_plan 66 = .ok (.aload_n 0, 1) := by decide +kernel
theorem dX10_plan_67 : decode cX10_plan 67 = .ok (.getfield 26, 3) := by decide +kernel
theorem dX10_plan_70 : decode cX10_plan 70 = .ok (.invokevirtual 122, 3) := by decide +kernel
theorem dX10_plan_73 : decode cX10_plan 73 = .ok (.ireturn, 1) := by decide +kernel
theorem dX10_thing_0 : decode cX10_thing 0 = .ok (.iload_n 1, 1) := by decide +kernel
theorem dX10_thing_1 : decode cX10_thing 1 = .ok (.invokestatic 141, 3) := by decide +kernel
theorem dX10_thing_4 : decode cX10_thing 4 = .ok (.ifCond .eq 10, 3) := by decide +kernel
theorem dX10_thing_7 : decode cX10_thing 7 = .ok (.iload_n 2, 1) := by decide +kernel
theorem dX10_thing_8 : decode cX10_thing 8 = .ok (.invokestatic 144, 3) := by decide +kernel
theorem dX10_thing_11 : decode cX10_thing 11 = .ok (.ifCond .ne 6, 3) := by decide +kernel
theorem dX10_thing_14 : decode cX10_thing 14 = .ok (.bipush (-102), 2) := by decide +kernel
theorem dX10_thing_16 : decode cX10_thing 16 = .ok (.ireturn, 1) := by decide +kernel
theorem dX10_thing_17 : decode cX10_thing 17 = .ok (.aload_n 0, 1) := by decide +kernel
theorem dX10_thing_18 : decode cX10_thing 18 = .ok (.getfield 26, 3) := by decide +kernel
theorem dX10_thing_21 : decode cX10_thing 21 = .ok (.iload_n 3, 1) := by decide +kernel
theorem dX10_thing_22 : decode cX10_thing 22 = .ok (.invokevirtual 125, 3) := by decide +kernel
theorem dX10_thing_25 : decode cX10_thing 25 = .ok (.ifCond .ne 6, 3) := by decide +kernel
theorem dX10_thing_28 : decode cX10_thing 28 = .ok (.bipush (-101), 2) := by decide +kernel
theorem dX10_thing_30 : decode cX10_thing 30 = .ok (.ireturn, 1) := by decide +kernel
theorem dX10_thing_31 : decode cX10_thing 31 = .ok (.aload_n 0, 1) := by decide +kernel
theorem dX10_thing_32 : decode cX10_thing 32 = .ok (.getfield 33, 3) := by decide +kernel
theorem dX10_thing_35 : decode cX10_thing 35 = .ok (.iload_n 1, 1) := by decide +kernel
theorem dX10_thing_36 : decode cX10_thing 36 = .ok (.iload_n 2, 1) := by decide +kernel
theorem dX10_thing_37 : decode cX10_thing 37 = .ok (.iload_n 3, 1) := by decide +kernel
theorem dX10_thing_38 : decode cX10_thing 38 = .ok (.invokevirtual 147, 3) := by decide +kernel
theorem dX10_thing_41 : decode cX10_thing 41 = .ok (.ireturn, 1) := by decide +kernel
theorem dX10_about_0 : decode cX10_about 0 = .ok (.aload_n 0, 1) := by decide +kernel
theorem dX10_about_1 : decode cX10_about 1 = .ok (.getfield 33, 3) := by decide +kernel
theorem dX10_about_4 : decode cX10_about 4 = .ok (.iload_n 1, 1) := by decide +kernel
theorem dX10_about_5 : decode cX10_about 5 = .ok (.invokevirtual 150, 3) := by decide +kernel
theorem dX10_about_8 : decode cX10_about 8 = .ok (.ifCond .ne 6, 3) := by decide +kernel
theorem dX10_about_11 : decode cX10_about 11 = .ok (.bipush (-101), 2) := by decide +kernel
theorem dX10_about_13 : decode cX10_about 13 = .ok (.ireturn, 1) := by decide +kernel
theorem dX10_about_14 : decode cX10_about 14 = .ok (.iload_n 2, 1) := by decide +kernel
theorem dX10_about_15 : decode cX10_about 15 = .ok (.invokestatic 151, 3) := by decide +kernel
theorem dX10_about_18 : decode cX10_about 18 = .ok (.ifCond .eq 16, 3) := by decide +kernel
theorem dX10_about_21 : decode cX10_about 21 = .ok (.aload_n 0, 1) := by decide +kernel
theorem dX10_about_22 : decode cX10_about 22 = .ok (.getfield 33, 3) := by decide +kernel
theorem dX10_about_25 : decode cX10_about 25 = .ok (.iload_n 1, 1) := by decide +kernel
theorem dX10_about_26 : decode cX10_about 26 = .ok (.iload_n 2, 1) := by decide +kernel
theorem dX10_about_27 : decode cX10_about 27 = .ok (.bipush 10, 2) := by decide +kernel
theorem dX10_about_29 : decode cX10_about 29 = .ok (.isub, 1) := by decide +kernel
theorem dX10_about_30 : decode cX10_about 30 = .ok (.invokevirtual 154, 3) := by decide +kernel
theorem dX10_about_33 : decode cX10_about 33 = .ok (.ireturn, 1) := by decide +kernel
theorem dX10_about_34 : decode cX10_about 34 = .ok (.iload_n 2, 1) := by decide +kernel
theorem dX10_about_35 : decode cX10_about 35 = .ok (.tableswitch 52 0 2 #[25, 34, 43], 25) := by decide +kernel
theorem dX10_about_60 : decode cX10_about 60 = .ok (.aload_n 0, 1) := by decide +kernel
theorem dX10_about_61 : decode cX10_about 61 = .ok (.getfield 33, 3) := by decide +kernel
theorem dX10_about_64 : decode cX10_about 64 = .ok (.iload_n 1, 1) := by decide +kernel
theorem dX10_about_65 : decode cX10_about 65 = .ok (.invokevirtual 158, 3) := by decide +kernel
theorem dX10_about_68 : decode cX10_about 68 = .ok (.ireturn, 1) := by decide +kernel
theorem dX10_about_69 : decode cX10_about 69 = .ok (.aload_n 0, 1) := by decide +kernel
theorem dX10_about_70 : decode cX10_about 70 = .ok (.getfield 33, 3) := by decide +kernel
theorem dX10_about_73 : decode cX10_about 73 = .ok (.iload_n 1, 1) := by decide +kernel
theorem dX10_about_74 : decode cX10_about 74 = .ok (.invokevirtual 161, 3) := by decide +kernel
theorem dX10_about_77 : decode cX10_about 77 = .ok (.ireturn, 1) := by decide +kernel
theorem dX10_about_78 : decode cX10_about 78 = .ok (.aload_n 0, 1) := by decide +kernel
theorem dX10_about_79 : decode cX10_about 79 = .ok (.getfield 33, 3) := by decide +kernel
theorem dX10_about_82 : decode cX10_about 82 = .ok (.iload_n 1, 1) := by decide +kernel
theorem dX10_about_83 : decode cX10_about 83 = .ok (.invokevirtual 164, 3) := by decide +kernel
theorem dX10_about_86 : decode cX10_about 86 = .ok (.ireturn, 1) := by decide +kernel
theorem dX10_about_87 : decode cX10_about 87 = .ok (.bipush (-102), 2) := by decide +kernel
theorem dX10_about_89 : decode cX10_about 89 = .ok (.ireturn, 1) := by decide +kernel
theorem dX10_as_0 : decode cX10_as 0 = .ok (.aload_n 0, 1) := by decide +kernel
theorem dX10_as_1 : decode cX10_as 1 = .ok (.getfield 33, 3) := by decide +kernel
theorem dX10_as_4 : decode cX10_as 4 = .ok (.iload_n 1, 1) := by decide +kernel
theorem dX10_as_5 : decode cX10_as 5 = .ok (.invokevirtual 150, 3) := by decide +kernel
theorem dX10_as_8 : decode cX10_as 8 = .ok (.ifCond .ne 6, 3) := by decide +kernel
theorem dX10_as_11 : decode cX10_as 11 = .ok (.bipush (-101), 2) := by decide +kernel
theorem dX10_as_13 : decode cX10_as 13 = .ok (.ireturn, 1) := by decide +kernel
theorem dX10_as_14 : decode cX10_as 14 = .ok (.iload_n 2, 1) := by decide +kernel
theorem dX10_as_15 : decode cX10_as 15 = .ok (.invokestatic 141, 3) := by decide +kernel
theorem dX10_as_18 : decode cX10_as 18 = .ok (.ifCond .ne 6, 3) := by decide +kernel
theorem dX10_as_21 : decode cX10_as 21 = .ok (.bipush (-102), 2) := by decide +kernel
theorem dX10_as_23 : decode cX10_as 23 = .ok (.ireturn, 1) := by decide +kernel
theorem dX10_as_24 : decode cX10_as 24 = .ok (.aload_n 0, 1) := by decide +kernel
theorem dX10_as_25 : decode cX10_as 25 = .ok (.getfield 33, 3) := by decide +kernel
theorem dX10_as_28 : decode cX10_as 28 = .ok (.iload_n 1, 1) := by decide +kernel
theorem dX10_as_29 : decode cX10_as 29 = .ok (.iload_n 2, 1) := by decide +kernel
theorem dX10_as_30 : decode cX10_as 30 = .ok (.invokevirtual 167, 3) := by decide +kernel
theorem dX10_as_33 : decode cX10_as 33 = .ok (.ifCond .eq 7, 3) := by decide +kernel
theorem dX10_as_36 : decode cX10_as 36 = .ok (.iload_n 1, 1) := by decide +kernel
theorem dX10_as_37 : decode cX10_as 37 = .ok (.goto 4, 3) := by decide +kernel
theorem dX10_as_40 : decode cX10_as 40 = .ok (.iconst (-1), 1) := by decide +kernel
theorem dX10_as_41 : decode cX10_as 41 = .ok (.ireturn, 1) := by decide +kernel
theorem dX10_stand_0 : decode cX10_stand 0 = .ok (.aload_n 0, 1) := by decide +kernel
theorem dX10_stand_1 : decode cX10_stand 1 = .ok (.getfield 33, 3) := by decide +kernel
theorem dX10_stand_4 : decode cX10_stand 4 = .ok (.iload_n 1, 1) := by decide +kernel
theorem dX10_stand_5 : decode cX10_stand 5 = .ok (.invokevirtual 150, 3) := by decide +kernel
theorem dX10_stand_8 : decode cX10_stand 8 = .ok (.ifCond .eq 21, 3) := by decide +kernel
theorem dX10_stand_11 : decode cX10_stand 11 = .ok (.iload_n 2, 1) := by decide +kernel
theorem dX10_stand_12 : decode cX10_stand 12 = .ok (.invokestatic 171, 3) := by decide +kernel
theorem dX10_stand_15 : decode cX10_stand 15 = .ok (.ifCond .eq 14, 3) := by decide +kernel
theorem dX10_stand_18 : decode cX10_stand 18 = .ok (.aload_n 0, 1) := by decide +kernel
theorem dX10_stand_19 : decode cX10_stand 19 = .ok (.getfield 26, 3) := by decide +kernel
theorem dX10_stand_22 : decode cX10_stand 22 = .ok (.iload_n 3, 1) := by decide +kernel
theorem dX10_stand_23 : decode cX10_stand 23 = .ok (.invokevirtual 125, 3) := by decide +kernel
theorem dX10_stand_26 : decode cX10_stand 26 = .ok (.ifCond .ne 6, 3) := by decide +kernel
theorem dX10_stand_29 : decode cX10_stand 29 = .ok (.bipush (-101), 2) := by decide +kernel
theorem dX10_stand_31 : decode cX10_stand 31 = .ok (.ireturn, 1) := by decide +kernel
theorem dX10_stand_32 : decode cX10_stand 32 = .ok (.aload_n 0, 1) := by decide +kernel
theorem dX10_stand_33 : decode cX10_stand 33 = .ok (.getfield 33, 3) := by decide +kernel
theorem dX10_stand_36 : decode cX10_stand 36 = .ok (.iload_n 1, 1) := by decide +kernel
theorem dX10_stand_37 : decode cX10_stand 37 = .ok (.iconst 3, 1) := by decide +kernel
theorem dX10_stand_38 : decode cX10_stand 38 = .ok (.invokevirtual 167, 3) := by decide +kernel
theorem dX10_stand_41 : decode cX10_stand 41 = .ok (.ifCond .ne 6, 3) := by decide +kernel
theorem dX10_stand_44 : decode cX10_stand 44 = .ok (.bipush (-103), 2) := by decide +kernel
theorem dX10_stand_46 : decode cX10_stand 46 = .ok (.ireturn, 1) := by decide +kernel
theorem dX10_stand_47 : decode cX10_stand 47 = .ok (.aload_n 0, 1) := by decide +kernel
theorem dX10_stand_48 : decode cX10_stand 48 = .ok (.getfield 33, 3) := by decide +kernel
theorem dX10_stand_51 : decode cX10_stand 51 = .ok (.iload_n 1, 1) := by decide +kernel
theorem dX10_stand_52 : decode cX10_stand 52 = .ok (.iload_n 2, 1) := by decide +kernel
theorem dX10_stand_53 : decode cX10_stand 53 = .ok (.invokevirtual 154, 3) := by decide +kernel
theorem dX10_stand_56 : decode cX10_stand 56 = .ok (.istore 4, 2) := by decide +kernel
theorem dX10_stand_58 : decode cX10_stand 58 = .ok (.aload_n 0, 1) := by decide +kernel
theorem dX10_stand_59 : decode cX10_stand 59 = .ok (.getfield 33, 3) := by decide +kernel
theorem dX10_stand_62 : decode cX10_stand 62 = .ok (.iload_n 1, 1) := by decide +kernel
theorem dX10_stand_63 : decode cX10_stand 63 = .ok (.iload_n 2, 1) := by decide +kernel
theorem dX10_stand_64 : decode cX10_stand 64 = .ok (.iload_n 3, 1) := by decide +kernel
theorem dX10_stand_65 : decode cX10_stand 65 = .ok (.invokevirtual 174, 3) := by decide +kernel
theorem dX10_stand_68 : decode cX10_stand 68 = .ok (.iload 4, 2) := by decide +kernel
theorem dX10_stand_70 : decode cX10_stand 70 = .ok (.ireturn, 1) := by decide +kernel
theorem dX10_put_0 : decode cX10_put 0 = .ok (.aload_n 0, 1) := by decide +kernel
theorem dX10_put_1 : decode cX10_put 1 = .ok (.getfield 33, 3) := by decide +kernel
theorem dX10_put_4 : decode cX10_put 4 = .ok (.iload_n 1, 1) := by decide +kernel
theorem dX10_put_5 : decode cX10_put 5 = .ok (.invokevirtual 150, 3) := by decide +kernel
theorem dX10_put_8 : decode cX10_put 8 = .ok (.ifCond .eq 14, 3) := by decide +kernel
theorem dX10_put_11 : decode cX10_put 11 = .ok (.aload_n 0, 1) := by decide +kernel
theorem dX10_put_12 : decode cX10_put 12 = .ok (.getfield 26, 3) := by decide +kernel
theorem dX10_put_15 : decode cX10_put 15 = .ok (.iload_n 2, 1) := by decide +kernel
theorem dX10_put_16 : decode cX10_put 16 = .ok (.invokevirtual 125, 3) := by decide +kernel
theorem dX10_put_19 : decode cX10_put 19 = .ok (.ifCond .ne 6, 3) := by decide +kernel
theorem dX10_put_22 : decode cX10_put 22 = .ok (.bipush (-101), 2) := by decide +kernel
theorem dX10_put_24 : decode cX10_put 24 = .ok (.ireturn, 1) := by decide +kernel
theorem dX10_put_25 : decode cX10_put 25 = .ok (.aload_n 0, 1) := by decide +kernel
theorem dX10_put_26 : decode cX10_put 26 = .ok (.getfield 33, 3) := by decide +kernel
theorem dX10_put_29 : decode cX10_put 29 = .ok (.iload_n 1, 1) := by decide +kernel
theorem dX10_put_30 : decode cX10_put 30 = .ok (.iconst 3, 1) := by decide +kernel
theorem dX10_put_31 : decode cX10_put 31 = .ok (.invokevirtual 167, 3) := by decide +kernel
theorem dX10_put_34 : decode cX10_put 34 = .ok (.ifCond .eq 6, 3) := by decide +kernel
theorem dX10_put_37 : decode cX10_put 37 = .ok (.bipush (-103), 2) := by decide +kernel
theorem dX10_put_39 : decode cX10_put 39 = .ok (.ireturn, 1) := by decide +kernel
theorem dX10_put_40 : decode cX10_put 40 = .ok (.aload_n 0, 1) := by decide +kernel
theorem dX10_put_41 : decode cX10_put 41 = .ok (.getfield 33, 3) := by decide +kernel
theorem dX10_put_44 : decode cX10_put 44 = .ok (.iload_n 1, 1) := by decide +kernel
theorem dX10_put_45 : decode cX10_put 45 = .ok (.iconst 0, 1) := by decide +kernel
theorem dX10_put_46 : decode cX10_put 46 = .ok (.invokevirtual 154, 3) := by decide +kernel
theorem dX10_put_49 : decode cX10_put 49 = .ok (.istore_n 3, 1) := by decide +kernel
theorem dX10_put_50 : decode cX10_put 50 = .ok (.aload_n 0, 1) := by decide +kernel
theorem dX10_put_51 : decode cX10_put 51 = .ok (.getfield 33, 3) := by decide +kernel
theorem dX10_put_54 : decode cX10_put 54 = .ok (.iload_n 1, 1) := by decide +kernel
theorem dX10_put_55 : decode cX10_put 55 = .ok (.iload_n 2, 1) := by decide +kernel
theorem dX10_put_56 : decode cX10_put 56 = .ok (.invokevirtual 178, 3) := by decide +kernel
theorem dX10_put_59 : decode cX10_put 59 = .ok (.iload_n 3, 1) := by decide +kernel
theorem dX10_put_60 : decode cX10_put 60 = .ok (.ireturn, 1) := by decide +kernel
theorem dX10_trade_0 : decode cX10_trade 0 = .ok (.aload_n 0, 1) := by decide +kernel
theorem dX10_trade_1 : decode cX10_trade 1 = .ok (.getfield 33, 3) := by decide +kernel
theorem dX10_trade_4 : decode cX10_trade 4 = .ok (.iload_n 1, 1) := by decide +kernel
theorem dX10_trade_5 : decode cX10_trade 5 = .ok (.invokevirtual 150, 3) := by decide +kernel
theorem dX10_trade_8 : decode cX10_trade 8 = .ok (.ifCond .eq 21, 3) := by decide +kernel
theorem dX10_trade_11 : decode cX10_trade 11 = .ok (.aload_n 0, 1) := by decide +kernel
theorem dX10_trade_12 : decode cX10_trade 12 = .ok (.getfield 33, 3) := by decide +kernel
theorem dX10_trade_15 : decode cX10_trade 15 = .ok (.iload_n 2, 1) := by decide +kernel
theorem dX10_trade_16 : decode cX10_trade 16 = .ok (.invokevirtual 150, 3) := by decide +kernel
theorem dX10_trade_19 : decode cX10_trade 19 = .ok (.ifCond .eq 10, 3) := by decide +kernel
theorem dX10_trade_22 : decode cX10_trade 22 = .ok (.iload_n 3, 1) := by decide +kernel
theorem dX10_trade_23 : decode cX10_trade 23 = .ok (.invokestatic 171, 3) := by decide +kernel
theorem dX10_trade_26 : decode cX10_trade 26 = .ok (.ifCond .ne 6, 3) := by decide +kernel
theorem dX10_trade_29 : decode cX10_trade 29 = .ok (.bipush (-101), 2) := by decide +kernel
theorem dX10_trade_31 : decode cX10_trade 31 = .ok (.ireturn, 1) := by decide +kernel
theorem dX10_trade_32 : decode cX10_trade 32 = .ok (.aload_n 0, 1) := by decide +kernel
theorem dX10_trade_33 : decode cX10_trade 33 = .ok (.getfield 33, 3) := by decide +kernel
theorem dX10_trade_36 : decode cX10_trade 36 = .ok (.iload_n 1, 1) := by decide +kernel
theorem dX10_trade_37 : decode cX10_trade 37 = .ok (.iconst 3, 1) := by decide +kernel
theorem dX10_trade_38 : decode cX10_trade 38 = .ok (.invokevirtual 167, 3) := by decide +kernel
theorem dX10_trade_41 : decode cX10_trade 41 = .ok (.ifCond .eq 15, 3) := by decide +kernel
theorem dX10_trade_44 : decode cX10_trade 44 = .ok (.aload_n 0, 1) := by decide +kernel
theorem dX10_trade_45 : decode cX10_trade 45 = .ok (.getfield 33, 3) := by decide +kernel
theorem dX10_trade_48 : decode cX10_trade 48 = .ok (.iload_n 2, 1) := by decide +kernel
theorem dX10_trade_49 : decode cX10_trade 49 = .ok (.iconst 3, 1) := by decide +kernel
theorem dX10_trade_50 : decode cX10_trade 50 = .ok (.invokevirtual 167, 3) := by decide +kernel
theorem dX10_trade_53 : decode cX10_trade 53 = .ok (.ifCond .ne 6, 3) := by decide +kernel
theorem dX10_trade_56 : decode cX10_trade 56 = .ok (.bipush (-103), 2) := by decide +kernel
theorem dX10_trade_58 : decode cX10_trade 58 = .ok (.ireturn, 1) := by decide +kernel
theorem dX10_trade_59 : decode cX10_trade 59 = .ok (.aload_n 0, 1) := by decide +kernel
theorem dX10_trade_60 : decode cX10_trade 60 = .ok (.getfield 33, 3) := by decide +kernel
theorem dX10_trade_63 : decode cX10_trade 63 = .ok (.iload_n 1, 1) := by decide +kernel
theorem dX10_trade_64 : decode cX10_trade 64 = .ok (.iload_n 3, 1) := by decide +kernel
theorem dX10_trade_65 : decode cX10_trade 65 = .ok (.invokevirtual 154, 3) := by decide +kernel
theorem dX10_trade_68 : decode cX10_trade 68 = .ok (.istore 4, 2) := by decide +kernel
theorem dX10_trade_70 : decode cX10_trade 70 = .ok (.aload_n 0, 1) := by decide +kernel
theorem dX10_trade_71 : decode cX10_trade 71 = .ok (.getfield 33, 3) := by decide +kernel
theorem dX10_trade_74 : decode cX10_trade 74 = .ok (.iload_n 2, 1) := by decide +kernel
theorem dX10_trade_75 : decode cX10_trade 75 = .ok (.iload_n 3, 1) := by decide +kernel
theorem dX10_trade_76 : decode cX10_trade 76 = .ok (.invokevirtual 154, 3) := by decide +kernel
theorem dX10_trade_79 : decode cX10_trade 79 = .ok (.istore 5, 2) := by decide +kernel
theorem dX10_trade_81 : decode cX10_trade 81 = .ok (.aload_n 0, 1) := by decide +kernel
theorem dX10_trade_82 : decode cX10_trade 82 = .ok (.getfield 33, 3) := by decide +kernel
theorem dX10_trade_85 : decode cX10_trade 85 = .ok (.iload_n 1, 1) := by decide +kernel
theorem dX10_trade_86 : decode cX10_trade 86 = .ok (.iload_n 3, 1) := by decide +kernel
theorem dX10_trade_87 : decode cX10_trade 87 = .ok (.iload 5, 2) := by decide +kernel
theorem dX10_trade_89 : decode cX10_trade 89 = .ok (.invokevirtual 174, 3) := by decide +kernel
theorem dX10_trade_92 : decode cX10_trade 92 = .ok (.aload_n 0, 1) := by decide +kernel
theorem dX10_trade_93 : decode cX10_trade 93 = .ok (.getfield 33, 3) := by decide +kernel
theorem dX10_trade_96 : decode cX10_trade 96 = .ok (.iload_n 2, 1) := by decide +kernel
theorem dX10_trade_97 : decode cX10_trade 97 = .ok (.iload_n 3, 1) := by decide +kernel
theorem dX10_trade_98 : decode cX10_trade 98 = .ok (.iload 4, 2) := by decide +kernel
theorem dX10_trade_100 : decode cX10_trade 100 = .ok (.invokevirtual 174, 3) := by decide +kernel
theorem dX10_trade_103 : decode cX10_trade 103 = .ok (.iload 4, 2) := by decide +kernel
theorem dX10_trade_105 : decode cX10_trade 105 = .ok (.iload 5, 2) := by decide +kernel
theorem dX10_trade_107 : decode cX10_trade 107 = .ok (.if_icmp .ne 7, 3) := by decide +kernel
theorem dX10_trade_110 : decode cX10_trade 110 = .ok (.iconst 0, 1) := by decide +kernel
theorem dX10_trade_111 : decode cX10_trade 111 = .ok (.goto 4, 3) := by decide +kernel
theorem dX10_trade_114 : decode cX10_trade 114 = .ok (.iconst 1, 1) := by decide +kernel
theorem dX10_trade_115 : decode cX10_trade 115 = .ok (.ireturn, 1) := by decide +kernel
theorem dX10_leans_0 : decode cX10_leans 0 = .ok (.iload_n 1, 1) := by decide +kernel
theorem dX10_leans_1 : decode cX10_leans 1 = .ok (.invokestatic 171, 3) := by decide +kernel
theorem dX10_leans_4 : decode cX10_leans 4 = .ok (.ifCond .ne 6, 3) := by decide +kernel
theorem dX10_leans_7 : decode cX10_leans 7 = .ok (.ldc 129, 2) := by decide +kernel
theorem dX10_leans_9 : decode cX10_leans 9 = .ok (.ireturn, 1) := by decide +kernel
theorem dX10_leans_10 : decode cX10_leans 10 = .ok (.iload_n 2, 1) := by decide +kernel
theorem dX10_leans_11 : decode cX10_leans 11 = .ok (.ifCond .ne 12, 3) := by decide +kernel
theorem dX10_leans_14 : decode cX10_leans 14 = .ok (.aload_n 0, 1) := by decide +kernel
theorem dX10_leans_15 : decode cX10_leans 15 = .ok (.getfield 42, 3) := by decide +kernel
theorem dX10_leans_18 : decode cX10_leans 18 = .ok (.iload_n 1, 1) := by decide +kernel
theorem dX10_leans_19 : decode cX10_leans 19 = .ok (.invokevirtual 182, 3) := by decide +kernel
theorem dX10_leans_22 : decode cX10_leans 22 = .ok (.ireturn, 1) := by decide +kernel
theorem dX10_leans_23 : decode cX10_leans 23 = .ok (.iload_n 2, 1) := by decide +kernel
theorem dX10_leans_24 : decode cX10_leans 24 = .ok (.iconst 1, 1) := by decide +kernel
theorem dX10_leans_25 : decode cX10_leans 25 = .ok (.if_icmp .ne 14, 3) := by decide +kernel
theorem dX10_leans_28 : decode cX10_leans 28 = .ok (.aload_n 0, 1) := by decide +kernel
theorem dX10_leans_29 : decode cX10_leans 29 = .ok (.getfield 42, 3) := by decide +kernel
theorem dX10_leans_32 : decode cX10_leans 32 = .ok (.iload_n 1, 1) := by decide +kernel
theorem dX10_leans_33 : decode cX10_leans 33 = .ok (.invokevirtual 185, 3) := by decide +kernel
theorem dX10_leans_36 : decode cX10_leans 36 = .ok (.goto 5, 3) := by decide +kernel
theorem dX10_leans_39 : decode cX10_leans 39 = .ok (.ldc 140, 2) := by decide +kernel
theorem dX10_leans_41 : decode cX10_leans 41 = .ok (.ireturn, 1) := by decide +kernel
theorem dX10_dip_0 : decode cX10_dip 0 = .ok (.aload_n 0, 1) := by decide +kernel
theorem dX10_dip_1 : decode cX10_dip 1 = .ok (.getfield 26, 3) := by decide +kernel
theorem dX10_dip_4 : decode cX10_dip 4 = .ok (.iload_n 1, 1) := by decide +kernel
theorem dX10_dip_5 : decode cX10_dip 5 = .ok (.invokevirtual 125, 3) := by decide +kernel
theorem dX10_dip_8 : decode cX10_dip 8 = .ok (.ifCond .eq 10, 3) := by decide +kernel
theorem dX10_dip_11 : decode cX10_dip 11 = .ok (.iload_n 2, 1) := by decide +kernel
theorem dX10_dip_12 : decode cX10_dip 12 = .ok (.invokestatic 171, 3) := by decide +kernel
theorem dX10_dip_15 : decode cX10_dip 15 = .ok (.ifCond .ne 6, 3) := by decide +kernel
theorem dX10_dip_18 : decode cX10_dip 18 = .ok (.ldc 188, 2) := by decide +kernel
theorem dX10_dip_20 : decode cX10_dip 20 = .ok (.ireturn, 1) := by decide +kernel
theorem dX10_dip_21 : decode cX10_dip 21 = .ok (.aload_n 0, 1) := by decide +kernel
theorem dX10_dip_22 : decode cX10_dip 22 = .ok (.getfield 26, 3) := by decide +kernel
theorem dX10_dip_25 : decode cX10_dip 25 = .ok (.iload_n 1, 1) := by decide +kernel
theorem dX10_dip_26 : decode cX10_dip 26 = .ok (.aload_n 0, 1) := by decide +kernel
theorem dX10_dip_27 : decode cX10_dip 27 = .ok (.getfield 42, 3) := by decide +kernel
theorem dX10_dip_30 : decode cX10_dip 30 = .ok (.iload_n 2, 1) := by decide +kernel
theorem dX10_dip_31 : decode cX10_dip 31 = .ok (.invokevirtual 182, 3) := by decide +kernel
theorem dX10_dip_34 : decode cX10_dip 34 = .ok (.aload_n 0, 1) := by decide +kernel
theorem dX10_dip_35 : decode cX10_dip 35 = .ok (.getfield 42, 3) := by decide +kernel
theorem dX10_dip_38 : decode cX10_dip 38 = .ok (.iload_n 2, 1) := by decide +kernel
theorem dX10_dip_39 : decode cX10_dip 39 = .ok (.invokevirtual 185, 3) := by decide +kernel
theorem dX10_dip_42 : decode cX10_dip 42 = .ok (.invokevirtual 189, 3) := by decide +kernel
theorem dX10_dip_45 : decode cX10_dip 45 = .ok (.ireturn, 1) := by decide +kernel
theorem dX10_wet_0 : decode cX10_wet 0 = .ok (.iload_n 1, 1) := by decide +kernel
theorem dX10_wet_1 : decode cX10_wet 1 = .ok (.invokestatic 171, 3) := by decide +kernel
theorem dX10_wet_4 : decode cX10_wet 4 = .ok (.ifCond .eq 14, 3) := by decide +kernel
theorem dX10_wet_7 : decode cX10_wet 7 = .ok (.aload_n 0, 1) := by decide +kernel
theorem dX10_wet_8 : decode cX10_wet 8 = .ok (.getfield 42, 3) := by decide +kernel
theorem dX10_wet_11 : decode cX10_wet 11 = .ok (.iload_n 1, 1) := by decide +kernel
theorem dX10_wet_12 : decode cX10_wet 12 = .ok (.invokevirtual 192, 3) := by decide +kernel
theorem dX10_wet_15 : decode cX10_wet 15 = .ok (.goto 5, 3) := by decide +kernel
theorem dX10_wet_18 : decode cX10_wet 18 = .ok (.bipush (-101), 2) := by decide +kernel
theorem dX10_wet_20 : decode cX10_wet 20 = .ok (.ireturn, 1) := by decide +kernel
theorem dX10_late_0 : decode cX10_late 0 = .ok (.iload_n 1, 1) := by decide +kernel
theorem dX10_late_1 : decode cX10_late 1 = .ok (.invokestatic 171, 3) := by decide +kernel
theorem dX10_late_4 : decode cX10_late 4 = .ok (.ifCond .eq 7, 3) := by decide +kernel
theorem dX10_late_7 : decode cX10_late 7 = .ok (.iload_n 1, 1) := by decide +kernel
theorem dX10_late_8 : decode cX10_late 8 = .ok (.ifCond .ne 6, 3) := by decide +kernel
theorem dX10_late_11 : decode cX10_late 11 = .ok (.bipush (-101), 2) := by decide +kernel
theorem dX10_late_13 : decode cX10_late 13 = .ok (.ireturn, 1) := by decide +kernel
theorem dX10_late_14 : decode cX10_late 14 = .ok (.aload_n 0, 1) := by decide +kernel
theorem dX10_late_15 : decode cX10_late 15 = .ok (.getfield 26, 3) := by decide +kernel
theorem dX10_late_18 : decode cX10_late 18 = .ok (.iload_n 2, 1) := by decide +kernel
theorem dX10_late_19 : decode cX10_late 19 = .ok (.invokevirtual 240, 3) := by decide +kernel
theorem dX10_late_22 : decode cX10_late 22 = .ok (.ifCond .eq 12, 3) := by decide +kernel
theorem dX10_late_25 : decode cX10_late 25 = .ok (.iload_n 3, 1) := by decide +kernel
theorem dX10_late_26 : decode cX10_late 26 = .ok (.ifCond .lt 8, 3) := by decide +kernel
theorem dX10_late_29 : decode cX10_late 29 = .ok (.iload_n 3, 1) := by decide +kernel
theorem dX10_late_30 : decode cX10_late 30 = .ok (.iconst 3, 1) := by decide +kernel
theorem dX10_late_31 : decode cX10_late 31 = .ok (.if_icmp .lt 6, 3) := by decide +kernel
theorem dX10_late_34 : decode cX10_late 34 = .ok (.bipush (-102), 2) := by decide +kernel
theorem dX10_late_36 : decode cX10_late 36 = .ok (.ireturn, 1) := by decide +kernel
theorem dX10_late_37 : decode cX10_late 37 = .ok (.aload_n 0, 1) := by decide +kernel
theorem dX10_late_38 : decode cX10_late 38 = .ok (.getfield 26, 3) := by decide +kernel
theorem dX10_late_41 : decode cX10_late 41 = .ok (.invokevirtual 195, 3) := by decide +kernel
theorem dX10_late_44 : decode cX10_late 44 = .ok (.ifCond .ne 6, 3) := by decide +kernel
theorem dX10_late_47 : decode cX10_late 47 = .ok (.bipush (-103), 2) := by decide +kernel
theorem dX10_late_49 : decode cX10_late 49 = .ok (.ireturn, 1) := by decide +kernel
theorem dX10_late_50 : decode cX10_late 50 = .ok (.aload_n 0, 1) := by decide +kernel
theorem dX10_late_51 : decode cX10_late 51 = .ok (.getfield 74, 3) := by decide +kernel
theorem dX10_late_54 : decode cX10_late 54 = .ok (.iload_n 1, 1) := by decide +kernel
theorem dX10_late_55 : decode cX10_late 55 = .ok (.iload_n 2, 1) := by decide +kernel
theorem dX10_late_56 : decode cX10_late 56 = .ok (.invokevirtual 243, 3) := by decide +kernel
theorem dX10_late_59 : decode cX10_late 59 = .ok (.aload_n 0, 1) := by decide +kernel
theorem dX10_late_60 : decode cX10_late 60 = .ok (.getfield 74, 3) := by decide +kernel
theorem dX10_late_63 : decode cX10_late 63 = .ok (.iload_n 3, 1) := by decide +kernel
theorem dX10_late_64 : decode cX10_late 64 = .ok (.invokevirtual 245, 3) := by decide +kernel
theorem dX10_late_67 : decode cX10_late 67 = .ok (.ireturn, 1) := by decide +kernel
theorem dX10_count_0 : decode cX10_count 0 = .ok (.iload_n 1, 1) := by decide +kernel
theorem dX10_count_1 : decode cX10_count 1 = .ok (.tableswitch 102 0 7 #[47, 55, 63, 71, 79, 87, 92, 97], 47) := by decide +kernel
theorem dX10_count_48 : decode cX10_count 48 = .ok (.aload_n 0, 1) := by decide +kernel
theorem dX10_count_49 : decode cX10_count 49 = .ok (.getfield 26, 3) := by decide +kernel
theorem dX10_count_52 : decode cX10_count 52 = .ok (.invokevirtual 122, 3) := by decide +kernel
theorem dX10_count_55 : decode cX10_count 55 = .ok (.ireturn, 1) := by decide +kernel
theorem dX10_count_56 : decode cX10_count 56 = .ok (.aload_n 0, 1) := by decide +kernel
theorem dX10_count_57 : decode cX10_count 57 = .ok (.getfield 26, 3) := by decide +kernel
theorem dX10_count_60 : decode cX10_count 60 = .ok (.invokevirtual 271, 3) := by decide +kernel
theorem dX10_count_63 : decode cX10_count 63 = .ok (.ireturn, 1) := by decide +kernel
theorem dX10_count_64 : decode cX10_count 64 = .ok (.aload_n 0, 1) := by decide +kernel
theorem dX10_count_65 : decode cX10_count 65 = .ok (.getfield 33, 3) := by decide +kernel
theorem dX10_count_68 : decode cX10_count 68 = .ok (.invokevirtual 262, 3) := by decide +kernel
theorem dX10_count_71 : decode cX10_count 71 = .ok (.ireturn, 1) := by decide +kernel
theorem dX10_count_72 : decode cX10_count 72 = .ok (.aload_n 0, 1) := by decide +kernel
theorem dX10_count_73 : decode cX10_count 73 = .ok (.getfield 33, 3) := by decide +kernel
theorem dX10_count_76 : decode cX10_count 76 = .ok (.invokevirtual 199, 3) := by decide +kernel
theorem dX10_count_79 : decode cX10_count 79 = .ok (.ireturn, 1) := by decide +kernel
theorem dX10_count_80 : decode cX10_count 80 = .ok (.aload_n 0, 1) := by decide +kernel
theorem dX10_count_81 : decode cX10_count 81 = .ok (.getfield 10, 3) := by decide +kernel
theorem dX10_count_84 : decode cX10_count 84 = .ok (.invokevirtual 89, 3) := by decide +kernel
theorem dX10_count_87 : decode cX10_count 87 = .ok (.ireturn, 1) := by decide +kernel
theorem dX10_count_88 : decode cX10_count 88 = .ok (.aload_n 0, 1) := by decide +kernel
theorem dX10_count_89 : decode cX10_count 89 = .ok (.getfield 118, 3) := by decide +kernel
theorem dX10_count_92 : decode cX10_count 92 = .ok (.ireturn, 1) := by decide +kernel
theorem dX10_count_93 : decode cX10_count 93 = .ok (.aload_n 0, 1) := by decide +kernel
theorem dX10_count_94 : decode cX10_count 94 = .ok (.getfield 202, 3) := by decide +kernel
theorem dX10_count_97 : decode cX10_count 97 = .ok (.ireturn, 1) := by decide +kernel
theorem dX10_count_98 : decode cX10_count 98 = .ok (.aload_n 0, 1) := by decide +kernel
theorem dX10_count_99 : decode cX10_count 99 = .ok (.getfield 229, 3) := by decide +kernel
theorem dX10_count_102 : decode cX10_count 102 = .ok (.ireturn, 1) := by decide +kernel
theorem dX10_count_103 : decode cX10_count 103 = .ok (.bipush (-102), 2) := by decide +kernel
theorem dX10_count_105 : decode cX10_count 105 = .ok (.ireturn, 1) := by decide +kernel
theorem dX10_isQuarter_0 : decode cX10_isQuarter 0 = .ok (.iload_n 0, 1) := by decide +kernel
theorem dX10_isQuarter_1 : decode cX10_isQuarter 1 = .ok (.ifCond .lt 13, 3) := by decide +kernel
theorem dX10_isQuarter_4 : decode cX10_isQuarter 4 = .ok (.iload_n 0, 1) := by decide +kernel
theorem dX10_isQuarter_5 : decode cX10_isQuarter 5 = .ok (.bipush 8, 2) := by decide +kernel
theorem dX10_isQuarter_7 : decode cX10_isQuarter 7 = .ok (.if_icmp .ge 7, 3) := by decide +kernel
theorem dX10_isQuarter_10 : decode cX10_isQuarter 10 = .ok (.iconst 1, 1) := by decide +kernel
theorem dX10_isQuarter_11 : decode cX10_isQuarter 11 = .ok (.goto 4, 3) := by decide +kernel
theorem dX10_isQuarter_14 : decode cX10_isQuarter 14 = .ok (.iconst 0, 1) := by decide +kernel
theorem dX10_isQuarter_15 : decode cX10_isQuarter 15 = .ok (.ireturn, 1) := by decide +kernel
theorem dX10_isKind_0 : decode cX10_isKind 0 = .ok (.iload_n 0, 1) := by decide +kernel
theorem dX10_isKind_1 : decode cX10_isKind 1 = .ok (.ifCond .lt 12, 3) := by decide +kernel
theorem dX10_isKind_4 : decode cX10_isKind 4 = .ok (.iload_n 0, 1) := by decide +kernel
theorem dX10_isKind_5 : decode cX10_isKind 5 = .ok (.iconst 4, 1) := by decide +kernel
theorem dX10_isKind_6 : decode cX10_isKind 6 = .ok (.if_icmp .gt 7, 3) := by decide +kernel
theorem dX10_isKind_9 : decode cX10_isKind 9 = .ok (.iconst 1, 1) := by decide +kernel
theorem dX10_isKind_10 : decode cX10_isKind 10 = .ok (.goto 4, 3) := by decide +kernel
theorem dX10_isKind_13 : decode cX10_isKind 13 = .ok (.iconst 0, 1) := by decide +kernel
theorem dX10_isKind_14 : decode cX10_isKind 14 = .ok (.ireturn, 1) := by decide +kernel
theorem dX10_isWeight_0 : decode cX10_isWeight 0 = .ok (.iload_n 0, 1) := by decide +kernel
theorem dX10_isWeight_1 : decode cX10_isWeight 1 = .ok (.iconst 1, 1) := by decide +kernel
theorem dX10_isWeight_2 : decode cX10_isWeight 2 = .ok (.if_icmp .lt 13, 3) := by decide +kernel
theorem dX10_isWeight_5 : decode cX10_isWeight 5 = .ok (.iload_n 0, 1) := by decide +kernel
theorem dX10_isWeight_6 : decode cX10_isWeight 6 = .ok (.bipush 99, 2) := by decide +kernel
theorem dX10_isWeight_8 : decode cX10_isWeight 8 = .ok (.if_icmp .gt 7, 3) := by decide +kernel
theorem dX10_isWeight_11 : decode cX10_isWeight 11 = .ok (.iconst 1, 1) := by decide +kernel
theorem dX10_isWeight_12 : decode cX10_isWeight 12 = .ok (.goto 4, 3) := by decide +kernel
theorem dX10_isWeight_15 : decode cX10_isWeight 15 = .ok (.iconst 0, 1) := by decide +kernel
theorem dX10_isWeight_16 : decode cX10_isWeight 16 = .ok (.ireturn, 1) := by decide +kernel
theorem dX10_asksPlace_0 : decode cX10_asksPlace 0 = .ok (.iload_n 0, 1) := by decide +kernel
theorem dX10_asksPlace_1 : decode cX10_asksPlace 1 = .ok (.bipush 10, 2) := by decide +kernel
theorem dX10_asksPlace_3 : decode cX10_asksPlace 3 = .ok (.if_icmp .lt 13, 3) := by decide +kernel
theorem dX10_asksPlace_6 : decode cX10_asksPlace 6 = .ok (.iload_n 0, 1) := by decide +kernel
theorem dX10_asksPlace_7 : decode cX10_asksPlace 7 = .ok (.bipush 17, 2) := by decide +kernel
theorem dX10_asksPlace_9 : decode cX10_asksPlace 9 = .ok (.if_icmp .gt 7, 3) := by decide +kernel
theorem dX10_asksPlace_12 : decode cX10_asksPlace 12 = .ok (.iconst 1, 1) := by decide +kernel
theorem dX10_asksPlace_13 : decode cX10_asksPlace 13 = .ok (.goto 4, 3) := by decide +kernel
theorem dX10_asksPlace_16 : decode cX10_asksPlace 16 = .ok (.iconst 0, 1) := by decide +kernel
theorem dX10_asksPlace_17 : decode cX10_asksPlace 17 = .ok (.ireturn, 1) := by decide +kernel
theorem dL_cell_0 : decode cL_cell 0 = .ok (.iload_n 1, 1) := by decide +kernel
theorem dL_cell_1 : decode cL_cell 1 = .ok (.aload_n 0, 1) := by decide +kernel
theorem dL_cell_2 : decode cL_cell 2 = .ok (.arraylength, 1) := by decide +kernel
theorem dL_cell_3 : decode cL_cell 3 = .ok (.if_icmp .ge 9, 3) := by decide +kernel
theorem dL_cell_6 : decode cL_cell 6 = .ok (.aload_n 0, 1) := by decide +kernel
theorem dL_cell_7 : decode cL_cell 7 = .ok (.iload_n 1, 1) := by decide +kernel
theorem dL_cell_8 : decode cL_cell 8 = .ok (.iaload, 1) := by decide +kernel
theorem dL_cell_9 : decode cL_cell 9 = .ok (.goto 11, 3) := by decide +kernel
theorem dL_cell_12 : decode cL_cell 12 = .ok (.sipush 7919, 3) := by decide +kernel
theorem dL_cell_15 : decode cL_cell 15 = .ok (.iload_n 1, 1) := by decide +kernel
theorem dL_cell_16 : decode cL_cell 16 = .ok (.imul, 1) := by decide +kernel
theorem dL_cell_17 : decode cL_cell 17 = .ok (.bipush 13, 2) := by decide +kernel
theorem dL_cell_19 : decode cL_cell 19 = .ok (.iadd, 1) := by decide +kernel
theorem dL_cell_20 : decode cL_cell 20 = .ok (.ldc 7, 2) := by decide +kernel
theorem dL_cell_22 : decode cL_cell 22 = .ok (.iand, 1) := by decide +kernel
theorem dL_cell_23 : decode cL_cell 23 = .ok (.ireturn, 1) := by decide +kernel
theorem dL_put_0 : decode cL_put 0 = .ok (.aload_n 0, 1) := by decide +kernel
theorem dL_put_1 : decode cL_put 1 = .ok (.iload_n 1, 1) := by decide +kernel
theorem dL_put_2 : decode cL_put 2 = .ok (.i2l, 1) := by decide +kernel
theorem dL_put_3 : decode cL_put 3 = .ok (.invokevirtual 8, 3) := by decide +kernel
theorem dL_put_6 : decode cL_put 6 = .ok (.ifCond .le 7, 3) := by decide +kernel
theorem dL_put_9 : decode cL_put 9 = .ok (.iconst 1, 1) := by decide +kernel
theorem dL_put_10 : decode cL_put 10 = .ok (.goto 4, 3) := by decide +kernel
theorem dL_put_13 : decode cL_put 13 = .ok (.iconst 0, 1) := by decide +kernel
theorem dL_put_14 : decode cL_put 14 = .ok (.ireturn, 1) := by decide +kernel
theorem dL_plan_0 : decode cL_plan 0 = .ok (.aload 4, 2) := by decide +kernel
theorem dL_plan_2 : decode cL_plan 2 = .ok (.iconst 0, 1) := by decide +kernel
theorem dL_plan_3 : decode cL_plan 3 = .ok (.iconst 2, 1) := by decide +kernel
theorem dL_plan_4 : decode cL_plan 4 = .ok (.aload_n 1, 1) := by decide +kernel
theorem dL_plan_5 : decode cL_plan 5 = .ok (.iload_n 2, 1) := by decide +kernel
theorem dL_plan_6 : decode cL_plan 6 = .ok (.invokestatic 14, 3) := by decide +kernel
theorem dL_plan_9 : decode cL_plan 9 = .ok (.iload_n 3, 1) := by decide +kernel
theorem dL_plan_10 : decode cL_plan 10 = .ok (.iconst 1, 1) := by decide +kernel
theorem dL_plan_11 : decode cL_plan 11 = .ok (.isub, 1) := by decide +kernel
theorem dL_plan_12 : decode cL_plan 12 = .ok (.irem, 1) := by decide +kernel
theorem dL_plan_13 : decode cL_plan 13 = .ok (.iadd, 1) := by decide +kernel
theorem dL_plan_14 : decode cL_plan 14 = .ok (.iastore, 1) := by decide +kernel
theorem dL_plan_15 : decode cL_plan 15 = .ok (.aload 4, 2) := by decide +kernel
theorem dL_plan_17 : decode cL_plan 17 = .ok (.iconst 1, 1) := by decide +kernel
theorem dL_plan_18 : decode cL_plan 18 = .ok (.iconst 2, 1) := by decide +kernel
theorem dL_plan_19 : decode cL_plan 19 = .ok (.aload_n 1, 1) := by decide +kernel
theorem dL_plan_20 : decode cL_plan 20 = .ok (.iload_n 2, 1) := by decide +kernel
theorem dL_plan_21 : decode cL_plan 21 = .ok (.invokestatic 14, 3) := by decide +kernel
theorem dL_plan_24 : decode cL_plan 24 = .ok (.bipush 8, 2) := by decide +kernel
theorem dL_plan_26 : decode cL_plan 26 = .ok (.idiv, 1) := by decide +kernel
theorem dL_plan_27 : decode cL_plan 27 = .ok (.iload_n 3, 1) := by decide +kernel
theorem dL_plan_28 : decode cL_plan 28 = .ok (.irem, 1) := by decide +kernel
theorem dL_plan_29 : decode cL_plan 29 = .ok (.iadd, 1) := by decide +kernel
theorem dL_plan_30 : decode cL_plan 30 = .ok (.iastore, 1) := by decide +kernel
theorem dL_plan_31 : decode cL_plan 31 = .ok (.iconst 1, 1) := by decide +kernel
theorem dL_plan_32 : decode cL_plan 32 = .ok (.istore 6, 2) := by decide +kernel
theorem dL_plan_34 : decode cL_plan 34 = .ok (.iconst 0, 1) := by decide +kernel
theorem dL_plan_35 : decode cL_plan 35 = .ok (.istore 7, 2) := by decide +kernel
theorem dL_plan_37 : decode cL_plan 37 = .ok (.iload 7, 2) := by decide +kernel
theorem dL_plan_39 : decode cL_plan 39 = .ok (.aload 4, 2) := by decide +kernel
theorem dL_plan_41 : decode cL_plan 41 = .ok (.iconst 0, 1) := by decide +kernel
theorem dL_plan_42 : decode cL_plan 42 = .ok (.iaload, 1) := by decide +kernel
theorem dL_plan_43 : decode cL_plan 43 = .ok (.aload 4, 2) := by decide +kernel
theorem dL_plan_45 : decode cL_plan 45 = .ok (.iconst 1, 1) := by decide +kernel
theorem dL_plan_46 : decode cL_plan 46 = .ok (.iaload, 1) := by decide +kernel
theorem dL_plan_47 : decode cL_plan 47 = .ok (.imul, 1) := by decide +kernel
theorem dL_plan_48 : decode cL_plan 48 = .ok (.if_icmp .ge 140, 3) := by decide +kernel
theorem dL_plan_51 : decode cL_plan 51 = .ok (.aload_n 1, 1) := by decide +kernel
theorem dL_plan_52 : decode cL_plan 52 = .ok (.iload_n 2, 1) := by decide +kernel
theorem dL_plan_53 : decode cL_plan 53 = .ok (.iconst 1, 1) := by decide +kernel
theorem dL_plan_54 : decode cL_plan 54 = .ok (.iadd, 1) := by decide +kernel
theorem dL_plan_55 : decode cL_plan 55 = .ok (.iload 7, 2) := by decide +kernel
theorem dL_plan_57 : decode cL_plan 57 = .ok (.iconst 5, 1) := by decide +kernel
theorem dL_plan_58 : decode cL_plan 58 = .ok (.idiv, 1) := by decide +kernel
theorem dL_plan_59 : decode cL_plan 59 = .ok (.iadd, 1) := by decide +kernel
theorem dL_plan_60 : decode cL_plan 60 = .ok (.invokestatic 14, 3) := by decide +kernel
theorem dL_plan_63 : decode cL_plan 63 = .ok (.bipush 6, 2) := by decide +kernel
theorem dL_plan_65 : decode cL_plan 65 = .ok (.iload 7, 2) := by decide +kernel
theorem dL_plan_67 : decode cL_plan 67 = .ok (.iconst 5, 1) := by decide +kernel
theorem dL_plan_68 : decode cL_plan 68 = .ok (.irem, 1) := by decide +kernel
theorem dL_plan_69 : decode cL_plan 69 = .ok (.imul, 1) := by decide +kernel
theorem dL_plan_70 : decode cL_plan 70 = .ok (.ishr, 1) := by decide +kernel
theorem dL_plan_71 : decode cL_plan 71 = .ok (.bipush 63, 2) := by decide +kernel
theorem dL_plan_73 : decode cL_plan 73 = .ok (.iand, 1) := by decide +kernel
theorem dL_plan_74 : decode cL_plan 74 = .ok (.istore 8, 2) := by decide +kernel
theorem dL_plan_76 : decode cL_plan 76 = .ok (.aload 5, 2) := by decide +kernel
theorem dL_plan_78 : decode cL_plan 78 = .ok (.iload 7, 2) := by decide +kernel
theorem dL_plan_80 : decode cL_plan 80 = .ok (.iload 8, 2) := by decide +kernel
theorem dL_plan_82 : decode cL_plan 82 = .ok (.iconst 3, 1) := by decide +kernel
theorem dL_plan_83 : decode cL_plan 83 = .ok (.irem, 1) := by decide +kernel
theorem dL_plan_84 : decode cL_plan 84 = .ok (.ifCond .le 7, 3) := by decide +kernel
theorem dL_plan_87 : decode cL_plan 87 = .ok (.iconst 0, 1) := by decide +kernel
theorem dL_plan_88 : decode cL_plan 88 = .ok (.goto 29, 3) := by decide +kernel
theorem dL_plan_91 : decode cL_plan 91 = .ok (.iconst 1, 1) := by decide +kernel
theorem dL_plan_92 : decode cL_plan 92 = .ok (.iload 8, 2) := by decide +kernel
theorem dL_plan_94 : decode cL_plan 94 = .ok (.iconst 3, 1) := by decide +kernel
theorem dL_plan_95 : decode cL_plan 95 = .ok (.idiv, 1) := by decide +kernel
theorem dL_plan_96 : decode cL_plan 96 = .ok (.aload_n 1, 1) := by decide +kernel
theorem dL_plan_97 : decode cL_plan 97 = .ok (.iload_n 2, 1) := by decide +kernel
theorem dL_plan_98 : decode cL_plan 98 = .ok (.invokestatic 14, 3) := by decide +kernel
theorem dL_plan_101 : decode cL_plan 101 = .ok (.bipush 64, 2) := by decide +kernel
theorem dL_plan_103 : decode cL_plan 103 = .ok (.idiv, 1) := by decide +kernel
theorem dL_plan_104 : decode cL_plan 104 = .ok (.iconst 2, 1) := by decide +kernel
theorem dL_plan_105 : decode cL_plan 105 = .ok (.irem, 1) := by decide +kernel
theorem dL_plan_106 : decode cL_plan 106 = .ok (.ifCond .ne 8, 3) := by decide +kernel
theorem dL_plan_109 : decode cL_plan 109 = .ok (.bipush 9, 2) := by decide +kernel
theorem dL_plan_111 : decode cL_plan 111 = .ok (.goto 4, 3) := by decide +kernel
theorem dL_plan_114 : decode cL_plan 114 = .ok (.iconst 3, 1) := by decide +kernel
theorem dL_plan_115 : decode cL_plan 115 = .ok (.irem, 1) := by decide +kernel
theorem dL_plan_116 : decode cL_plan 116 = .ok (.iadd, 1) := by decide +kernel
theorem dL_plan_117 : decode cL_plan 117 = .ok (.iastore, 1) := by decide +kernel
theorem dL_plan_118 : decode cL_plan 118 = .ok (.iload 6, 2) := by decide +kernel
theorem dL_plan_120 : decode cL_plan 120 = .ok (.ifCond .eq 59, 3) := by decide +kernel
theorem dL_plan_123 : decode cL_plan 123 = .ok (.iload 7, 2) := by decide +kernel
theorem dL_plan_125 : decode cL_plan 125 = .ok (.ifCond .eq 22, 3) := by decide +kernel
theorem dL_plan_128 : decode cL_plan 128 = .ok (.iload 7, 2) := by decide +kernel
theorem dL_plan_130 : decode cL_plan 130 = .ok (.aload 4, 2) := by decide +kernel
theorem dL_plan_132 : decode cL_plan 132 = .ok (.iconst 1, 1) := by decide +kernel
theorem dL_plan_133 : decode cL_plan 133 = .ok (.iaload, 1) := by decide +kernel
theorem dL_plan_134 : decode cL_plan 134 = .ok (.irem, 1) := by decide +kernel
theorem dL_plan_135 : decode cL_plan 135 = .ok (.ifCond .gt 12, 3) := by decide +kernel
theorem dL_plan_138 : decode cL_plan 138 = .ok (.aload_n 0, 1) := by decide +kernel
theorem dL_plan_139 : decode cL_plan 139 = .ok (.bipush 47, 2) := by decide +kernel
theorem dL_plan_141 : decode cL_plan 141 = .ok (.invokestatic 20, 3) := by decide +kernel
theorem dL_plan_144 : decode cL_plan 144 = .ok (.ifCond .eq 35, 3) := by decide +kernel
theorem dL_plan_147 : decode cL_plan 147 = .ok (.aload_n 0, 1) := by decide +kernel
theorem dL_plan_148 : decode cL_plan 148 = .ok (.aload 5, 2) := by decide +kernel
theorem dL_plan_150 : decode cL_plan 150 = .ok (.iload 7, 2) := by decide +kernel
theorem dL_plan_152 : decode cL_plan 152 = .ok (.iaload, 1) := by decide +kernel
theorem dL_plan_153 : decode cL_plan 153 = .ok (.ifCond .ne 8, 3) := by decide +kernel
theorem dL_plan_156 : decode cL_plan 156 = .ok (.bipush 46, 2) := by decide +kernel
theorem dL_plan_158 : decode cL_plan 158 = .ok (.goto 11, 3) := by decide +kernel
theorem dL_plan_161 : decode cL_plan 161 = .ok (.bipush 48, 2) := by decide +kernel
theorem dL_plan_163 : decode cL_plan 163 = .ok (.aload 5, 2) := by decide +kernel
theorem dL_plan_165 : decode cL_plan 165 = .ok (.iload 7, 2) := by decide +kernel
theorem dL_plan_167 : decode cL_plan 167 = .ok (.iaload, 1) := by decide +kernel
theorem dL_plan_168 : decode cL_plan 168 = .ok (.iadd, 1) := by decide +kernel
theorem dL_plan_169 : decode cL_plan 169 = .ok (.invokestatic 20, 3) := by decide +kernel
theorem dL_plan_172 : decode cL_plan 172 = .ok (.ifCond .eq 7, 3) := by decide +kernel
theorem dL_plan_175 : decode cL_plan 175 = .ok (.iconst 1, 1) := by decide +kernel
theorem dL_plan_176 : decode cL_plan 176 = .ok (.goto 4, 3) := by decide +kernel
theorem dL_plan_179 : decode cL_plan 179 = .ok (.iconst 0, 1) := by decide +kernel
theorem dL_plan_180 : decode cL_plan 180 = .ok (.istore 6, 2) := by decide +kernel
theorem dL_plan_182 : decode cL_plan 182 = .ok (.iinc 7 1, 3) := by decide +kernel
theorem dL_plan_185 : decode cL_plan 185 = .ok (.goto (-148), 3) := by decide +kernel
theorem dL_plan_188 : decode cL_plan 188 = .ok (.iload 6, 2) := by decide +kernel
theorem dL_plan_190 : decode cL_plan 190 = .ok (.ifCond .eq 36, 3) := by decide +kernel
theorem dL_plan_193 : decode cL_plan 193 = .ok (.aload_n 0, 1) := by decide +kernel
theorem dL_plan_194 : decode cL_plan 194 = .ok (.iconst 0, 1) := by decide +kernel
theorem dL_plan_195 : decode cL_plan 195 = .ok (.invokevirtual 24, 3) := by decide +kernel
theorem dL_plan_198 : decode cL_plan 198 = .ok (.aload_n 0, 1) := by decide +kernel
theorem dL_plan_199 : decode cL_plan 199 = .ok (.iconst 4, 1) := by decide +kernel
theorem dL_plan_200 : decode cL_plan 200 = .ok (.invokevirtual 28, 3) := by decide +kernel
theorem dL_plan_203 : decode cL_plan 203 = .ok (.if_icmp .ne 23, 3) := by decide +kernel
theorem dL_plan_206 : decode cL_plan 206 = .ok (.aload_n 0, 1) := by decide +kernel
theorem dL_plan_207 : decode cL_plan 207 = .ok (.invokevirtual 31, 3) := by decide +kernel
theorem dL_plan_210 : decode cL_plan 210 = .ok (.aload 4, 2) := by decide +kernel
theorem dL_plan_212 : decode cL_plan 212 = .ok (.iconst 0, 1) := by decide +kernel
theorem dL_plan_213 : decode cL_plan 213 = .ok (.iaload, 1) := by decide +kernel
theorem dL_plan_214 : decode cL_plan 214 = .ok (.aload 4, 2) := by decide +kernel
theorem dL_plan_216 : decode cL_plan 216 = .ok (.iconst 1, 1) := by decide +kernel
theorem dL_plan_217 : decode cL_plan 217 = .ok (.iaload, 1) := by decide +kernel
theorem dL_plan_218 : decode cL_plan 218 = .ok (.imul, 1) := by decide +kernel
theorem dL_plan_219 : decode cL_plan 219 = .ok (.if_icmp .ne 7, 3) := by decide +kernel
theorem dL_plan_222 : decode cL_plan 222 = .ok (.iconst 1, 1) := by decide +kernel
theorem dL_plan_223 : decode cL_plan 223 = .ok (.goto 4, 3) := by decide +kernel
theorem dL_plan_226 : decode cL_plan 226 = .ok (.iconst 0, 1) := by decide +kernel
theorem dL_plan_227 : decode cL_plan 227 = .ok (.ireturn, 1) := by decide +kernel
theorem dL_things_0 : decode cL_things 0 = .ok (.aload 4, 2) := by decide +kernel
theorem dL_things_2 : decode cL_things 2 = .ok (.iconst 0, 1) := by decide +kernel
theorem dL_things_3 : decode cL_things 3 = .ok (.iaload, 1) := by decide +kernel
theorem dL_things_4 : decode cL_things 4 = .ok (.aload 4, 2) := by decide +kernel
theorem dL_things_6 : decode cL_things 6 = .ok (.iconst 1, 1) := by decide +kernel
theorem dL_things_7 : decode cL_things 7 = .ok (.iaload, 1) := by decide +kernel
theorem dL_things_8 : decode cL_things 8 = .ok (.imul, 1) := by decide +kernel
theorem dL_things_9 : decode cL_things 9 = .ok (.istore 6, 2) := by decide +kernel
theorem dL_things_11 : decode cL_things 11 = .ok (.iconst 1, 1) := by decide +kernel
theorem dL_things_12 : decode cL_things 12 = .ok (.istore 7, 2) := by decide +kernel
theorem dL_things_14 : decode cL_things 14 = .ok (.iconst 0, 1) := by decide +kernel
theorem dL_things_15 : decode cL_things 15 = .ok (.istore 8, 2) := by decide +kernel
theorem dL_things_17 : decode cL_things 17 = .ok (.iload 8, 2) := by decide +kernel
theorem dL_things_19 : decode cL_things 19 = .ok (.iload_n 3, 1) := by decide +kernel
theorem dL_things_20 : decode cL_things 20 = .ok (.if_icmp .ge 217, 3) := by decide +kernel
theorem dL_things_23 : decode cL_things 23 = .ok (.aload_n 1, 1) := by decide +kernel
theorem dL_things_24 : decode cL_things 24 = .ok (.iload_n 2, 1) := by decide +kernel
theorem dL_things_25 : decode cL_things 25 = .ok (.iconst 2, 1) := by decide +kernel
theorem dL_things_26 : decode cL_things 26 = .ok (.iload 8, 2) := by decide +kernel
theorem dL_things_28 : decode cL_things 28 = .ok (.imul, 1) := by decide +kernel
theorem dL_things_29 : decode cL_things 29 = .ok (.iadd, 1) := by decide +kernel
theorem dL_things_30 : decode cL_things 30 = .ok (.invokestatic 14, 3) := by decide +kernel
theorem dL_things_33 : decode cL_things 33 = .ok (.istore 9, 2) := by decide +kernel
theorem dL_things_35 : decode cL_things 35 = .ok (.aload_n 1, 1) := by decide +kernel
theorem dL_things_36 : decode cL_things 36 = .ok (.iload_n 2, 1) := by decide +kernel
theorem dL_things_37 : decode cL_things 37 = .ok (.iconst 2, 1) := by decide +kernel
theorem dL_things_38 : decode cL_things 38 = .ok (.iload 8, 2) := by decide +kernel
theorem dL_things_40 : decode cL_things 40 = .ok (.imul, 1) := by decide +kernel
theorem dL_things_41 : decode cL_things 41 = .ok (.iadd, 1) := by decide +kernel
theorem dL_things_42 : decode cL_things 42 = .ok (.iconst 1, 1) := by decide +kernel
theorem dL_things_43 : decode cL_things 43 = .ok (.iadd, 1) := by decide +kernel
theorem dL_things_44 : decode cL_things 44 = .ok (.invokestatic 14, 3) := by decide +kernel
theorem dL_things_47 : decode cL_things 47 = .ok (.istore 10, 2) := by decide +kernel
theorem dL_things_49 : decode cL_things 49 = .ok (.aload 5, 2) := by decide +kernel
theorem dL_things_51 : decode cL_things 51 = .ok (.bipush 10, 2) := by decide +kernel
theorem dL_things_53 : decode cL_things 53 = .ok (.iload 8, 2) := by decide +kernel
theorem dL_things_55 : decode cL_things 55 = .ok (.imul, 1) := by decide +kernel
theorem dL_things_56 : decode cL_things 56 = .ok (.iload 9, 2) := by decide +kernel
theorem dL_things_58 : decode cL_things 58 = .ok (.iconst 5, 1) := by decide +kernel
theorem dL_things_59 : decode cL_things 59 = .ok (.irem, 1) := by decide +kernel
theorem dL_things_60 : decode cL_things 60 = .ok (.iastore, 1) := by decide +kernel
theorem dL_things_61 : decode cL_things 61 = .ok (.aload 5, 2) := by decide +kernel
theorem dL_things_63 : decode cL_things 63 = .ok (.bipush 10, 2) := by decide +kernel
theorem dL_things_65 : decode cL_things 65 = .ok (.iload 8, 2) := by decide +kernel
theorem dL_things_67 : decode cL_things 67 = .ok (.imul, 1) := by decide +kernel
theorem dL_things_68 : decode cL_things 68 = .ok (.iconst 1, 1) := by decide +kernel
theorem dL_things_69 : decode cL_things 69 = .ok (.iadd, 1) := by decide +kernel
theorem dL_things_70 : decode cL_things 70 = .ok (.iconst 1, 1) := by decide +kernel
theorem dL_things_71 : decode cL_things 71 = .ok (.iload 9, 2) := by decide +kernel
theorem dL_things_73 : decode cL_things 73 = .ok (.bipush 8, 2) := by decide +kernel
theorem dL_things_75 : decode cL_things 75 = .ok (.idiv, 1) := by decide +kernel
theorem dL_things_76 : decode cL_things 76 = .ok (.bipush 99, 2) := by decide +kernel
theorem dL_things_78 : decode cL_things 78 = .ok (.irem, 1) := by decide +kernel
theorem dL_things_79 : decode cL_things 79 = .ok (.iload 9, 2) := by decide +kernel
theorem dL_things_81 : decode cL_things 81 = .ok (.iconst 2, 1) := by decide +kernel
theorem dL_things_82 : decode cL_things 82 = .ok (.irem, 1) := by decide +kernel
theorem dL_things_83 : decode cL_things 83 = .ok (.iconst 1, 1) := by decide +kernel
theorem dL_things_84 : decode cL_things 84 = .ok (.iadd, 1) := by decide +kernel
theorem dL_things_85 : decode cL_things 85 = .ok (.idiv, 1) := by decide +kernel
theorem dL_things_86 : decode cL_things 86 = .ok (.iadd, 1) := by decide +kernel
theorem dL_things_87 : decode cL_things 87 = .ok (.iastore, 1) := by decide +kernel
theorem dL_things_88 : decode cL_things 88 = .ok (.iload 7, 2) := by decide +kernel
theorem dL_things_90 : decode cL_things 90 = .ok (.ifCond .eq 39, 3) := by decide +kernel
theorem dL_things_93 : decode cL_things 93 = .ok (.aload_n 0, 1) := by decide +kernel
theorem dL_things_94 : decode cL_things 94 = .ok (.iload 9, 2) := by decide +kernel
theorem dL_things_96 : decode cL_things 96 = .ok (.iconst 5, 1) := by decide +kernel
theorem dL_things_97 : decode cL_things 97 = .ok (.irem, 1) := by decide +kernel
theorem dL_things_98 : decode cL_things 98 = .ok (.aload 5, 2) := by decide +kernel
theorem dL_things_100 : decode cL_things 100 = .ok (.bipush 10, 2) := by decide +kernel
theorem dL_things_102 : decode cL_things 102 = .ok (.iload 8, 2) := by decide +kernel
theorem dL_things_104 : decode cL_things 104 = .ok (.imul, 1) := by decide +kernel
theorem dL_things_105 : decode cL_things 105 = .ok (.iconst 1, 1) := by decide +kernel
theorem dL_things_106 : decode cL_things 106 = .ok (.iadd, 1) := by decide +kernel
theorem dL_things_107 : decode cL_things 107 = .ok (.iaload, 1) := by decide +kernel
theorem dL_things_108 : decode cL_things 108 = .ok (.iload 9, 2) := by decide +kernel
theorem dL_things_110 : decode cL_things 110 = .ok (.sipush 1024, 3) := by decide +kernel
theorem dL_things_113 : decode cL_things 113 = .ok (.idiv, 1) := by decide +kernel
theorem dL_things_114 : decode cL_things 114 = .ok (.iload 6, 2) := by decide +kernel
theorem dL_things_116 : decode cL_things 116 = .ok (.irem, 1) := by decide +kernel
theorem dL_things_117 : decode cL_things 117 = .ok (.invokevirtual 35, 3) := by decide +kernel
theorem dL_things_120 : decode cL_things 120 = .ok (.iload 8, 2) := by decide +kernel
theorem dL_things_122 : decode cL_things 122 = .ok (.if_icmp .ne 7, 3) := by decide +kernel
theorem dL_things_125 : decode cL_things 125 = .ok (.iconst 1, 1) := by decide +kernel
theorem dL_things_126 : decode cL_things 126 = .ok (.goto 4, 3) := by decide +kernel
theorem dL_things_129 : decode cL_things 129 = .ok (.iconst 0, 1) := by decide +kernel
theorem dL_things_130 : decode cL_things 130 = .ok (.istore 7, 2) := by decide +kernel
theorem dL_things_132 : decode cL_things 132 = .ok (.iconst 0, 1) := by decide +kernel
theorem dL_things_133 : decode cL_things 133 = .ok (.istore 11, 2) := by decide +kernel
theorem dL_things_135 : decode cL_things 135 = .ok (.iload 11, 2) := by decide +kernel
theorem dL_things_137 : decode cL_things 137 = .ok (.bipush 8, 2) := by decide +kernel
theorem dL_things_139 : decode cL_things 139 = .ok (.if_icmp .ge 92, 3) := by decide +kernel
theorem dL_things_142 : decode cL_things 142 = .ok (.iload 9, 2) := by decide +kernel
theorem dL_things_144 : decode cL_things 144 = .ok (.iconst 5, 1) := by decide +kernel
theorem dL_things_145 : decode cL_things 145 = .ok (.irem, 1) := by decide +kernel
theorem dL_things_146 : decode cL_things 146 = .ok (.iconst 3, 1) := by decide +kernel
theorem dL_things_147 : decode cL_things 147 = .ok (.if_icmp .ge 15, 3) := by decide +kernel
theorem dL_things_150 : decode cL_things 150 = .ok (.iload 9, 2) := by decide +kernel
theorem dL_things_152 : decode cL_things 152 = .ok (.sipush 1024, 3) := by decide +kernel
theorem dL_things_155 : decode cL_things 155 = .ok (.idiv, 1) := by decide +kernel
theorem dL_things_156 : decode cL_things 156 = .ok (.iload 6, 2) := by decide +kernel
theorem dL_things_158 : decode cL_things 158 = .ok (.irem, 1) := by decide +kernel
theorem dL_things_159 : decode cL_things 159 = .ok (.goto 16, 3) := by decide +kernel
theorem dL_things_162 : decode cL_things 162 = .ok (.iload 10, 2) := by decide +kernel
theorem dL_things_164 : decode cL_things 164 = .ok (.iconst 3, 1) := by decide +kernel
theorem dL_things_165 : decode cL_things 165 = .ok (.iload 11, 2) := by decide +kernel
theorem dL_things_167 : decode cL_things 167 = .ok (.imul, 1) := by decide +kernel
theorem dL_things_168 : decode cL_things 168 = .ok (.ishr, 1) := by decide +kernel
theorem dL_things_169 : decode cL_things 169 = .ok (.bipush 127, 2) := by decide +kernel
theorem dL_things_171 : decode cL_things 171 = .ok (.iand, 1) := by decide +kernel
theorem dL_things_172 : decode cL_things 172 = .ok (.iload 6, 2) := by decide +kernel
theorem dL_things_174 : decode cL_things 174 = .ok (.irem, 1) := by decide +kernel
theorem dL_things_175 : decode cL_things 175 = .ok (.istore 12, 2) := by decide +kernel
theorem dL_things_177 : decode cL_things 177 = .ok (.aload 5, 2) := by decide +kernel
theorem dL_things_179 : decode cL_things 179 = .ok (.bipush 10, 2) := by decide +kernel
theorem dL_things_181 : decode cL_things 181 = .ok (.iload 8, 2) := by decide +kernel
theorem dL_things_183 : decode cL_things 183 = .ok (.imul, 1) := by decide +kernel
theorem dL_things_184 : decode cL_things 184 = .ok (.iconst 2, 1) := by decide +kernel
theorem dL_things_185 : decode cL_things 185 = .ok (.iadd, 1) := by decide +kernel
theorem dL_things_186 : decode cL_things 186 = .ok (.iload 11, 2) := by decide +kernel
theorem dL_things_188 : decode cL_things 188 = .ok (.iadd, 1) := by decide +kernel
theorem dL_things_189 : decode cL_things 189 = .ok (.iload 12, 2) := by decide +kernel
theorem dL_things_191 : decode cL_things 191 = .ok (.iastore, 1) := by decide +kernel
theorem dL_things_192 : decode cL_things 192 = .ok (.iload 7, 2) := by decide +kernel
theorem dL_things_194 : decode cL_things 194 = .ok (.ifCond .eq 28, 3) := by decide +kernel
theorem dL_things_197 : decode cL_things 197 = .ok (.iload 9, 2) := by decide +kernel
theorem dL_things_199 : decode cL_things 199 = .ok (.iconst 5, 1) := by decide +kernel
theorem dL_things_200 : decode cL_things 200 = .ok (.irem, 1) := by decide +kernel
theorem dL_things_201 : decode cL_things 201 = .ok (.iconst 3, 1) := by decide +kernel
theorem dL_things_202 : decode cL_things 202 = .ok (.if_icmp .lt 16, 3) := by decide +kernel
theorem dL_things_205 : decode cL_things 205 = .ok (.aload_n 0, 1) := by decide +kernel
theorem dL_things_206 : decode cL_things 206 = .ok (.iload 8, 2) := by decide +kernel
theorem dL_things_208 : decode cL_things 208 = .ok (.iload 11, 2) := by decide +kernel
theorem dL_things_210 : decode cL_things 210 = .ok (.iload 12, 2) := by decide +kernel
theorem dL_things_212 : decode cL_things 212 = .ok (.invokevirtual 39, 3) := by decide +kernel
theorem dL_things_215 : decode cL_things 215 = .ok (.ifCond .lt 7, 3) := by decide +kernel
theorem dL_things_218 : decode cL_things 218 = .ok (.iconst 1, 1) := by decide +kernel
theorem dL_things_219 : decode cL_things 219 = .ok (.goto 4, 3) := by decide +kernel
theorem dL_things_222 : decode cL_things 222 = .ok (.iconst 0, 1) := by decide +kernel
theorem dL_things_223 : decode cL_things 223 = .ok (.istore 7, 2) := by decide +kernel
theorem dL_things_225 : decode cL_things 225 = .ok (.iinc 11 1, 3) := by decide +kernel
theorem dL_things_228 : decode cL_things 228 = .ok (.goto (-93), 3) := by decide +kernel
theorem dL_things_231 : decode cL_things 231 = .ok (.iinc 8 1, 3) := by decide +kernel
theorem dL_things_234 : decode cL_things 234 = .ok (.goto (-217), 3) := by decide +kernel
theorem dL_things_237 : decode cL_things 237 = .ok (.iload 7, 2) := by decide +kernel
theorem dL_things_239 : decode cL_things 239 = .ok (.ireturn, 1) := by decide +kernel
theorem dL_weighs_0 : decode cL_weighs 0 = .ok (.aload_n 0, 1) := by decide +kernel
theorem dL_weighs_1 : decode cL_weighs 1 = .ok (.bipush 10, 2) := by decide +kernel
theorem dL_weighs_3 : decode cL_weighs 3 = .ok (.iload_n 1, 1) := by decide +kernel
theorem dL_weighs_4 : decode cL_weighs 4 = .ok (.imul, 1) := by decide +kernel
theorem dL_weighs_5 : decode cL_weighs 5 = .ok (.iaload, 1) := by decide +kernel
theorem dL_weighs_6 : decode cL_weighs 6 = .ok (.iconst 4, 1) := by decide +kernel
theorem dL_weighs_7 : decode cL_weighs 7 = .ok (.if_icmp .ne 23, 3) := by decide +kernel
theorem dL_weighs_10 : decode cL_weighs 10 = .ok (.aload_n 0, 1) := by decide +kernel
theorem dL_weighs_11 : decode cL_weighs 11 = .ok (.bipush 10, 2) := by decide +kernel
theorem dL_weighs_13 : decode cL_weighs 13 = .ok (.iload_n 1, 1) := by decide +kernel
theorem dL_weighs_14 : decode cL_weighs 14 = .ok (.imul, 1) := by decide +kernel
theorem dL_weighs_15 : decode cL_weighs 15 = .ok (.iconst 1, 1) := by decide +kernel
theorem dL_weighs_16 : decode cL_weighs 16 = .ok (.iadd, 1) := by decide +kernel
theorem dL_weighs_17 : decode cL_weighs 17 = .ok (.iaload, 1) := by decide +kernel
theorem dL_weighs_18 : decode cL_weighs 18 = .ok (.aload_n 0, 1) := by decide +kernel
theorem dL_weighs_19 : decode cL_weighs 19 = .ok (.bipush 10, 2) := by decide +kernel
theorem dL_weighs_21 : decode cL_weighs 21 = .ok (.iload_n 1, 1) := by decide +kernel
theorem dL_weighs_22 : decode cL_weighs 22 = .ok (.imul, 1) := by decide +kernel
theorem dL_weighs_23 : decode cL_weighs 23 = .ok (.iconst 1, 1) := by decide +kernel
theorem dL_weighs_24 : decode cL_weighs 24 = .ok (.iadd, 1) := by decide +kernel
theorem dL_weighs_25 : decode cL_weighs 25 = .ok (.iaload, 1) := by decide +kernel
theorem dL_weighs_26 : decode cL_weighs 26 = .ok (.iadd, 1) := by decide +kernel
theorem dL_weighs_27 : decode cL_weighs 27 = .ok (.goto 11, 3) := by decide +kernel
theorem dL_weighs_30 : decode cL_weighs 30 = .ok (.aload_n 0, 1) := by decide +kernel
theorem dL_weighs_31 : decode cL_weighs 31 = .ok (.bipush 10, 2) := by decide +kernel
theorem dL_weighs_33 : decode cL_weighs 33 = .ok (.iload_n 1, 1) := by decide +kernel
theorem dL_weighs_34 : decode cL_weighs 34 = .ok (.imul, 1) := by decide +kernel
theorem dL_weighs_35 : decode cL_weighs 35 = .ok (.iconst 1, 1) := by decide +kernel
theorem dL_weighs_36 : decode cL_weighs 36 = .ok (.iadd, 1) := by decide +kernel
theorem dL_weighs_37 : decode cL_weighs 37 = .ok (.iaload, 1) := by decide +kernel
theorem dL_weighs_38 : decode cL_weighs 38 = .ok (.ireturn, 1) := by decide +kernel
theorem dL_east_0 : decode cL_east 0 = .ok (.iload_n 1, 1) := by decide +kernel
theorem dL_east_1 : decode cL_east 1 = .ok (.aload_n 0, 1) := by decide +kernel
theorem dL_east_2 : decode cL_east 2 = .ok (.iconst 1, 1) := by decide +kernel
theorem dL_east_3 : decode cL_east 3 = .ok (.iaload, 1) := by decide +kernel
theorem dL_east_4 : decode cL_east 4 = .ok (.irem, 1) := by decide +kernel
theorem dL_east_5 : decode cL_east 5 = .ok (.iload_n 1, 1) := by decide +kernel
theorem dL_east_6 : decode cL_east 6 = .ok (.aload_n 0, 1) := by decide +kernel
theorem dL_east_7 : decode cL_east 7 = .ok (.iconst 1, 1) := by decide +kernel
theorem dL_east_8 : decode cL_east 8 = .ok (.iaload, 1) := by decide +kernel
theorem dL_east_9 : decode cL_east 9 = .ok (.irem, 1) := by decide +kernel
theorem dL_east_10 : decode cL_east 10 = .ok (.iadd, 1) := by decide +kernel
theorem dL_east_11 : decode cL_east 11 = .ok (.iconst 1, 1) := by decide +kernel
theorem dL_east_12 : decode cL_east 12 = .ok (.iadd, 1) := by decide +kernel
theorem dL_east_13 : decode cL_east 13 = .ok (.aload_n 0, 1) := by decide +kernel
theorem dL_east_14 : decode cL_east 14 = .ok (.iconst 1, 1) := by decide +kernel
theorem dL_east_15 : decode cL_east 15 = .ok (.iaload, 1) := by decide +kernel
theorem dL_east_16 : decode cL_east 16 = .ok (.isub, 1) := by decide +kernel
theorem dL_east_17 : decode cL_east 17 = .ok (.ireturn, 1) := by decide +kernel
theorem dL_south_0 : decode cL_south 0 = .ok (.iload_n 1, 1) := by decide +kernel
theorem dL_south_1 : decode cL_south 1 = .ok (.aload_n 0, 1) := by decide +kernel
theorem dL_south_2 : decode cL_south 2 = .ok (.iconst 1, 1) := by decide +kernel
theorem dL_south_3 : decode cL_south 3 = .ok (.iaload, 1) := by decide +kernel
theorem dL_south_4 : decode cL_south 4 = .ok (.idiv, 1) := by decide +kernel
theorem dL_south_5 : decode cL_south 5 = .ok (.iload_n 1, 1) := by decide +kernel
theorem dL_south_6 : decode cL_south 6 = .ok (.aload_n 0, 1) := by decide +kernel
theorem dL_south_7 : decode cL_south 7 = .ok (.iconst 1, 1) := by decide +kernel
theorem dL_south_8 : decode cL_south 8 = .ok (.iaload, 1) := by decide +kernel
theorem dL_south_9 : decode cL_south 9 = .ok (.idiv, 1) := by decide +kernel
theorem dL_south_10 : decode cL_south 10 = .ok (.iadd, 1) := by decide +kernel
theorem dL_south_11 : decode cL_south 11 = .ok (.iconst 1, 1) := by decide +kernel
theorem dL_south_12 : decode cL_south 12 = .ok (.iadd, 1) := by decide +kernel
theorem dL_south_13 : decode cL_south 13 = .ok (.aload_n 0, 1) := by decide +kernel
theorem dL_south_14 : decode cL_south 14 = .ok (.iconst 0, 1) := by decide +kernel
theorem dL_south_15 : decode cL_south 15 = .ok (.iaload, 1) := by decide +kernel
theorem dL_south_16 : decode cL_south 16 = .ok (.isub, 1) := by decide +kernel
theorem dL_south_17 : decode cL_south 17 = .ok (.ireturn, 1) := by decide +kernel
theorem dL_wet_0 : decode cL_wet 0 = .ok (.iconst 0, 1) := by decide +kernel
theorem dL_wet_1 : decode cL_wet 1 = .ok (.istore 4, 2) := by decide +kernel
theorem dL_wet_3 : decode cL_wet 3 = .ok (.iconst 0, 1) := by decide +kernel
theorem dL_wet_4 : decode cL_wet 4 = .ok (.istore 5, 2) := by decide +kernel
theorem dL_wet_6 : decode cL_wet 6 = .ok (.iload 5, 2) := by decide +kernel
theorem dL_wet_8 : decode cL_wet 8 = .ok (.aload_n 0, 1) := by decide +kernel
theorem dL_wet_9 : decode cL_wet 9 = .ok (.iconst 0, 1) := by decide +kernel
theorem dL_wet_10 : decode cL_wet 10 = .ok (.iaload, 1) := by decide +kernel
theorem dL_wet_11 : decode cL_wet 11 = .ok (.aload_n 0, 1) := by decide +kernel
theorem dL_wet_12 : decode cL_wet 12 = .ok (.iconst 1, 1) := by decide +kernel
theorem dL_wet_13 : decode cL_wet 13 = .ok (.iaload, 1) := by decide +kernel
theorem dL_wet_14 : decode cL_wet 14 = .ok (.imul, 1) := by decide +kernel
theorem dL_wet_15 : decode cL_wet 15 = .ok (.if_icmp .ge 60, 3) := by decide +kernel
theorem dL_wet_18 : decode cL_wet 18 = .ok (.iload_n 2, 1) := by decide +kernel
theorem dL_wet_19 : decode cL_wet 19 = .ok (.aload_n 0, 1) := by decide +kernel
theorem dL_wet_20 : decode cL_wet 20 = .ok (.iload 5, 2) := by decide +kernel
theorem dL_wet_22 : decode cL_wet 22 = .ok (.invokestatic 42, 3) := by decide +kernel
theorem dL_wet_25 : decode cL_wet 25 = .ok (.imul, 1) := by decide +kernel
theorem dL_wet_26 : decode cL_wet 26 = .ok (.iload_n 3, 1) := by decide +kernel
theorem dL_wet_27 : decode cL_wet 27 = .ok (.aload_n 0, 1) := by decide +kernel
theorem dL_wet_28 : decode cL_wet 28 = .ok (.iload 5, 2) := by decide +kernel
theorem dL_wet_30 : decode cL_wet 30 = .ok (.invokestatic 45, 3) := by decide +kernel
theorem dL_wet_33 : decode cL_wet 33 = .ok (.imul, 1) := by decide +kernel
theorem dL_wet_34 : decode cL_wet 34 = .ok (.iadd, 1) := by decide +kernel
theorem dL_wet_35 : decode cL_wet 35 = .ok (.istore 6, 2) := by decide +kernel
theorem dL_wet_37 : decode cL_wet 37 = .ok (.iload 4, 2) := by decide +kernel
theorem dL_wet_39 : decode cL_wet 39 = .ok (.aload_n 1, 1) := by decide +kernel
theorem dL_wet_40 : decode cL_wet 40 = .ok (.iload 5, 2) := by decide +kernel
theorem dL_wet_42 : decode cL_wet 42 = .ok (.iaload, 1) := by decide +kernel
theorem dL_wet_43 : decode cL_wet 43 = .ok (.ifCond .le 22, 3) := by decide +kernel
theorem dL_wet_46 : decode cL_wet 46 = .ok (.iload 6, 2) := by decide +kernel
theorem dL_wet_48 : decode cL_wet 48 = .ok (.bipush 50, 2) := by decide +kernel
theorem dL_wet_50 : decode cL_wet 50 = .ok (.aload_n 1, 1) := by decide +kernel
theorem dL_wet_51 : decode cL_wet 51 = .ok (.iload 5, 2) := by decide +kernel
theorem dL_wet_53 : decode cL_wet 53 = .ok (.iaload, 1) := by decide +kernel
theorem dL_wet_54 : decode cL_wet 54 = .ok (.imul, 1) := by decide +kernel
theorem dL_wet_55 : decode cL_wet 55 = .ok (.if_icmp .lt 10, 3) := by decide +kernel
theorem dL_wet_58 : decode cL_wet 58 = .ok (.iconst 1, 1) := by decide +kernel
theorem dL_wet_59 : decode cL_wet 59 = .ok (.iload 5, 2) := by decide +kernel
theorem dL_wet_61 : decode cL_wet 61 = .ok (.ishl, 1) := by decide +kernel
theorem dL_wet_62 : decode cL_wet 62 = .ok (.goto 4, 3) := by decide +kernel
theorem dL_wet_65 : decode cL_wet 65 = .ok (.iconst 0, 1) := by decide +kernel
theorem dL_wet_66 : decode cL_wet 66 = .ok (.ior, 1) := by decide +kernel
theorem dL_wet_67 : decode cL_wet 67 = .ok (.istore 4, 2) := by decide +kernel
theorem dL_wet_69 : decode cL_wet 69 = .ok (.iinc 5 1, 3) := by decide +kernel
theorem dL_wet_72 : decode cL_wet 72 = .ok (.goto (-66), 3) := by decide +kernel
theorem dL_wet_75 : decode cL_wet 75 = .ok (.iload 4, 2) := by decide +kernel
theorem dL_wet_77 : decode cL_wet 77 = .ok (.ireturn, 1) := by decide +kernel
theorem dL_wetAt_0 : decode cL_wetAt 0 = .ok (.iconst 0, 1) := by decide +kernel
theorem dL_wetAt_1 : decode cL_wetAt 1 = .ok (.istore 5, 2) := by decide +kernel
theorem dL_wetAt_3 : decode cL_wetAt 3 = .ok (.iconst 0, 1) := by decide +kernel
theorem dL_wetAt_4 : decode cL_wetAt 4 = .ok (.istore 6, 2) := by decide +kernel
theorem dL_wetAt_6 : decode cL_wetAt 6 = .ok (.iconst 0, 1) := by decide +kernel
theorem dL_wetAt_7 : decode cL_wetAt 7 = .ok (.istore 7, 2) := by decide +kernel
theorem dL_wetAt_9 : decode cL_wetAt 9 = .ok (.iload 7, 2) := by decide +kernel
theorem dL_wetAt_11 : decode cL_wetAt 11 = .ok (.iload_n 3, 1) := by decide +kernel
theorem dL_wetAt_12 : decode cL_wetAt 12 = .ok (.if_icmp .ge 51, 3) := by decide +kernel
theorem dL_wetAt_15 : decode cL_wetAt 15 = .ok (.iload 5, 2) := by decide +kernel
theorem dL_wetAt_17 : decode cL_wetAt 17 = .ok (.aload_n 2, 1) := by decide +kernel
theorem dL_wetAt_18 : decode cL_wetAt 18 = .ok (.iload 7, 2) := by decide +kernel
theorem dL_wetAt_20 : decode cL_wetAt 20 = .ok (.invokestatic 48, 3) := by decide +kernel
theorem dL_wetAt_23 : decode cL_wetAt 23 = .ok (.aload_n 0, 1) := by decide +kernel
theorem dL_wetAt_24 : decode cL_wetAt 24 = .ok (.aload 4, 2) := by decide +kernel
theorem dL_wetAt_26 : decode cL_wetAt 26 = .ok (.iload 7, 2) := by decide +kernel
theorem dL_wetAt_28 : decode cL_wetAt 28 = .ok (.iaload, 1) := by decide +kernel
theorem dL_wetAt_29 : decode cL_wetAt 29 = .ok (.invokestatic 42, 3) := by decide +kernel
theorem dL_wetAt_32 : decode cL_wetAt 32 = .ok (.imul, 1) := by decide +kernel
theorem dL_wetAt_33 : decode cL_wetAt 33 = .ok (.iadd, 1) := by decide +kernel
theorem dL_wetAt_34 : decode cL_wetAt 34 = .ok (.istore 5, 2) := by decide +kernel
theorem dL_wetAt_36 : decode cL_wetAt 36 = .ok (.iload 6, 2) := by decide +kernel
theorem dL_wetAt_38 : decode cL_wetAt 38 = .ok (.aload_n 2, 1) := by decide +kernel
theorem dL_wetAt_39 : decode cL_wetAt 39 = .ok (.iload 7, 2) := by decide +kernel
theorem dL_wetAt_41 : decode cL_wetAt 41 = .ok (.invokestatic 48, 3) := by decide +kernel
theorem dL_wetAt_44 : decode cL_wetAt 44 = .ok (.aload_n 0, 1) := by decide +kernel
theorem dL_wetAt_45 : decode cL_wetAt 45 = .ok (.aload 4, 2) := by decide +kernel
theorem dL_wetAt_47 : decode cL_wetAt 47 = .ok (.iload 7, 2) := by decide +kernel
theorem dL_wetAt_49 : decode cL_wetAt 49 = .ok (.iaload, 1) := by decide +kernel
theorem dL_wetAt_50 : decode cL_wetAt 50 = .ok (.invokestatic 45, 3) := by decide +kernel
theorem dL_wetAt_53 : decode cL_wetAt 53 = .ok (.imul, 1) := by decide +kernel
theorem dL_wetAt_54 : decode cL_wetAt 54 = .ok (.iadd, 1) := by decide +kernel
theorem dL_wetAt_55 : decode cL_wetAt 55 = .ok (.istore 6, 2) := by decide +kernel
theorem dL_wetAt_57 : decode cL_wetAt 57 = .ok (.iinc 7 1, 3) := by decide +kernel
theorem dL_wetAt_60 : decode cL_wetAt 60 = .ok (.goto (-51), 3) := by decide +kernel
theorem dL_wetAt_63 : decode cL_wetAt 63 = .ok (.aload_n 0, 1) := by decide +kernel
theorem dL_wetAt_64 : decode cL_wetAt 64 = .ok (.aload_n 1, 1) := by decide +kernel
theorem dL_wetAt_65 : decode cL_wetAt 65 = .ok (.iload 5, 2) := by decide +kernel
theorem dL_wetAt_67 : decode cL_wetAt 67 = .ok (.iload 6, 2) := by decide +kernel
theorem dL_wetAt_69 : decode cL_wetAt 69 = .ok (.invokestatic 51, 3) := by decide +kernel
theorem dL_wetAt_72 : decode cL_wetAt 72 = .ok (.ireturn, 1) := by decide +kernel
end
section
/-! THE ABSTRACT MACHINE: a memory of whole numbers by (cell, place), over cells of a fixed shape; refs are numbers of cells -/
abbrev zw_M : Type := (Nat → Nat → Int32) × (Nat → Nat → Int64)
abbrev zw_I : Type := MethodName × ByteArray × Nat × Option FieldType
abbrev zw_H : Type := (Nat × Nat) ⊕ (Nat × List (Option (Option Nat)))
abbrev zw_G : Type := va_G × (Nat → ClassId) × (Nat → Nat)
def zw_v (ad : Nat → Nat) (v : Value) : Value := match v with
  | .ref k => .ref (ad k)
  | w => w
theorem zw_v_cat (ad : Nat → Nat) (v : Value) : (zw_v ad v).category = v.category := by cases v <;> rfl
def zw_f (ad : Nat → Nat) (M : zw_M) (q k : Nat) (x : Option (Option Nat)) : Value := match x with
  | none => .int (M.1 q k)
  | some none => .long (M.2 q k)
  | some (some r) => .ref (ad r)
def zw_e (G : zw_G) (M : zw_M) (q : Nat) (h : zw_H) : va_E := match h with
  | .inl (t, n) => .inl (G.2.1 t, n, .inl (M.1 q))
  | .inr (ci, ks) => .inr (ci, ks.mapIdx (fun k x => zw_f G.2.2 M q k x))
def zs_S : List zw_H := [.inr (10, [some (some 1), some (some 3), some (some 4), some (some 8), some (some 13), some (some 16), some (some 19), some (some 24), some (some 27), some (some 31), none, none, none]), .inr (3, [some (some 2), none]), .inl (1, 40), .inr (4, [none, none, none]), .inr (1, [some (some 5), some (some 6), some (some 7), none, none, none, none]), .inl (0, 30), .inl (0, 30), .inl (0, 30), .inr (8, [some (some 9), some (some 10), some (some 11), some (some 12), none, none]), .inl (0, 8), .inl (0, 8), .inl (0, 64), .inl (0, 64), .inr (0, [some (some 4), some (some 8), some (some 14), some (some 15)]), .inl (0, 8), .inl (0, 8), .inr (5, [some (some 1), some (some 4), some (some 13), some (some 17), some (some 18), none, none]), .inl (0, 8), .inl (0, 8), .inr (9, [some (some 4), some (some 8), some (some 13), some (some 20), some (some 21), some (some 22), some (some 23), none, none, none, none]), .inl (0, 6), .inl (0, 6), .inl (0, 6), .inl (0, 6), .inr (7, [some (some 4), some (some 8), some (some 13), some (some 25), some (some 26), none]), .inl (0, 5), .inl (0, 30), .inr (2, [some (some 4), some (some 8), some (some 13), some (some 28), some (some 29), some (some 30)]), .inl (0, 3), .inl (0, 8), .inl (0, 8), .inr (6, [some (some 4), some (some 8), some (some 32), some none]), .inl (0, 8), .inl (0, 2), .inl (0, 30), .inl (0, 60), .inl (0, 8)]
def zs_cl : List vw_C := [(RX0, TX0, 4), (RX1, TX1, 7), (RX2, TX2, 6), (RX3, TX3, 2), (RX4, TX4, 3), (RX5, TX5, 7), (RX6, TX6, 4), (RX7, TX7, 6), (RX8, TX8, 6), (RX9, TX9, 11), (RX10, TX10, 13)]
def zs_nest : List (String × Nat × MethodName × String) := [(RX8, 56, yX10_isQuarter, "IslandThatLeans")]
def zw_W (G : zw_G) (M : zw_M) : va_W := zs_S.mapIdx (fun q h => (G.2.2 q, zw_e G M q h))
def zw_t (G : zw_G) : List (ClassId × FieldType) := [(G.2.1 0, .int), (G.2.1 1, .char)]
theorem zw_W_at {G : zw_G} {M : zw_M} {q : Nat} {h : zw_H} (e : zs_S[q]? = some h) : (zw_W G M)[q]? = some (G.2.2 q, zw_e G M q h) := by
  simp [zw_W, List.getElem?_mapIdx, e]
theorem zw_W_of {G : zw_G} {M : zw_M} {q : Nat} {z : Nat × va_E} (e : (zw_W G M)[q]? = some z) : q < zs_S.length ∧ z.1 = G.2.2 q := by
  rw [zw_W, List.getElem?_mapIdx] at e
  cases h : zs_S[q]? with
  | none => rw [h] at e; cases e
  | some w =>
    rw [h] at e
    cases e
    exact ⟨(List.getElem?_eq_some_iff.mp h).1, rfl⟩
/-- a number is written -/
def zw_s (M : zw_M) (q k : Nat) (x : Int32) : zw_M := (fun p j => if p = q ∧ j = k then x else M.1 p j, M.2)
def zw_sl (M : zw_M) (q k : Nat) (x : Int64) : zw_M := (M.1, fun p j => if p = q ∧ j = k then x else M.2 p j)
/-- a whole row is written -/
def zw_sr (M : zw_M) (q : Nat) (f : Nat → Int32) : zw_M := (fun p => if p = q then f else M.1 p, M.2)
theorem zw_e_row {G : zw_G} {M M' : zw_M} {q : Nat} {h : zw_H} (e1 : ∀ j, M'.1 q j = M.1 q j) (e2 : ∀ j, M'.2 q j = M.2 q j) : zw_e G M' q h = zw_e G M q h := by
  rcases h with ⟨t, n⟩ | ⟨ci, ks⟩
  · have : M'.1 q = M.1 q := funext e1
    simp only [zw_e, this]
  · simp only [zw_e]
    congr 2
    congr 1
    funext k x
    rcases x with _ | _ | r <;> simp [zw_f, e1, e2]
theorem zw_W_set {G : zw_G} {M M' : zw_M} {q : Nat} {h : zw_H} {e : va_E} (hs : zs_S[q]? = some h) (e1 : ∀ p j, p ≠ q → M'.1 p j = M.1 p j) (e2 : ∀ p j, p ≠ q → M'.2 p j = M.2 p j) (e3 : zw_e G M' q h = e) : (zw_W G M).set q (G.2.2 q, e) = zw_W G M' := by
  apply List.ext_getElem?
  intro j
  rw [List.getElem?_set]
  have hq : q < (zw_W G M).length := (List.getElem?_eq_some_iff.mp (zw_W_at hs)).1
  by_cases hj : q = j
  · subst hj
    rw [if_pos rfl, if_pos hq, zw_W_at hs, e3]
  · rw [if_neg hj]
    simp only [zw_W, List.getElem?_mapIdx]
    cases zs_S[j]? with
    | none => rfl
    | some w =>
      exact congrArg (fun z => some (G.2.2 j, z)) (zw_e_row (fun k => e1 j k (Ne.symm hj)) (fun k => e2 j k (Ne.symm hj))).symm
theorem zw_W_seta {G : zw_G} {M : zw_M} {q t n k : Nat} {x : Int32} (hs : zs_S[q]? = some (.inl (t, n))) : (zw_W G M).set q (G.2.2 q, .inl (G.2.1 t, n, .inl (upd (M.1 q) k x))) = zw_W G (zw_s M q k x) := by
  refine zw_W_set hs (fun p j hp => by simp [zw_s, hp]) (fun p j _ => rfl) ?_
  simp only [zw_e]
  congr 4
  funext j
  simp [zw_s, upd]
theorem zw_W_setr {G : zw_G} {M : zw_M} {q t n : Nat} {f : Nat → Int32} (hs : zs_S[q]? = some (.inl (t, n))) : (zw_W G M).set q (G.2.2 q, .inl (G.2.1 t, n, .inl f)) = zw_W G (zw_sr M q f) := by
  refine zw_W_set hs (fun p j hp => by simp [zw_sr, hp]) (fun p j _ => rfl) ?_
  simp [zw_e, zw_sr]
theorem zw_mi {ad : Nat → Nat} {M M' : zw_M} {q k : Nat} {ks : List (Option (Option Nat))} {v : Value} (hk : ∃ x, ks[k]? = some x ∧ zw_f ad M' q k x = v) (e : ∀ i x, ks[i]? = some x → i ≠ k → zw_f ad M' q i x = zw_f ad M q i x) : ks.mapIdx (fun k x => zw_f ad M' q k x) = (ks.mapIdx (fun k x => zw_f ad M q k x)).set k v := by
  apply List.ext_getElem?
  intro j
  obtain ⟨x, hx, hv⟩ := hk
  have hlt : k < (ks.mapIdx (fun k x => zw_f ad M q k x)).length := by simpa using (List.getElem?_eq_some_iff.mp hx).1
  rw [List.getElem?_set, List.getElem?_mapIdx]
  by_cases hj : k = j
  · subst hj
    rw [if_pos rfl, if_pos hlt, hx]
    simp [hv]
  · rw [if_neg hj, List.getElem?_mapIdx]
    cases h : ks[j]? with
    | none => rfl
    | some z => simp [e j z h (Ne.symm hj)]
theorem zw_W_seti {G : zw_G} {M : zw_M} {q ci k : Nat} {ks : List (Option (Option Nat))} {x : Int32} (hs : zs_S[q]? = some (.inr (ci, ks))) (hk : ks[k]? = some none) : (zw_W G M).set q (G.2.2 q, .inr (ci, (ks.mapIdx (fun k x => zw_f G.2.2 M q k x)).set k (.int x))) = zw_W G (zw_s M q k x) := by
  refine zw_W_set hs (fun p j hp => by simp [zw_s, hp]) (fun p j _ => rfl) ?_
  simp only [zw_e]
  congr 2
  refine zw_mi ⟨none, hk, by simp [zw_f, zw_s]⟩ (fun i z hz hi => ?_)
  rcases z with _ | _ | r <;> simp [zw_f, zw_s, hi]
theorem zw_W_setl {G : zw_G} {M : zw_M} {q ci k : Nat} {ks : List (Option (Option Nat))} {x : Int64} (hs : zs_S[q]? = some (.inr (ci, ks))) (hk : ks[k]? = some (some none)) : (zw_W G M).set q (G.2.2 q, .inr (ci, (ks.mapIdx (fun k x => zw_f G.2.2 M q k x)).set k (.long x))) = zw_W G (zw_sl M q k x) := by
  refine zw_W_set hs (fun p j _ => rfl) (fun p j hp => by simp [zw_sl, hp]) ?_
  simp only [zw_e]
  congr 2
  refine zw_mi ⟨some none, hk, by simp [zw_f, zw_sl]⟩ (fun i z hz hi => ?_)
  rcases z with _ | _ | r <;> simp [zw_f, zw_sl, hi]
/-- the cells' addresses are apart; what a method may change -/
def zw_D (G : zw_G) : Prop := (∀ i j, i < zs_S.length → j < zs_S.length → G.2.2 i = G.2.2 j → i = j) ∧ ∀ k, k < zs_S.length → G.2.2 k ≠ G.2.2 37
def zw_A (G : zw_G) (sz : Nat) : Nat → Prop := fun q => (∃ k, k < zs_S.length ∧ q = G.2.2 k) ∨ sz ≤ q
theorem zw_D_at {G : zw_G} {M : zw_M} {sz : Nat} (h : zw_D G) : va_D (zw_A G sz) (zw_W G M) := by
  refine ⟨fun i j p q hi hj e => ?_, fun k q hk => ?_⟩
  · obtain ⟨h1, h2⟩ := zw_W_of hi
    obtain ⟨h3, h4⟩ := zw_W_of hj
    exact h.1 i j h1 h3 (by rw [← h2, ← h4]; exact e)
  · obtain ⟨h1, h2⟩ := zw_W_of hk
    exact Or.inl ⟨k, h1, h2⟩
/-- the words of all -/
def zs_G : List Cond := lw_tbl.filter goodWord
def zw_ws (y : zw_I) : List Cond := .code y.1 y.2.1 y.2.2.1 y.2.2.2 :: zs_G
def zw_rm (d : Nat) : Room := { frames := d, cells := 0, slots := 0, locals := d * 40 }
/-- the launch, the script: how many ints, which -/
abbrev zw_Lh : Type := Launch × Nat × (Nat → Int32)
def zw_N (l : zw_Lh) (G : zw_G) (U : State) : Prop := (∀ q ∈ zs_nest, va_Nw (.methodLinkNest q.1 q.2.1 q.2.2.1 q.2.2.2) U) ∧ va_X (G.2.2 37) l.2.1 l.2.2 U U.heap ∧ G.2.2 37 < U.heap.size
def zw_in (ws : List Cond) : Prop := ∀ w ∈ ws, w ∈ zs_G
theorem zw_in_p {ws : List Cond} (ps : List Nat) (h : ws.map some = ps.map (fun i => lw_tbl[i]?)) (hg : ws.all goodWord = true) : zw_in ws := by
  intro w hw
  have h1 := List.all_eq_true.mp hg w hw
  obtain ⟨k, hk⟩ := List.getElem?_of_mem hw
  have h2 : (ws.map some)[k]? = some (some w) := by rw [List.getElem?_map, hk]; rfl
  rw [h, List.getElem?_map] at h2
  cases hi : ps[k]? with
  | none => rw [hi] at h2; cases h2
  | some i =>
    rw [hi] at h2
    exact List.mem_filter.mpr ⟨List.mem_of_getElem? (Option.some.inj h2), h1⟩
theorem zw_good {ws : List Cond} (h : zw_in ws) {big : List Cond} (hb : ∀ w ∈ zs_G, w ∈ big) : GoodIn big ws := fun w hw =>
  ⟨hb w (h w hw), good_of_word (List.mem_filter.mp (h w hw)).2⟩
/-- what a method's end is -/
def zw_Q (G : zw_G) (A : Nat → Prop) (Q : Option Value → zw_M → Prop) : Array Value → State → Outcome → State → Prop := fun _ st oc t =>
  (∃ (v : Option Value) (M : zw_M), oc = .returned (v.map (zw_v G.2.2)) ∧ Q v M ∧ va_P G.1 zs_cl (zw_W G M) t.heap) ∧ va_F A st t
/-- A METHOD'S CONTRACT: at the arguments vs, the memory M, with d frames of room: it returns, with an answer and a memory that Q says -/
def zw_C (l : zw_Lh) (d : Nat) (y : zw_I) (vs : List Value) (M : zw_M) (Q : Option Value → zw_M → Prop) : Prop :=
  ∀ (G : zw_G) (sz : Nat), zw_D G → Met l.1 y.1 (zw_ws y) (zw_rm d) (va_Pc (vs.map (zw_v G.2.2)) (fun U => U.heap.size = sz ∧ va_P G.1 zs_cl (zw_W G M) U.heap ∧ va_K G.1 zs_cl (zw_t G) U ∧ zw_N l G U)) (zw_Q G (zw_A G sz) Q) 0 0 (zw_A G sz)
/-- the locals -/
def zw_L (ad : Nat → Nat) (ls : Array Slot) (nL : Nat) (L : List Value) : Prop := L.length = nL ∧ ls.size = nL ∧ lv_wf ls ∧ ∀ (i : Nat) (v : Value), L[i]? = some v → v ≠ .retAddr 0 → ls[i]? = some (.val (zw_v ad v))
/-- the machine around a method's body -/
def zw_K (l : zw_Lh) (p : Program) (s : State) (m : MethodId) (args : Array Value) (meth : Method) (c : Code) (y : zw_I) (G : zw_G) : Prop :=
  p.tables.exec = Jvm.exec ∧ c.code = y.2.1 ∧ meth.sig.returnType = y.2.2.2 ∧ c.maxLocals = y.2.2.1 ∧ s.vm.findClass y.1.cls = some m.cls ∧ (∀ w ∈ zs_G, w.before args s = true) ∧ meth.locks = false ∧ va_K G.1 zs_cl (zw_t G) s ∧ zw_D G ∧ zw_N l G s
/-- the room around a body, and what its end is to give -/
def zw_E (d : Nat) (R : Room) (cells slots : Nat) (below : List Frame) (G : zw_G) (Q : Option Value → zw_M → Prop) (args : Array Value) (s : State) (Z : State → Prop) : Prop :=
  (d ≤ R.frames ∧ d * 40 ≤ R.locals ∧ cells ≤ R.cells ∧ slots ≤ R.slots) ∧ ∀ t, MQ below (zw_Q G (zw_A G s.heap.size) Q) args s cells slots (zw_A G s.heap.size) t → Z t
theorem zw_Zi {p : Program} {l : Launch} {e : Env} {R : Room} {s : State} {m : MethodId} {args : Array Value} {below : List Frame} {meth : Method} {c : Code} {H : Heap} {locs : List Loc} {cells slots : Nat} {Q Z : State → Prop} {g : JFrame} (h : ∀ t, Q t → Z t) (k : W p l e R s m args below meth c H locs cells slots Q g) : W p l e R s m args below meth c H locs cells slots Z g := fun T hT X => by
  obtain ⟨t, a, b⟩ := k T hT X
  exact ⟨t, a, h t b⟩
/-- A POINT IN A METHOD'S BODY from which it comes to an end that Q says -/
def zw_X (l : zw_Lh) (d : Nat) (y : zw_I) (Q : Option Value → zw_M → Prop) (pc : Nat) (L st : List Value) (M : zw_M) : Prop :=
  ∀ (p : Program) (e : Env) (s : State) (m : MethodId) (args : Array Value) (below : List Frame) (meth : Method) (c : Code) (H : Heap) (locs : List Loc) (ls : Array Slot) (G : zw_G) (R : Room) (cells slots : Nat) (Z : State → Prop),
    zw_K l p s m args meth c y G → zw_E d R cells slots below G Q args s Z → va_P G.1 zs_cl (zw_W G M) H → va_S (zw_A G s.heap.size) s.heap H locs → zw_L G.2.2 ls y.2.2.1 L →
    W p l.1 e R s m args below meth c H locs cells slots Z (F0 m pc ls (st.map (zw_v G.2.2)))
/-- the locals as the kit has them -/
def zw_lv (ad : Nat → Nat) (L : List Value) : List (Nat × Value) := (List.range L.length).filterMap (fun i => match L[i]? with
  | some v => if v = .retAddr 0 then none else some (i, zw_v ad v)
  | none => none)
theorem zw_lv_mem {ad : Nat → Nat} {L : List Value} {q : Nat × Value} : q ∈ zw_lv ad L ↔ ∃ v, L[q.1]? = some v ∧ v ≠ .retAddr 0 ∧ q.2 = zw_v ad v := by
  constructor
  · intro h
    obtain ⟨i, hi, he⟩ := List.mem_filterMap.mp h
    cases hv : L[i]? with
    | none => rw [hv] at he; cases he
    | some v =>
      rw [hv] at he
      dsimp only at he
      split at he
      · cases he
      · next hn =>
        cases he
        exact ⟨v, hv, hn, rfl⟩
  · rintro ⟨v, h1, h2, h3⟩
    refine List.mem_filterMap.mpr ⟨q.1, List.mem_range.mpr (List.getElem?_eq_some_iff.mp h1).1, ?_⟩
    rw [h1]
    dsimp only
    rw [if_neg h2, ← h3]
theorem zw_L_has {ad : Nat → Nat} {ls : Array Slot} {nL : Nat} {L : List Value} (h : zw_L ad ls nL L) : lv_has ls nL (zw_lv ad L) := by
  refine ⟨h.2.1, h.2.2.1, fun q hq => ?_⟩
  obtain ⟨v, h1, h2, h3⟩ := zw_lv_mem.mp hq
  rw [h3]
  exact h.2.2.2 q.1 v h1 h2
/-- the place ahead holds no long -/
def zw_ok (L : List Value) (i : Nat) : Bool := match i with
  | 0 => true
  | j + 1 => match L[j]? with
    | some v => decide (v.category = 1)
    | none => true
theorem zw_L_st1 {ad : Nat → Nat} {ls' : Array Slot} {nL i : Nat} {L : List Value} {v : Value} (hlen : L.length = nL) (ho : zw_ok L i = true)
    (h : lv_has ls' nL ((i, zw_v ad v) :: (zw_lv ad L).filter (fun q => !(q.1 == i) && !(q.1 + 1 == i && q.2.category == 2)))) : zw_L ad ls' nL (L.set i v) := by
  refine ⟨by simp [hlen], h.1, h.2.1, fun j w hj hw => ?_⟩
  by_cases hji : i = j
  · subst hji
    rw [List.getElem?_set] at hj
    rw [if_pos rfl] at hj
    split at hj
    · cases hj
      exact h.2.2 (i, zw_v ad v) List.mem_cons_self
    · cases hj
  · rw [List.getElem?_set, if_neg hji] at hj
    refine h.2.2 (j, zw_v ad w) (List.mem_cons_of_mem _ (List.mem_filter.mpr ⟨zw_lv_mem.mpr ⟨w, hj, hw, rfl⟩, ?_⟩))
    have n1 : (j == i) = false := by simpa using Ne.symm hji
    have n2 : (j + 1 == i && (zw_v ad w).category == 2) = false := by
      by_cases q : j + 1 = i
      · subst q
        simp only [zw_ok, hj, decide_eq_true_eq] at ho
        rw [zw_v_cat, ho]
        simp
      · simp [q]
    show (!(j == i) && !(j + 1 == i && (zw_v ad w).category == 2)) = true
    rw [n1, n2]
    rfl
theorem zw_L_st2 {ad : Nat → Nat} {ls' : Array Slot} {nL i : Nat} {L : List Value} {v : Value} (hlen : L.length = nL) (ho : zw_ok L i = true)
    (h : lv_has ls' nL ((i, zw_v ad v) :: (zw_lv ad L).filter (fun q => !(q.1 == i) && (!(q.1 == i + 1) && !(q.1 + 1 == i && q.2.category == 2))))) : zw_L ad ls' nL ((L.set i v).set (i + 1) (.retAddr 0)) := by
  refine ⟨by simp [hlen], h.1, h.2.1, fun j w hj hw => ?_⟩
  by_cases hj1 : i + 1 = j
  · rw [List.getElem?_set, if_pos hj1] at hj
    split at hj
    · cases hj
      exact absurd rfl hw
    · cases hj
  · rw [List.getElem?_set, if_neg hj1] at hj
    by_cases hji : i = j
    · subst hji
      rw [List.getElem?_set] at hj
      rw [if_pos rfl] at hj
      split at hj
      · cases hj
        exact h.2.2 (i, zw_v ad v) List.mem_cons_self
      · cases hj
    · rw [List.getElem?_set, if_neg hji] at hj
      refine h.2.2 (j, zw_v ad w) (List.mem_cons_of_mem _ (List.mem_filter.mpr ⟨zw_lv_mem.mpr ⟨w, hj, hw, rfl⟩, ?_⟩))
      have n1 : (j == i) = false := by simpa using Ne.symm hji
      have n3 : (j == i + 1) = false := by simpa using Ne.symm hj1
      have n2 : (j + 1 == i && (zw_v ad w).category == 2) = false := by
        by_cases q : j + 1 = i
        · subst q
          simp only [zw_ok, hj, decide_eq_true_eq] at ho
          rw [zw_v_cat, ho]
          simp
        · simp [q]
      show (!(j == i) && (!(j == i + 1) && !(j + 1 == i && (zw_v ad w).category == 2))) = true
      rw [n1, n2, n3]
      rfl
/-- the locals with which a method begins -/
def zw_ex : List Value → List Value
  | [] => []
  | v :: r => if v.category = 2 then v :: .retAddr 0 :: zw_ex r else v :: zw_ex r
def zw_en (vs : List Value) (n : Nat) : List Value := zw_ex vs ++ List.replicate (n - (zw_ex vs).length) (.retAddr 0)
theorem zw_ex_args (ad : Nat → Nat) : ∀ (vs : List Value) (o i : Nat) (v : Value), (zw_ex vs)[i]? = some v → v ≠ .retAddr 0 → (o + i, zw_v ad v) ∈ lv_args o (vs.map (zw_v ad))
  | [], o, i, v, h, _ => by simp [zw_ex] at h
  | w :: r, o, i, v, h, hv => by
    rw [zw_ex] at h
    rw [List.map_cons, lv_args, zw_v_cat]
    by_cases hc : w.category = 2
    · rw [if_pos hc] at h ⊢
      match i, h with
      | 0, h => cases h; exact List.mem_cons_self
      | 1, h => cases h; exact absurd rfl hv
      | j + 2, h =>
        have := zw_ex_args ad r (o + 2) j v (by simpa using h) hv
        rw [show o + (j + 2) = o + 2 + j by omega]
        exact List.mem_cons_of_mem _ this
    · rw [if_neg hc] at h ⊢
      match i, h with
      | 0, h => cases h; exact List.mem_cons_self
      | j + 1, h =>
        have := zw_ex_args ad r (o + 1) j v (by simpa using h) hv
        rw [show o + (j + 1) = o + 1 + j by omega]
        exact List.mem_cons_of_mem _ this
theorem zw_ex_len (ad : Nat → Nat) : ∀ vs : List Value, (lg_sl (vs.map (zw_v ad))).length = (zw_ex vs).length
  | [] => rfl
  | w :: r => by
    have ih := zw_ex_len ad r
    rw [zw_ex, List.map_cons]
    simp only [lg_sl, List.flatMap_cons, List.length_append, zw_v_cat] at ih ⊢
    by_cases hc : w.category = 2
    · rw [if_pos hc, if_pos hc, ih]
      simp; omega
    · rw [if_neg hc, if_neg hc, ih]
      simp; omega
theorem zw_entry {ad : Nat → Nat} {vs : List Value} {n : Nat} (h : (zw_ex vs).length ≤ n) : zw_L ad ((lg_sl (vs.map (zw_v ad)) ++ List.replicate (n - (lg_sl (vs.map (zw_v ad))).length) Slot.unset).toArray) n (zw_en vs n) := by
  have hl := lv_entry (vs.map (zw_v ad)) (n := n) (by rw [zw_ex_len]; exact h)
  refine ⟨by simp [zw_en]; omega, hl.1, hl.2.1, fun i v hi hv => ?_⟩
  rw [zw_en] at hi
  by_cases hlt : i < (zw_ex vs).length
  · rw [List.getElem?_append_left hlt] at hi
    have := zw_ex_args ad vs 0 i v hi hv
    rw [Nat.zero_add] at this
    exact hl.2.2 _ this
  · rw [List.getElem?_append_right (by omega)] at hi
    exact absurd (List.eq_of_mem_replicate (List.mem_of_getElem? hi)) hv
/-- a contract out of a walk of the body -/
theorem zw_of {l : zw_Lh} {d : Nat} {y : zw_I} {vs : List Value} {M : zw_M} {Q : Option Value → zw_M → Prop} (hy : plainName y.1.cls = true) (hn : (zw_ex vs).length ≤ y.2.2.1) (k : zw_X l d y Q 0 (zw_en vs y.2.2.1) [] M) : zw_C l d y vs M Q := by
  intro G sz hD
  refine Met.ofW (cc := y.2.1) (maxL := y.2.2.1) (ret := y.2.2.2) hy rfl ?_
  intro p e s m args below meth c s₁ B hml hv
  obtain ⟨rfl, hsz, hP, hK, hN⟩ := hv
  have hts := atoms_spec (ws := zw_ws y) B.pre
  have hown : s.vm.findClass y.1.cls = some m.cls := findClass_of_methodNamed B.named
  subst hsz
  rw [lg_entry_eq]
  exact k p e s m _ below meth c s.heap [] _ G (zw_rm d) 0 0 _ ⟨B.exec, B.bytes, B.returns, hml, hown, fun w h => hts w (List.mem_cons_of_mem _ h), B.notSynchronized, hK, hD, hN⟩ ⟨⟨Nat.le_refl _, Nat.le_refl _, Nat.le_refl _, Nat.le_refl _⟩, fun _ h => h⟩ hP va_S.rf (zw_entry hn)

theorem zw_Xb {l : zw_Lh} {G : zw_G} {s : State} (hD : zw_D G) (hN : zw_N l G s) : ¬ zw_A G s.heap.size (G.2.2 37) := fun h => by
  rcases h with ⟨k, h1, h2⟩ | h
  · exact hD.2 k h1 h2.symm
  · exact absurd hN.2.2 (Nat.not_lt.mpr h)
theorem zx_iconst {l : zw_Lh} {d : Nat} {y : zw_I} {Q : Option Value → zw_M → Prop} {pc : Nat} {L st : List Value} {M : zw_M} {n : Int} {v : Int32} (hd : decode y.2.1 pc = .ok (.iconst n, 1)) (hv : Int32.ofInt n = v) (k : zw_X l d y Q (pc + 1) L (.int v :: st) M) : zw_X l d y Q pc L st M := by
  intro p e s m args below meth c H locs ls G R cells slots Z hK hE hP hS hL
  exact lv_iconst hK.1 hK.2.1 hd hv (k p e s m args below meth c H locs ls G R cells slots Z hK hE hP hS hL)
theorem zx_bipush {l : zw_Lh} {d : Nat} {y : zw_I} {Q : Option Value → zw_M → Prop} {pc : Nat} {L st : List Value} {M : zw_M} {n : Int} {v : Int32} (hd : decode y.2.1 pc = .ok (.bipush n, 2)) (hv : (Int8.ofInt n).toInt32 = v) (k : zw_X l d y Q (pc + 2) L (.int v :: st) M) : zw_X l d y Q pc L st M := by
  intro p e s m args below meth c H locs ls G R cells slots Z hK hE hP hS hL
  exact lv_bipush hK.1 hK.2.1 hd hv (k p e s m args below meth c H locs ls G R cells slots Z hK hE hP hS hL)
theorem zx_sipush {l : zw_Lh} {d : Nat} {y : zw_I} {Q : Option Value → zw_M → Prop} {pc : Nat} {L st : List Value} {M : zw_M} {n : Int} {v : Int32} (hd : decode y.2.1 pc = .ok (.sipush n, 3)) (hv : (Int16.ofInt n).toInt32 = v) (k : zw_X l d y Q (pc + 3) L (.int v :: st) M) : zw_X l d y Q pc L st M := by
  intro p e s m args below meth c H locs ls G R cells slots Z hK hE hP hS hL
  exact lv_sipush hK.1 hK.2.1 hd hv (k p e s m args below meth c H locs ls G R cells slots Z hK hE hP hS hL)
theorem zx_lconst {l : zw_Lh} {d : Nat} {y : zw_I} {Q : Option Value → zw_M → Prop} {pc : Nat} {L st : List Value} {M : zw_M} {n : Fin 2} {v : Int64} (hd : decode y.2.1 pc = .ok (.lconst n, 1)) (hv : Int64.ofNat (n : Nat) = v) (k : zw_X l d y Q (pc + 1) L (.long v :: st) M) : zw_X l d y Q pc L st M := by
  intro p e s m args below meth c H locs ls G R cells slots Z hK hE hP hS hL
  exact lv_lconst hK.1 hK.2.1 hd hv (k p e s m args below meth c H locs ls G R cells slots Z hK hE hP hS hL)
theorem zx_ldc {l : zw_Lh} {d : Nat} {y : zw_I} {Q : Option Value → zw_M → Prop} {pc : Nat} {L st : List Value} {M : zw_M} {i : Nat} {v : Int32} (hd : decode y.2.1 pc = .ok (.ldc i, 2)) (hw : Cond.constant y.1.cls i v ∈ zs_G) (k : zw_X l d y Q (pc + 2) L (.int v :: st) M) : zw_X l d y Q pc L st M := by
  intro p e s m args below meth c H locs ls G R cells slots Z hK hE hP hS hL
  exact lv_ldc hK.1 hK.2.1 hK.2.2.2.2.1 (hK.2.2.2.2.2.1 _ hw) hd (k p e s m args below meth c H locs ls G R cells slots Z hK hE hP hS hL)
theorem zx_ldcw {l : zw_Lh} {d : Nat} {y : zw_I} {Q : Option Value → zw_M → Prop} {pc : Nat} {L st : List Value} {M : zw_M} {i : Nat} {v : Int32} (hd : decode y.2.1 pc = .ok (.ldc_w i, 3)) (hw : Cond.constant y.1.cls i v ∈ zs_G) (k : zw_X l d y Q (pc + 3) L (.int v :: st) M) : zw_X l d y Q pc L st M := by
  intro p e s m args below meth c H locs ls G R cells slots Z hK hE hP hS hL
  exact lv_ldcw hK.1 hK.2.1 hK.2.2.2.2.1 (hK.2.2.2.2.2.1 _ hw) hd (k p e s m args below meth c H locs ls G R cells slots Z hK hE hP hS hL)
theorem zx_ldc2 {l : zw_Lh} {d : Nat} {y : zw_I} {Q : Option Value → zw_M → Prop} {pc : Nat} {L st : List Value} {M : zw_M} {i : Nat} {v : Int64} (hd : decode y.2.1 pc = .ok (.ldc2_w i, 3)) (hw : Cond.constantLong y.1.cls i v ∈ zs_G) (k : zw_X l d y Q (pc + 3) L (.long v :: st) M) : zw_X l d y Q pc L st M := by
  intro p e s m args below meth c H locs ls G R cells slots Z hK hE hP hS hL
  exact lv_ldc2 hK.1 hK.2.1 hK.2.2.2.2.1 (hK.2.2.2.2.2.1 _ hw) hd (k p e s m args below meth c H locs ls G R cells slots Z hK hE hP hS hL)
theorem zx_iload_n {l : zw_Lh} {d : Nat} {y : zw_I} {Q : Option Value → zw_M → Prop} {pc : Nat} {L st : List Value} {M : zw_M} {i : Fin 4} {x : Int32} (hd : decode y.2.1 pc = .ok (.iload_n i, 1)) (hl : L[(i : Nat)]? = some (.int x)) (k : zw_X l d y Q (pc + 1) L (.int x :: st) M) : zw_X l d y Q pc L st M := by
  intro p e s m args below meth c H locs ls G R cells slots Z hK hE hP hS hL
  exact lv_iload_n hK.1 hK.2.1 hd rfl (hL.2.2.2 _ _ hl (fun h => by cases h)) (k p e s m args below meth c H locs ls G R cells slots Z hK hE hP hS hL)
theorem zx_iload {l : zw_Lh} {d : Nat} {y : zw_I} {Q : Option Value → zw_M → Prop} {pc : Nat} {L st : List Value} {M : zw_M} {i : Nat} {x : Int32} (hd : decode y.2.1 pc = .ok (.iload i, 2)) (hl : L[i]? = some (.int x)) (k : zw_X l d y Q (pc + 2) L (.int x :: st) M) : zw_X l d y Q pc L st M := by
  intro p e s m args below meth c H locs ls G R cells slots Z hK hE hP hS hL
  exact lv_iload hK.1 hK.2.1 hd (hL.2.2.2 _ _ hl (fun h => by cases h)) (k p e s m args below meth c H locs ls G R cells slots Z hK hE hP hS hL)
theorem zx_lload_n {l : zw_Lh} {d : Nat} {y : zw_I} {Q : Option Value → zw_M → Prop} {pc : Nat} {L st : List Value} {M : zw_M} {i : Fin 4} {x : Int64} (hd : decode y.2.1 pc = .ok (.lload_n i, 1)) (hl : L[(i : Nat)]? = some (.long x)) (k : zw_X l d y Q (pc + 1) L (.long x :: st) M) : zw_X l d y Q pc L st M := by
  intro p e s m args below meth c H locs ls G R cells slots Z hK hE hP hS hL
  exact lv_lload_n hK.1 hK.2.1 hd rfl (hL.2.2.2 _ _ hl (fun h => by cases h)) (k p e s m args below meth c H locs ls G R cells slots Z hK hE hP hS hL)
theorem zx_lload {l : zw_Lh} {d : Nat} {y : zw_I} {Q : Option Value → zw_M → Prop} {pc : Nat} {L st : List Value} {M : zw_M} {i : Nat} {x : Int64} (hd : decode y.2.1 pc = .ok (.lload i, 2)) (hl : L[i]? = some (.long x)) (k : zw_X l d y Q (pc + 2) L (.long x :: st) M) : zw_X l d y Q pc L st M := by
  intro p e s m args below meth c H locs ls G R cells slots Z hK hE hP hS hL
  exact lv_lload hK.1 hK.2.1 hd (hL.2.2.2 _ _ hl (fun h => by cases h)) (k p e s m args below meth c H locs ls G R cells slots Z hK hE hP hS hL)
theorem zx_aload_n {l : zw_Lh} {d : Nat} {y : zw_I} {Q : Option Value → zw_M → Prop} {pc : Nat} {L st : List Value} {M : zw_M} {i : Fin 4} {x : Nat} (hd : decode y.2.1 pc = .ok (.aload_n i, 1)) (hl : L[(i : Nat)]? = some (.ref x)) (k : zw_X l d y Q (pc + 1) L (.ref x :: st) M) : zw_X l d y Q pc L st M := by
  intro p e s m args below meth c H locs ls G R cells slots Z hK hE hP hS hL
  exact lv_aload_n hK.1 hK.2.1 hd rfl (hL.2.2.2 _ _ hl (fun h => by cases h)) (k p e s m args below meth c H locs ls G R cells slots Z hK hE hP hS hL)
theorem zx_aload {l : zw_Lh} {d : Nat} {y : zw_I} {Q : Option Value → zw_M → Prop} {pc : Nat} {L st : List Value} {M : zw_M} {i : Nat} {x : Nat} (hd : decode y.2.1 pc = .ok (.aload i, 2)) (hl : L[i]? = some (.ref x)) (k : zw_X l d y Q (pc + 2) L (.ref x :: st) M) : zw_X l d y Q pc L st M := by
  intro p e s m args below meth c H locs ls G R cells slots Z hK hE hP hS hL
  exact lv_aload hK.1 hK.2.1 hd (hL.2.2.2 _ _ hl (fun h => by cases h)) (k p e s m args below meth c H locs ls G R cells slots Z hK hE hP hS hL)
theorem zx_istore_n {l : zw_Lh} {d : Nat} {y : zw_I} {Q : Option Value → zw_M → Prop} {pc : Nat} {L st : List Value} {M : zw_M} {i : Fin 4} {x : Int32} (hd : decode y.2.1 pc = .ok (.istore_n i, 1)) (ho : zw_ok L (i : Nat) = true) (hi : (i : Nat) < L.length) (k : zw_X l d y Q (pc + 1) (L.set (i : Nat) (.int x)) st M) : zw_X l d y Q pc L (.int x :: st) M := by
  intro p e s m args below meth c H locs ls G R cells slots Z hK hE hP hS hL
  exact lv_istore_n hK.1 hK.2.1 hd rfl (zw_L_has hL) (by rw [← hL.1]; exact hi) rfl (fun ls1 h1 => k p e s m args below meth c H locs ls1 G R cells slots Z hK hE hP hS (zw_L_st1 (v := .int x) hL.1 ho h1))
theorem zx_istore {l : zw_Lh} {d : Nat} {y : zw_I} {Q : Option Value → zw_M → Prop} {pc : Nat} {L st : List Value} {M : zw_M} {i : Nat} {x : Int32} (hd : decode y.2.1 pc = .ok (.istore i, 2)) (ho : zw_ok L i = true) (hi : i < L.length) (k : zw_X l d y Q (pc + 2) (L.set i (.int x)) st M) : zw_X l d y Q pc L (.int x :: st) M := by
  intro p e s m args below meth c H locs ls G R cells slots Z hK hE hP hS hL
  exact lv_istore hK.1 hK.2.1 hd (zw_L_has hL) (by rw [← hL.1]; exact hi) rfl (fun ls1 h1 => k p e s m args below meth c H locs ls1 G R cells slots Z hK hE hP hS (zw_L_st1 (v := .int x) hL.1 ho h1))
theorem zx_astore_n {l : zw_Lh} {d : Nat} {y : zw_I} {Q : Option Value → zw_M → Prop} {pc : Nat} {L st : List Value} {M : zw_M} {i : Fin 4} {x : Nat} (hd : decode y.2.1 pc = .ok (.astore_n i, 1)) (ho : zw_ok L (i : Nat) = true) (hi : (i : Nat) < L.length) (k : zw_X l d y Q (pc + 1) (L.set (i : Nat) (.ref x)) st M) : zw_X l d y Q pc L (.ref x :: st) M := by
  intro p e s m args below meth c H locs ls G R cells slots Z hK hE hP hS hL
  exact lv_astore_n hK.1 hK.2.1 hd rfl (zw_L_has hL) (by rw [← hL.1]; exact hi) rfl (fun ls1 h1 => k p e s m args below meth c H locs ls1 G R cells slots Z hK hE hP hS (zw_L_st1 (v := .ref x) hL.1 ho h1))
theorem zx_astore {l : zw_Lh} {d : Nat} {y : zw_I} {Q : Option Value → zw_M → Prop} {pc : Nat} {L st : List Value} {M : zw_M} {i : Nat} {x : Nat} (hd : decode y.2.1 pc = .ok (.astore i, 2)) (ho : zw_ok L i = true) (hi : i < L.length) (k : zw_X l d y Q (pc + 2) (L.set i (.ref x)) st M) : zw_X l d y Q pc L (.ref x :: st) M := by
  intro p e s m args below meth c H locs ls G R cells slots Z hK hE hP hS hL
  exact lv_astore hK.1 hK.2.1 hd (zw_L_has hL) (by rw [← hL.1]; exact hi) rfl (fun ls1 h1 => k p e s m args below meth c H locs ls1 G R cells slots Z hK hE hP hS (zw_L_st1 (v := .ref x) hL.1 ho h1))
theorem zx_lstore_n {l : zw_Lh} {d : Nat} {y : zw_I} {Q : Option Value → zw_M → Prop} {pc : Nat} {L st : List Value} {M : zw_M} {i : Fin 4} {x : Int64} (hd : decode y.2.1 pc = .ok (.lstore_n i, 1)) (ho : zw_ok L (i : Nat) = true) (hi : (i : Nat) + 1 < L.length) (k : zw_X l d y Q (pc + 1) ((L.set (i : Nat) (.long x)).set ((i : Nat) + 1) (.retAddr 0)) st M) : zw_X l d y Q pc L (.long x :: st) M := by
  intro p e s m args below meth c H locs ls G R cells slots Z hK hE hP hS hL
  exact lv_lstore_n hK.1 hK.2.1 hd rfl (zw_L_has hL) (by rw [← hL.1]; exact hi) rfl (fun ls1 h1 => k p e s m args below meth c H locs ls1 G R cells slots Z hK hE hP hS (zw_L_st2 (v := .long x) hL.1 ho h1))
theorem zx_lstore {l : zw_Lh} {d : Nat} {y : zw_I} {Q : Option Value → zw_M → Prop} {pc : Nat} {L st : List Value} {M : zw_M} {i : Nat} {x : Int64} (hd : decode y.2.1 pc = .ok (.lstore i, 2)) (ho : zw_ok L i = true) (hi : i + 1 < L.length) (k : zw_X l d y Q (pc + 2) ((L.set i (.long x)).set (i + 1) (.retAddr 0)) st M) : zw_X l d y Q pc L (.long x :: st) M := by
  intro p e s m args below meth c H locs ls G R cells slots Z hK hE hP hS hL
  exact lv_lstore hK.1 hK.2.1 hd (zw_L_has hL) (by rw [← hL.1]; exact hi) rfl (fun ls1 h1 => k p e s m args below meth c H locs ls1 G R cells slots Z hK hE hP hS (zw_L_st2 (v := .long x) hL.1 ho h1))
theorem zw_lv_at {ad : Nat → Nat} {L : List Value} {i : Nat} {x : Int32} (h : L[i]? = some (.int x)) : ∃ k : Nat, (zw_lv ad L)[k]? = some (i, .int x) := by
  have : (i, Value.int x) ∈ zw_lv ad L := zw_lv_mem.mpr ⟨.int x, h, (fun q => by cases q), rfl⟩
  obtain ⟨k, hk⟩ := List.getElem?_of_mem this
  exact ⟨k, hk⟩
theorem zx_iinc {l : zw_Lh} {d : Nat} {y : zw_I} {Q : Option Value → zw_M → Prop} {pc : Nat} {L st : List Value} {M : zw_M} {i : Nat} {n : Int} {x v : Int32} (hd : decode y.2.1 pc = .ok (.iinc i n, 3)) (hl : L[i]? = some (.int x)) (hv : Int32.ofInt n = v) (ho : zw_ok L i = true) (k : zw_X l d y Q (pc + 3) (L.set i (.int (x + v))) st M) : zw_X l d y Q pc L st M := by
  intro p e s m args below meth c H locs ls G R cells slots Z hK hE hP hS hL
  obtain ⟨k0, hk0⟩ := zw_lv_at (ad := G.2.2) hl
  subst hv
  exact lv_iinc hK.1 hK.2.1 hd (zw_L_has hL) hk0 rfl (by rw [← hL.1]; exact (List.getElem?_eq_some_iff.mp hl).1) rfl (fun ls1 h1 => k p e s m args below meth c H locs ls1 G R cells slots Z hK hE hP hS (zw_L_st1 (v := .int (x + Int32.ofInt n)) hL.1 ho h1))
theorem zx_iadd {l : zw_Lh} {d : Nat} {y : zw_I} {Q : Option Value → zw_M → Prop} {pc : Nat} {L st : List Value} {M : zw_M} {a b : Int32} (hd : decode y.2.1 pc = .ok (.iadd, 1)) (k : zw_X l d y Q (pc + 1) L (.int (a + b) :: st) M) : zw_X l d y Q pc L (.int b :: .int a :: st) M := by
  intro p e s m args below meth c H locs ls G R cells slots Z hK hE hP hS hL
  exact lv_iadd hK.1 hK.2.1 hd (k p e s m args below meth c H locs ls G R cells slots Z hK hE hP hS hL)
theorem zx_isub {l : zw_Lh} {d : Nat} {y : zw_I} {Q : Option Value → zw_M → Prop} {pc : Nat} {L st : List Value} {M : zw_M} {a b : Int32} (hd : decode y.2.1 pc = .ok (.isub, 1)) (k : zw_X l d y Q (pc + 1) L (.int (a - b) :: st) M) : zw_X l d y Q pc L (.int b :: .int a :: st) M := by
  intro p e s m args below meth c H locs ls G R cells slots Z hK hE hP hS hL
  exact lv_isub hK.1 hK.2.1 hd (k p e s m args below meth c H locs ls G R cells slots Z hK hE hP hS hL)
theorem zx_imul {l : zw_Lh} {d : Nat} {y : zw_I} {Q : Option Value → zw_M → Prop} {pc : Nat} {L st : List Value} {M : zw_M} {a b : Int32} (hd : decode y.2.1 pc = .ok (.imul, 1)) (k : zw_X l d y Q (pc + 1) L (.int (a * b) :: st) M) : zw_X l d y Q pc L (.int b :: .int a :: st) M := by
  intro p e s m args below meth c H locs ls G R cells slots Z hK hE hP hS hL
  exact lv_imul hK.1 hK.2.1 hd (k p e s m args below meth c H locs ls G R cells slots Z hK hE hP hS hL)
theorem zx_iand {l : zw_Lh} {d : Nat} {y : zw_I} {Q : Option Value → zw_M → Prop} {pc : Nat} {L st : List Value} {M : zw_M} {a b : Int32} (hd : decode y.2.1 pc = .ok (.iand, 1)) (k : zw_X l d y Q (pc + 1) L (.int (a &&& b) :: st) M) : zw_X l d y Q pc L (.int b :: .int a :: st) M := by
  intro p e s m args below meth c H locs ls G R cells slots Z hK hE hP hS hL
  exact lv_iand hK.1 hK.2.1 hd (k p e s m args below meth c H locs ls G R cells slots Z hK hE hP hS hL)
theorem zx_ior {l : zw_Lh} {d : Nat} {y : zw_I} {Q : Option Value → zw_M → Prop} {pc : Nat} {L st : List Value} {M : zw_M} {a b : Int32} (hd : decode y.2.1 pc = .ok (.ior, 1)) (k : zw_X l d y Q (pc + 1) L (.int (a ||| b) :: st) M) : zw_X l d y Q pc L (.int b :: .int a :: st) M := by
  intro p e s m args below meth c H locs ls G R cells slots Z hK hE hP hS hL
  exact lv_ior hK.1 hK.2.1 hd (k p e s m args below meth c H locs ls G R cells slots Z hK hE hP hS hL)
theorem zx_ixor {l : zw_Lh} {d : Nat} {y : zw_I} {Q : Option Value → zw_M → Prop} {pc : Nat} {L st : List Value} {M : zw_M} {a b : Int32} (hd : decode y.2.1 pc = .ok (.ixor, 1)) (k : zw_X l d y Q (pc + 1) L (.int (a ^^^ b) :: st) M) : zw_X l d y Q pc L (.int b :: .int a :: st) M := by
  intro p e s m args below meth c H locs ls G R cells slots Z hK hE hP hS hL
  exact lv_ixor hK.1 hK.2.1 hd (k p e s m args below meth c H locs ls G R cells slots Z hK hE hP hS hL)
theorem zx_ishl {l : zw_Lh} {d : Nat} {y : zw_I} {Q : Option Value → zw_M → Prop} {pc : Nat} {L st : List Value} {M : zw_M} {a b : Int32} (hd : decode y.2.1 pc = .ok (.ishl, 1)) (k : zw_X l d y Q (pc + 1) L (.int (a <<< (b &&& 31)) :: st) M) : zw_X l d y Q pc L (.int b :: .int a :: st) M := by
  intro p e s m args below meth c H locs ls G R cells slots Z hK hE hP hS hL
  exact lv_ishl hK.1 hK.2.1 hd (k p e s m args below meth c H locs ls G R cells slots Z hK hE hP hS hL)
theorem zx_ishr {l : zw_Lh} {d : Nat} {y : zw_I} {Q : Option Value → zw_M → Prop} {pc : Nat} {L st : List Value} {M : zw_M} {a b : Int32} (hd : decode y.2.1 pc = .ok (.ishr, 1)) (k : zw_X l d y Q (pc + 1) L (.int (a >>> (b &&& 31)) :: st) M) : zw_X l d y Q pc L (.int b :: .int a :: st) M := by
  intro p e s m args below meth c H locs ls G R cells slots Z hK hE hP hS hL
  exact lv_ishr hK.1 hK.2.1 hd (k p e s m args below meth c H locs ls G R cells slots Z hK hE hP hS hL)
theorem zx_idiv {l : zw_Lh} {d : Nat} {y : zw_I} {Q : Option Value → zw_M → Prop} {pc : Nat} {L st : List Value} {M : zw_M} {a b : Int32} (hd : decode y.2.1 pc = .ok (.idiv, 1)) (hne : ¬ b = 0) (k : zw_X l d y Q (pc + 1) L (.int (a / b) :: st) M) : zw_X l d y Q pc L (.int b :: .int a :: st) M := by
  intro p e s m args below meth c H locs ls G R cells slots Z hK hE hP hS hL
  exact lv_idiv hK.1 hK.2.1 hd hne (k p e s m args below meth c H locs ls G R cells slots Z hK hE hP hS hL)
theorem zx_irem {l : zw_Lh} {d : Nat} {y : zw_I} {Q : Option Value → zw_M → Prop} {pc : Nat} {L st : List Value} {M : zw_M} {a b : Int32} (hd : decode y.2.1 pc = .ok (.irem, 1)) (hne : ¬ b = 0) (k : zw_X l d y Q (pc + 1) L (.int (a - a / b * b) :: st) M) : zw_X l d y Q pc L (.int b :: .int a :: st) M := by
  intro p e s m args below meth c H locs ls G R cells slots Z hK hE hP hS hL
  exact lv_irem hK.1 hK.2.1 hd hne (k p e s m args below meth c H locs ls G R cells slots Z hK hE hP hS hL)
theorem zx_ineg {l : zw_Lh} {d : Nat} {y : zw_I} {Q : Option Value → zw_M → Prop} {pc : Nat} {L st : List Value} {M : zw_M} {a : Int32} (hd : decode y.2.1 pc = .ok (.ineg, 1)) (k : zw_X l d y Q (pc + 1) L (.int (-a) :: st) M) : zw_X l d y Q pc L (.int a :: st) M := by
  intro p e s m args below meth c H locs ls G R cells slots Z hK hE hP hS hL
  exact lv_ineg hK.1 hK.2.1 hd (k p e s m args below meth c H locs ls G R cells slots Z hK hE hP hS hL)
theorem zx_iushr {l : zw_Lh} {d : Nat} {y : zw_I} {Q : Option Value → zw_M → Prop} {pc : Nat} {L st : List Value} {M : zw_M} {a b : Int32} (hd : decode y.2.1 pc = .ok (.iushr, 1)) (k : zw_X l d y Q (pc + 1) L (.int ((a.toUInt32 >>> (b.toUInt32 &&& Int32.toUInt32 31)).toInt32) :: st) M) : zw_X l d y Q pc L (.int b :: .int a :: st) M := by
  intro p e s m args below meth c H locs ls G R cells slots Z hK hE hP hS hL
  exact lv_iushr hK.1 hK.2.1 hd rfl (k p e s m args below meth c H locs ls G R cells slots Z hK hE hP hS hL)
theorem zx_ladd {l : zw_Lh} {d : Nat} {y : zw_I} {Q : Option Value → zw_M → Prop} {pc : Nat} {L st : List Value} {M : zw_M} {a b : Int64} (hd : decode y.2.1 pc = .ok (.ladd, 1)) (k : zw_X l d y Q (pc + 1) L (.long (a + b) :: st) M) : zw_X l d y Q pc L (.long b :: .long a :: st) M := by
  intro p e s m args below meth c H locs ls G R cells slots Z hK hE hP hS hL
  exact lv_ladd hK.1 hK.2.1 hd (k p e s m args below meth c H locs ls G R cells slots Z hK hE hP hS hL)
theorem zx_lmul {l : zw_Lh} {d : Nat} {y : zw_I} {Q : Option Value → zw_M → Prop} {pc : Nat} {L st : List Value} {M : zw_M} {a b : Int64} (hd : decode y.2.1 pc = .ok (.lmul, 1)) (k : zw_X l d y Q (pc + 1) L (.long (a * b) :: st) M) : zw_X l d y Q pc L (.long b :: .long a :: st) M := by
  intro p e s m args below meth c H locs ls G R cells slots Z hK hE hP hS hL
  exact lv_lmul hK.1 hK.2.1 hd (k p e s m args below meth c H locs ls G R cells slots Z hK hE hP hS hL)
theorem zx_land {l : zw_Lh} {d : Nat} {y : zw_I} {Q : Option Value → zw_M → Prop} {pc : Nat} {L st : List Value} {M : zw_M} {a b : Int64} (hd : decode y.2.1 pc = .ok (.land, 1)) (k : zw_X l d y Q (pc + 1) L (.long (a &&& b) :: st) M) : zw_X l d y Q pc L (.long b :: .long a :: st) M := by
  intro p e s m args below meth c H locs ls G R cells slots Z hK hE hP hS hL
  exact lv_land hK.1 hK.2.1 hd (k p e s m args below meth c H locs ls G R cells slots Z hK hE hP hS hL)
theorem zx_lor {l : zw_Lh} {d : Nat} {y : zw_I} {Q : Option Value → zw_M → Prop} {pc : Nat} {L st : List Value} {M : zw_M} {a b : Int64} (hd : decode y.2.1 pc = .ok (.lor, 1)) (k : zw_X l d y Q (pc + 1) L (.long (a ||| b) :: st) M) : zw_X l d y Q pc L (.long b :: .long a :: st) M := by
  intro p e s m args below meth c H locs ls G R cells slots Z hK hE hP hS hL
  exact lv_lor hK.1 hK.2.1 hd (k p e s m args below meth c H locs ls G R cells slots Z hK hE hP hS hL)
theorem zx_ldiv {l : zw_Lh} {d : Nat} {y : zw_I} {Q : Option Value → zw_M → Prop} {pc : Nat} {L st : List Value} {M : zw_M} {a b : Int64} (hd : decode y.2.1 pc = .ok (.ldiv, 1)) (hne : ¬ b = 0) (k : zw_X l d y Q (pc + 1) L (.long (a / b) :: st) M) : zw_X l d y Q pc L (.long b :: .long a :: st) M := by
  intro p e s m args below meth c H locs ls G R cells slots Z hK hE hP hS hL
  exact lv_ldiv hK.1 hK.2.1 hd hne (k p e s m args below meth c H locs ls G R cells slots Z hK hE hP hS hL)
theorem zx_lrem {l : zw_Lh} {d : Nat} {y : zw_I} {Q : Option Value → zw_M → Prop} {pc : Nat} {L st : List Value} {M : zw_M} {a b : Int64} (hd : decode y.2.1 pc = .ok (.lrem, 1)) (hne : ¬ b = 0) (k : zw_X l d y Q (pc + 1) L (.long (a - a / b * b) :: st) M) : zw_X l d y Q pc L (.long b :: .long a :: st) M := by
  intro p e s m args below meth c H locs ls G R cells slots Z hK hE hP hS hL
  exact lv_lrem hK.1 hK.2.1 hd hne (k p e s m args below meth c H locs ls G R cells slots Z hK hE hP hS hL)
theorem zx_lushr {l : zw_Lh} {d : Nat} {y : zw_I} {Q : Option Value → zw_M → Prop} {pc : Nat} {L st : List Value} {M : zw_M} {a : Int64} {b : Int32} (hd : decode y.2.1 pc = .ok (.lushr, 1)) (k : zw_X l d y Q (pc + 1) L (.long ((a.toUInt64 >>> (b.toInt64.toUInt64 &&& Int64.toUInt64 63)).toInt64) :: st) M) : zw_X l d y Q pc L (.int b :: .long a :: st) M := by
  intro p e s m args below meth c H locs ls G R cells slots Z hK hE hP hS hL
  exact lv_lushr hK.1 hK.2.1 hd rfl (k p e s m args below meth c H locs ls G R cells slots Z hK hE hP hS hL)
theorem zx_lshl {l : zw_Lh} {d : Nat} {y : zw_I} {Q : Option Value → zw_M → Prop} {pc : Nat} {L st : List Value} {M : zw_M} {a : Int64} {b : Int32} (hd : decode y.2.1 pc = .ok (.lshl, 1)) (k : zw_X l d y Q (pc + 1) L (.long (a <<< (b.toInt64 &&& 63)) :: st) M) : zw_X l d y Q pc L (.int b :: .long a :: st) M := by
  intro p e s m args below meth c H locs ls G R cells slots Z hK hE hP hS hL
  exact lv_lshl hK.1 hK.2.1 hd rfl (k p e s m args below meth c H locs ls G R cells slots Z hK hE hP hS hL)
theorem zx_lshr {l : zw_Lh} {d : Nat} {y : zw_I} {Q : Option Value → zw_M → Prop} {pc : Nat} {L st : List Value} {M : zw_M} {a : Int64} {b : Int32} (hd : decode y.2.1 pc = .ok (.lshr, 1)) (k : zw_X l d y Q (pc + 1) L (.long (a >>> (b.toInt64 &&& 63)) :: st) M) : zw_X l d y Q pc L (.int b :: .long a :: st) M := by
  intro p e s m args below meth c H locs ls G R cells slots Z hK hE hP hS hL
  exact lv_lshr hK.1 hK.2.1 hd rfl (k p e s m args below meth c H locs ls G R cells slots Z hK hE hP hS hL)
theorem zx_i2l {l : zw_Lh} {d : Nat} {y : zw_I} {Q : Option Value → zw_M → Prop} {pc : Nat} {L st : List Value} {M : zw_M} {a : Int32} (hd : decode y.2.1 pc = .ok (.i2l, 1)) (k : zw_X l d y Q (pc + 1) L (.long (a.toInt64) :: st) M) : zw_X l d y Q pc L (.int a :: st) M := by
  intro p e s m args below meth c H locs ls G R cells slots Z hK hE hP hS hL
  exact lv_i2l hK.1 hK.2.1 hd rfl (k p e s m args below meth c H locs ls G R cells slots Z hK hE hP hS hL)
theorem zx_l2i {l : zw_Lh} {d : Nat} {y : zw_I} {Q : Option Value → zw_M → Prop} {pc : Nat} {L st : List Value} {M : zw_M} {a : Int64} (hd : decode y.2.1 pc = .ok (.l2i, 1)) (k : zw_X l d y Q (pc + 1) L (.int (a.toInt32) :: st) M) : zw_X l d y Q pc L (.long a :: st) M := by
  intro p e s m args below meth c H locs ls G R cells slots Z hK hE hP hS hL
  exact lv_l2i hK.1 hK.2.1 hd rfl (k p e s m args below meth c H locs ls G R cells slots Z hK hE hP hS hL)
theorem zx_i2b {l : zw_Lh} {d : Nat} {y : zw_I} {Q : Option Value → zw_M → Prop} {pc : Nat} {L st : List Value} {M : zw_M} {a : Int32} (hd : decode y.2.1 pc = .ok (.i2b, 1)) (k : zw_X l d y Q (pc + 1) L (.int (a.toInt8.toInt32) :: st) M) : zw_X l d y Q pc L (.int a :: st) M := by
  intro p e s m args below meth c H locs ls G R cells slots Z hK hE hP hS hL
  exact lv_i2b hK.1 hK.2.1 hd rfl (k p e s m args below meth c H locs ls G R cells slots Z hK hE hP hS hL)
theorem zx_i2c {l : zw_Lh} {d : Nat} {y : zw_I} {Q : Option Value → zw_M → Prop} {pc : Nat} {L st : List Value} {M : zw_M} {a : Int32} (hd : decode y.2.1 pc = .ok (.i2c, 1)) (k : zw_X l d y Q (pc + 1) L (.int ((a.toUInt32 % 65536).toInt32) :: st) M) : zw_X l d y Q pc L (.int a :: st) M := by
  intro p e s m args below meth c H locs ls G R cells slots Z hK hE hP hS hL
  exact lv_i2c hK.1 hK.2.1 hd rfl (k p e s m args below meth c H locs ls G R cells slots Z hK hE hP hS hL)
theorem zx_dup {l : zw_Lh} {d : Nat} {y : zw_I} {Q : Option Value → zw_M → Prop} {pc : Nat} {L st : List Value} {M : zw_M} {a : Value} (hd : decode y.2.1 pc = .ok (.dup, 1)) (hc : a.category = 1) (k : zw_X l d y Q (pc + 1) L (a :: a :: st) M) : zw_X l d y Q pc L (a :: st) M := by
  intro p e s m args below meth c H locs ls G R cells slots Z hK hE hP hS hL
  exact lv_dup hK.1 hK.2.1 hd (by rw [zw_v_cat]; exact hc) (k p e s m args below meth c H locs ls G R cells slots Z hK hE hP hS hL)
theorem zx_pop {l : zw_Lh} {d : Nat} {y : zw_I} {Q : Option Value → zw_M → Prop} {pc : Nat} {L st : List Value} {M : zw_M} {a : Value} (hd : decode y.2.1 pc = .ok (.pop, 1)) (hc : a.category = 1) (k : zw_X l d y Q (pc + 1) L st M) : zw_X l d y Q pc L (a :: st) M := by
  intro p e s m args below meth c H locs ls G R cells slots Z hK hE hP hS hL
  exact lv_pop hK.1 hK.2.1 hd (by rw [zw_v_cat]; exact hc) (k p e s m args below meth c H locs ls G R cells slots Z hK hE hP hS hL)
theorem zx_dup_x1 {l : zw_Lh} {d : Nat} {y : zw_I} {Q : Option Value → zw_M → Prop} {pc : Nat} {L st : List Value} {M : zw_M} {a b : Value} (hd : decode y.2.1 pc = .ok (.dup_x1, 1)) (hc : a.category = 1) (hc2 : b.category = 1) (k : zw_X l d y Q (pc + 1) L (a :: b :: a :: st) M) : zw_X l d y Q pc L (a :: b :: st) M := by
  intro p e s m args below meth c H locs ls G R cells slots Z hK hE hP hS hL
  exact lv_dup_x1 hK.1 hK.2.1 hd (by rw [zw_v_cat]; exact hc) (by rw [zw_v_cat]; exact hc2) (k p e s m args below meth c H locs ls G R cells slots Z hK hE hP hS hL)
theorem zx_dup2 {l : zw_Lh} {d : Nat} {y : zw_I} {Q : Option Value → zw_M → Prop} {pc : Nat} {L st : List Value} {M : zw_M} {a b : Value} (hd : decode y.2.1 pc = .ok (.dup2, 1)) (hc : a.category = 1) (hc2 : b.category = 1) (k : zw_X l d y Q (pc + 1) L (a :: b :: a :: b :: st) M) : zw_X l d y Q pc L (a :: b :: st) M := by
  intro p e s m args below meth c H locs ls G R cells slots Z hK hE hP hS hL
  exact lv_dup2_11 hK.1 hK.2.1 hd (by rw [zw_v_cat]; exact hc) (by rw [zw_v_cat]; exact hc2) (k p e s m args below meth c H locs ls G R cells slots Z hK hE hP hS hL)
theorem zx_if_eq {l : zw_Lh} {d : Nat} {y : zw_I} {Q : Option Value → zw_M → Prop} {pc : Nat} {L st : List Value} {M : zw_M} {x : Int32} {off : Int} {tgt : Nat} (hd : decode y.2.1 pc = .ok (.ifCond .eq off, 3)) (ht : (pc : Int) + off = (tgt : Int)) (kt : x = 0 → zw_X l d y Q tgt L st M) (kf : ¬ x = 0 → zw_X l d y Q (pc + 3) L st M) : zw_X l d y Q pc L (.int x :: st) M := by
  intro p e s m args below meth c H locs ls G R cells slots Z hK hE hP hS hL
  exact lv_if_eq hK.1 hK.2.1 hd ht (fun h => kt h p e s m args below meth c H locs ls G R cells slots Z hK hE hP hS hL) (fun h => kf h p e s m args below meth c H locs ls G R cells slots Z hK hE hP hS hL)
theorem zx_icmp_eq {l : zw_Lh} {d : Nat} {y : zw_I} {Q : Option Value → zw_M → Prop} {pc : Nat} {L st : List Value} {M : zw_M} {x b : Int32} {off : Int} {tgt : Nat} (hd : decode y.2.1 pc = .ok (.if_icmp .eq off, 3)) (ht : (pc : Int) + off = (tgt : Int)) (kt : x = b → zw_X l d y Q tgt L st M) (kf : ¬ x = b → zw_X l d y Q (pc + 3) L st M) : zw_X l d y Q pc L (.int b :: .int x :: st) M := by
  intro p e s m args below meth c H locs ls G R cells slots Z hK hE hP hS hL
  exact lv_icmp_eq hK.1 hK.2.1 hd ht (fun h => kt h p e s m args below meth c H locs ls G R cells slots Z hK hE hP hS hL) (fun h => kf h p e s m args below meth c H locs ls G R cells slots Z hK hE hP hS hL)
theorem zx_if_ne {l : zw_Lh} {d : Nat} {y : zw_I} {Q : Option Value → zw_M → Prop} {pc : Nat} {L st : List Value} {M : zw_M} {x : Int32} {off : Int} {tgt : Nat} (hd : decode y.2.1 pc = .ok (.ifCond .ne off, 3)) (ht : (pc : Int) + off = (tgt : Int)) (kt : ¬ x = 0 → zw_X l d y Q tgt L st M) (kf : x = 0 → zw_X l d y Q (pc + 3) L st M) : zw_X l d y Q pc L (.int x :: st) M := by
  intro p e s m args below meth c H locs ls G R cells slots Z hK hE hP hS hL
  exact lv_if_ne hK.1 hK.2.1 hd ht (fun h => kt h p e s m args below meth c H locs ls G R cells slots Z hK hE hP hS hL) (fun h => kf h p e s m args below meth c H locs ls G R cells slots Z hK hE hP hS hL)
theorem zx_icmp_ne {l : zw_Lh} {d : Nat} {y : zw_I} {Q : Option Value → zw_M → Prop} {pc : Nat} {L st : List Value} {M : zw_M} {x b : Int32} {off : Int} {tgt : Nat} (hd : decode y.2.1 pc = .ok (.if_icmp .ne off, 3)) (ht : (pc : Int) + off = (tgt : Int)) (kt : ¬ x = b → zw_X l d y Q tgt L st M) (kf : x = b → zw_X l d y Q (pc + 3) L st M) : zw_X l d y Q pc L (.int b :: .int x :: st) M := by
  intro p e s m args below meth c H locs ls G R cells slots Z hK hE hP hS hL
  exact lv_icmp_ne hK.1 hK.2.1 hd ht (fun h => kt h p e s m args below meth c H locs ls G R cells slots Z hK hE hP hS hL) (fun h => kf h p e s m args below meth c H locs ls G R cells slots Z hK hE hP hS hL)
theorem zx_if_lt {l : zw_Lh} {d : Nat} {y : zw_I} {Q : Option Value → zw_M → Prop} {pc : Nat} {L st : List Value} {M : zw_M} {x : Int32} {off : Int} {tgt : Nat} (hd : decode y.2.1 pc = .ok (.ifCond .lt off, 3)) (ht : (pc : Int) + off = (tgt : Int)) (kt : x < 0 → zw_X l d y Q tgt L st M) (kf : ¬ x < 0 → zw_X l d y Q (pc + 3) L st M) : zw_X l d y Q pc L (.int x :: st) M := by
  intro p e s m args below meth c H locs ls G R cells slots Z hK hE hP hS hL
  exact lv_if_lt hK.1 hK.2.1 hd ht (fun h => kt h p e s m args below meth c H locs ls G R cells slots Z hK hE hP hS hL) (fun h => kf h p e s m args below meth c H locs ls G R cells slots Z hK hE hP hS hL)
theorem zx_icmp_lt {l : zw_Lh} {d : Nat} {y : zw_I} {Q : Option Value → zw_M → Prop} {pc : Nat} {L st : List Value} {M : zw_M} {x b : Int32} {off : Int} {tgt : Nat} (hd : decode y.2.1 pc = .ok (.if_icmp .lt off, 3)) (ht : (pc : Int) + off = (tgt : Int)) (kt : x < b → zw_X l d y Q tgt L st M) (kf : ¬ x < b → zw_X l d y Q (pc + 3) L st M) : zw_X l d y Q pc L (.int b :: .int x :: st) M := by
  intro p e s m args below meth c H locs ls G R cells slots Z hK hE hP hS hL
  exact lv_icmp_lt hK.1 hK.2.1 hd ht (fun h => kt h p e s m args below meth c H locs ls G R cells slots Z hK hE hP hS hL) (fun h => kf h p e s m args below meth c H locs ls G R cells slots Z hK hE hP hS hL)
theorem zx_if_ge {l : zw_Lh} {d : Nat} {y : zw_I} {Q : Option Value → zw_M → Prop} {pc : Nat} {L st : List Value} {M : zw_M} {x : Int32} {off : Int} {tgt : Nat} (hd : decode y.2.1 pc = .ok (.ifCond .ge off, 3)) (ht : (pc : Int) + off = (tgt : Int)) (kt : 0 ≤ x → zw_X l d y Q tgt L st M) (kf : ¬ 0 ≤ x → zw_X l d y Q (pc + 3) L st M) : zw_X l d y Q pc L (.int x :: st) M := by
  intro p e s m args below meth c H locs ls G R cells slots Z hK hE hP hS hL
  exact lv_if_ge hK.1 hK.2.1 hd ht (fun h => kt h p e s m args below meth c H locs ls G R cells slots Z hK hE hP hS hL) (fun h => kf h p e s m args below meth c H locs ls G R cells slots Z hK hE hP hS hL)
theorem zx_icmp_ge {l : zw_Lh} {d : Nat} {y : zw_I} {Q : Option Value → zw_M → Prop} {pc : Nat} {L st : List Value} {M : zw_M} {x b : Int32} {off : Int} {tgt : Nat} (hd : decode y.2.1 pc = .ok (.if_icmp .ge off, 3)) (ht : (pc : Int) + off = (tgt : Int)) (kt : b ≤ x → zw_X l d y Q tgt L st M) (kf : ¬ b ≤ x → zw_X l d y Q (pc + 3) L st M) : zw_X l d y Q pc L (.int b :: .int x :: st) M := by
  intro p e s m args below meth c H locs ls G R cells slots Z hK hE hP hS hL
  exact lv_icmp_ge hK.1 hK.2.1 hd ht (fun h => kt h p e s m args below meth c H locs ls G R cells slots Z hK hE hP hS hL) (fun h => kf h p e s m args below meth c H locs ls G R cells slots Z hK hE hP hS hL)
theorem zx_if_gt {l : zw_Lh} {d : Nat} {y : zw_I} {Q : Option Value → zw_M → Prop} {pc : Nat} {L st : List Value} {M : zw_M} {x : Int32} {off : Int} {tgt : Nat} (hd : decode y.2.1 pc = .ok (.ifCond .gt off, 3)) (ht : (pc : Int) + off = (tgt : Int)) (kt : 0 < x → zw_X l d y Q tgt L st M) (kf : ¬ 0 < x → zw_X l d y Q (pc + 3) L st M) : zw_X l d y Q pc L (.int x :: st) M := by
  intro p e s m args below meth c H locs ls G R cells slots Z hK hE hP hS hL
  exact lv_if_gt hK.1 hK.2.1 hd ht (fun h => kt h p e s m args below meth c H locs ls G R cells slots Z hK hE hP hS hL) (fun h => kf h p e s m args below meth c H locs ls G R cells slots Z hK hE hP hS hL)
theorem zx_icmp_gt {l : zw_Lh} {d : Nat} {y : zw_I} {Q : Option Value → zw_M → Prop} {pc : Nat} {L st : List Value} {M : zw_M} {x b : Int32} {off : Int} {tgt : Nat} (hd : decode y.2.1 pc = .ok (.if_icmp .gt off, 3)) (ht : (pc : Int) + off = (tgt : Int)) (kt : b < x → zw_X l d y Q tgt L st M) (kf : ¬ b < x → zw_X l d y Q (pc + 3) L st M) : zw_X l d y Q pc L (.int b :: .int x :: st) M := by
  intro p e s m args below meth c H locs ls G R cells slots Z hK hE hP hS hL
  exact lv_icmp_gt hK.1 hK.2.1 hd ht (fun h => kt h p e s m args below meth c H locs ls G R cells slots Z hK hE hP hS hL) (fun h => kf h p e s m args below meth c H locs ls G R cells slots Z hK hE hP hS hL)
theorem zx_if_le {l : zw_Lh} {d : Nat} {y : zw_I} {Q : Option Value → zw_M → Prop} {pc : Nat} {L st : List Value} {M : zw_M} {x : Int32} {off : Int} {tgt : Nat} (hd : decode y.2.1 pc = .ok (.ifCond .le off, 3)) (ht : (pc : Int) + off = (tgt : Int)) (kt : x ≤ 0 → zw_X l d y Q tgt L st M) (kf : ¬ x ≤ 0 → zw_X l d y Q (pc + 3) L st M) : zw_X l d y Q pc L (.int x :: st) M := by
  intro p e s m args below meth c H locs ls G R cells slots Z hK hE hP hS hL
  exact lv_if_le hK.1 hK.2.1 hd ht (fun h => kt h p e s m args below meth c H locs ls G R cells slots Z hK hE hP hS hL) (fun h => kf h p e s m args below meth c H locs ls G R cells slots Z hK hE hP hS hL)
theorem zx_icmp_le {l : zw_Lh} {d : Nat} {y : zw_I} {Q : Option Value → zw_M → Prop} {pc : Nat} {L st : List Value} {M : zw_M} {x b : Int32} {off : Int} {tgt : Nat} (hd : decode y.2.1 pc = .ok (.if_icmp .le off, 3)) (ht : (pc : Int) + off = (tgt : Int)) (kt : x ≤ b → zw_X l d y Q tgt L st M) (kf : ¬ x ≤ b → zw_X l d y Q (pc + 3) L st M) : zw_X l d y Q pc L (.int b :: .int x :: st) M := by
  intro p e s m args below meth c H locs ls G R cells slots Z hK hE hP hS hL
  exact lv_icmp_le hK.1 hK.2.1 hd ht (fun h => kt h p e s m args below meth c H locs ls G R cells slots Z hK hE hP hS hL) (fun h => kf h p e s m args below meth c H locs ls G R cells slots Z hK hE hP hS hL)
theorem zx_goto {l : zw_Lh} {d : Nat} {y : zw_I} {Q : Option Value → zw_M → Prop} {pc : Nat} {L st : List Value} {M : zw_M} {off : Int} {tgt : Nat} (hd : decode y.2.1 pc = .ok (.goto off, 3)) (ht : (pc : Int) + off = (tgt : Int)) (k : zw_X l d y Q tgt L st M) : zw_X l d y Q pc L st M := by
  intro p e s m args below meth c H locs ls G R cells slots Z hK hE hP hS hL
  exact lv_goto hK.1 hK.2.1 hd ht (k p e s m args below meth c H locs ls G R cells slots Z hK hE hP hS hL)
theorem zx_tout {l : zw_Lh} {d : Nat} {y : zw_I} {Q : Option Value → zw_M → Prop} {pc : Nat} {L st : List Value} {M : zw_M} {dflt lo hi : Int} {offs : Array Int} {len tgt : Nat} {x : Int32} (hd : decode y.2.1 pc = .ok (.tableswitch dflt lo hi offs, len)) (h : x.toInt < lo ∨ hi < x.toInt) (ht : (pc : Int) + dflt = (tgt : Int)) (k : zw_X l d y Q tgt L st M) : zw_X l d y Q pc L (.int x :: st) M := by
  intro p e s m args below meth c H locs ls G R cells slots Z hK hE hP hS hL
  exact lv_tableOut hK.1 hK.2.1 hd h ht (k p e s m args below meth c H locs ls G R cells slots Z hK hE hP hS hL)
theorem zx_tin {l : zw_Lh} {d : Nat} {y : zw_I} {Q : Option Value → zw_M → Prop} {pc : Nat} {L st : List Value} {M : zw_M} {dflt lo hi off z : Int} {offs : Array Int} {len tgt : Nat} {x : Int32} (hd : decode y.2.1 pc = .ok (.tableswitch dflt lo hi offs, len)) (hx : x.toInt = z) (h1 : ¬ z < lo) (h2 : ¬ hi < z) (ho : offs[(z - lo).toNat]? = some off) (ht : (pc : Int) + off = (tgt : Int)) (k : zw_X l d y Q tgt L st M) : zw_X l d y Q pc L (.int x :: st) M := by
  intro p e s m args below meth c H locs ls G R cells slots Z hK hE hP hS hL
  exact lv_tableIn hK.1 hK.2.1 hd (by rw [hx]; exact h1) (by rw [hx]; exact h2) (by rw [hx]; exact ho) ht (k p e s m args below meth c H locs ls G R cells slots Z hK hE hP hS hL)
theorem zx_lookup {l : zw_Lh} {d : Nat} {y : zw_I} {Q : Option Value → zw_M → Prop} {pc : Nat} {L st : List Value} {M : zw_M} {dflt off : Int} {ps : Array (Int × Int)} {len tgt : Nat} {x : Int32} (hd : decode y.2.1 pc = .ok (.lookupswitch dflt ps, len)) (hp : (ps.toList.zip (ps.toList.drop 1)).all (fun (a, next) => a.1 < next.1) = true) (ho : Op.lookupswitch.offset ps.toList dflt x.toInt = off) (ht : (pc : Int) + off = (tgt : Int)) (k : zw_X l d y Q tgt L st M) : zw_X l d y Q pc L (.int x :: st) M := by
  intro p e s m args below meth c H locs ls G R cells slots Z hK hE hP hS hL
  exact lv_lookup hK.1 hK.2.1 hd hp ho ht (k p e s m args below meth c H locs ls G R cells slots Z hK hE hP hS hL)
/-- a class of the world, as the tables have it -/
def zw_okc (ci : Nat) (C : String) (T : u_T) (N : Nat) (tf : Nat → FieldType) : Prop := zs_cl[ci]? = some (C, T, N) ∧ (∀ w ∈ u_ws C T N, w ∈ zs_G) ∧ (∀ k, k < N → parseFieldDescriptor (T k).2.2.1 = some (tf k)) ∧ (∀ a, a < N → ∀ b, b < N → a ≠ b → (T a).2.1 ≠ (T b).2.1)
/-- a field of the cell q, as a class's own constant names it -/
def zw_F (own : String) (idx q k : Nat) (x : Option (Option Nat)) (ty : FieldType) (fin : Bool) : Prop := ∃ (ci : Nat) (C : String) (T : u_T) (N : Nat) (tf : Nat → FieldType) (ks : List (Option (Option Nat))), zw_okc ci C T N tf ∧ k < N ∧ Cond.fieldLink own idx (T k).1 (T k).2.1 (T k).2.2.1 ∈ zs_G ∧ zs_S[q]? = some (.inr (ci, ks)) ∧ ks[k]? = some x ∧ tf k = ty ∧ (T k).2.2.2 = fin
theorem zx_get {l : zw_Lh} {d : Nat} {y : zw_I} {Q : Option Value → zw_M → Prop} {pc : Nat} {L st : List Value} {M : zw_M} {q k idx : Nat} {x : Option (Option Nat)} {ty : FieldType} {fin : Bool} (hd : decode y.2.1 pc = .ok (.getfield idx, 3)) (hf : zw_F y.1.cls idx q k x ty fin) {v : Value} (hv : ∀ ad, zw_f ad M q k x = zw_v ad v) (kk : zw_X l d y Q (pc + 3) L (v :: st) M) : zw_X l d y Q pc L (.ref q :: st) M := by
  intro p e s m args below meth c H locs ls G R cells slots Z hK hE hP hS hL
  obtain ⟨ci, C, T, N, tf, ks, ⟨h1, h2, h3, h4⟩, h5, h6, h7, h8, h9, h10⟩ := hf
  exact va_get (D := G.1) (cl := zs_cl) (ws := zw_W G M) (tys := zw_t G) (v := zw_v G.2.2 v) (ref := (T k).1) hK.1 hK.2.1 hK.2.2.2.2.2.1 (fun w hw => h2 w hw) hK.2.2.2.2.1 hK.2.2.2.2.2.2.2.1 hP q (fs := ks.mapIdx (fun k x => zw_f G.2.2 M q k x)) (zw_W_at h7) h1 k h5 (hK.2.2.2.2.2.1 _ h6) (fun _ h => h) (by rw [List.getElem?_mapIdx, h8]; simp [hv]) hd (kk p e s m args below meth c H locs ls G R cells slots Z hK hE hP hS hL)
theorem zx_geti {l : zw_Lh} {d : Nat} {y : zw_I} {Q : Option Value → zw_M → Prop} {pc : Nat} {L st : List Value} {M : zw_M} {q k idx : Nat} {ty : FieldType} {fin : Bool} (hd : decode y.2.1 pc = .ok (.getfield idx, 3)) (hf : zw_F y.1.cls idx q k none ty fin) (kk : zw_X l d y Q (pc + 3) L (.int (M.1 q k) :: st) M) : zw_X l d y Q pc L (.ref q :: st) M := zx_get hd hf (fun _ => rfl) kk
theorem zx_getr {l : zw_Lh} {d : Nat} {y : zw_I} {Q : Option Value → zw_M → Prop} {pc : Nat} {L st : List Value} {M : zw_M} {q k idx r : Nat} {ty : FieldType} {fin : Bool} (hd : decode y.2.1 pc = .ok (.getfield idx, 3)) (hf : zw_F y.1.cls idx q k (some (some r)) ty fin) (kk : zw_X l d y Q (pc + 3) L (.ref r :: st) M) : zw_X l d y Q pc L (.ref q :: st) M := zx_get hd hf (fun _ => rfl) kk
theorem zx_getl {l : zw_Lh} {d : Nat} {y : zw_I} {Q : Option Value → zw_M → Prop} {pc : Nat} {L st : List Value} {M : zw_M} {q k idx : Nat} {ty : FieldType} {fin : Bool} (hd : decode y.2.1 pc = .ok (.getfield idx, 3)) (hf : zw_F y.1.cls idx q k (some none) ty fin) (kk : zw_X l d y Q (pc + 3) L (.long (M.2 q k) :: st) M) : zw_X l d y Q pc L (.ref q :: st) M := zx_get hd hf (fun _ => rfl) kk
theorem zx_puti {l : zw_Lh} {d : Nat} {y : zw_I} {Q : Option Value → zw_M → Prop} {pc : Nat} {L st : List Value} {M : zw_M} {q k idx : Nat} {x : Int32} (hd : decode y.2.1 pc = .ok (.putfield idx, 3)) (hf : zw_F y.1.cls idx q k none .int false) (kk : zw_X l d y Q (pc + 3) L st (zw_s M q k x)) : zw_X l d y Q pc L (.int x :: .ref q :: st) M := by
  intro p e s m args below meth c H locs ls G R cells slots Z hK hE hP hS hL
  obtain ⟨ci, C, T, N, tf, ks, ⟨h1, h2, h3, h4⟩, h5, h6, h7, h8, h9, h10⟩ := hf
  refine va_put (D := G.1) (cl := zs_cl) (ws := zw_W G M) (tys := zw_t G) (v := .int x) (ref := (T k).1) (ty := .int) hK.1 hK.2.1 hK.2.2.2.2.2.1 (fun w hw => h2 w hw) tf h3 h4 hK.2.2.2.2.1 hK.2.2.2.2.2.2.2.1 hP (zw_D_at hK.2.2.2.2.2.2.2.2.1) hS q (fs := ks.mapIdx (fun k x => zw_f G.2.2 M q k x)) (zw_W_at h7) h1 k h5 (hK.2.2.2.2.2.1 _ h6) (fun _ h => h) h10 (by rw [h3 k h5, h9]) rfl rfl (by simpa using (List.getElem?_eq_some_iff.mp h8).1) hd (fun H1 locs1 hP1 _ hS1 => ?_)
  rw [zw_W_seti h7 h8] at hP1
  exact kk p e s m args below meth c H1 locs1 ls G R cells slots Z hK hE hP1 hS1 hL
theorem zx_putz {l : zw_Lh} {d : Nat} {y : zw_I} {Q : Option Value → zw_M → Prop} {pc : Nat} {L st : List Value} {M : zw_M} {q k idx : Nat} {x : Int32} (hd : decode y.2.1 pc = .ok (.putfield idx, 3)) (hf : zw_F y.1.cls idx q k none .boolean false) (hz : narrow .boolean (.int x) = .int x) (hz2 : fits .boolean (.int x) = true) (kk : zw_X l d y Q (pc + 3) L st (zw_s M q k x)) : zw_X l d y Q pc L (.int x :: .ref q :: st) M := by
  intro p e s m args below meth c H locs ls G R cells slots Z hK hE hP hS hL
  obtain ⟨ci, C, T, N, tf, ks, ⟨h1, h2, h3, h4⟩, h5, h6, h7, h8, h9, h10⟩ := hf
  refine va_put (D := G.1) (cl := zs_cl) (ws := zw_W G M) (tys := zw_t G) (v := .int x) (ref := (T k).1) (ty := .boolean) hK.1 hK.2.1 hK.2.2.2.2.2.1 (fun w hw => h2 w hw) tf h3 h4 hK.2.2.2.2.1 hK.2.2.2.2.2.2.2.1 hP (zw_D_at hK.2.2.2.2.2.2.2.2.1) hS q (fs := ks.mapIdx (fun k x => zw_f G.2.2 M q k x)) (zw_W_at h7) h1 k h5 (hK.2.2.2.2.2.1 _ h6) (fun _ h => h) h10 (by rw [h3 k h5, h9]) hz hz2 (by simpa using (List.getElem?_eq_some_iff.mp h8).1) hd (fun H1 locs1 hP1 _ hS1 => ?_)
  rw [zw_W_seti h7 h8] at hP1
  exact kk p e s m args below meth c H1 locs1 ls G R cells slots Z hK hE hP1 hS1 hL
theorem zx_putl {l : zw_Lh} {d : Nat} {y : zw_I} {Q : Option Value → zw_M → Prop} {pc : Nat} {L st : List Value} {M : zw_M} {q k idx : Nat} {x : Int64} (hd : decode y.2.1 pc = .ok (.putfield idx, 3)) (hf : zw_F y.1.cls idx q k (some none) .long false) (kk : zw_X l d y Q (pc + 3) L st (zw_sl M q k x)) : zw_X l d y Q pc L (.long x :: .ref q :: st) M := by
  intro p e s m args below meth c H locs ls G R cells slots Z hK hE hP hS hL
  obtain ⟨ci, C, T, N, tf, ks, ⟨h1, h2, h3, h4⟩, h5, h6, h7, h8, h9, h10⟩ := hf
  refine va_put (D := G.1) (cl := zs_cl) (ws := zw_W G M) (tys := zw_t G) (v := .long x) (ref := (T k).1) (ty := .long) hK.1 hK.2.1 hK.2.2.2.2.2.1 (fun w hw => h2 w hw) tf h3 h4 hK.2.2.2.2.1 hK.2.2.2.2.2.2.2.1 hP (zw_D_at hK.2.2.2.2.2.2.2.2.1) hS q (fs := ks.mapIdx (fun k x => zw_f G.2.2 M q k x)) (zw_W_at h7) h1 k h5 (hK.2.2.2.2.2.1 _ h6) (fun _ h => h) h10 (by rw [h3 k h5, h9]) rfl rfl (by simpa using (List.getElem?_eq_some_iff.mp h8).1) hd (fun H1 locs1 hP1 _ hS1 => ?_)
  rw [zw_W_setl h7 h8] at hP1
  exact kk p e s m args below meth c H1 locs1 ls G R cells slots Z hK hE hP1 hS1 hL
theorem zx_iald {l : zw_Lh} {d : Nat} {y : zw_I} {Q : Option Value → zw_M → Prop} {pc : Nat} {L st : List Value} {M : zw_M} {q n : Nat} {i : Int32} (hd : decode y.2.1 pc = .ok (.iaload, 1)) (hs : zs_S[q]? = some (.inl (0, n))) (hi : vp_in i n) (kk : zw_X l d y Q (pc + 1) L (.int (M.1 q i.toNatClampNeg) :: st) M) : zw_X l d y Q pc L (.int i :: .ref q :: st) M := by
  intro p e s m args below meth c H locs ls G R cells slots Z hK hE hP hS hL
  exact va_iald (D := G.1) (cl := zs_cl) (ws := zw_W G M) (tys := zw_t G) hK.1 hK.2.1 hK.2.2.2.2.2.2.2.1 hP q 0 (zw_W_at hs) rfl hi hd (kk p e s m args below meth c H locs ls G R cells slots Z hK hE hP hS hL)
theorem zx_iast {l : zw_Lh} {d : Nat} {y : zw_I} {Q : Option Value → zw_M → Prop} {pc : Nat} {L st : List Value} {M : zw_M} {q n : Nat} {i x : Int32} (hd : decode y.2.1 pc = .ok (.iastore, 1)) (hs : zs_S[q]? = some (.inl (0, n))) (hi : vp_in i n) (kk : zw_X l d y Q (pc + 1) L st (zw_s M q i.toNatClampNeg (x))) : zw_X l d y Q pc L (.int x :: .int i :: .ref q :: st) M := by
  intro p e s m args below meth c H locs ls G R cells slots Z hK hE hP hS hL
  refine va_iast (D := G.1) (cl := zs_cl) (ws := zw_W G M) (tys := zw_t G) hK.1 hK.2.1 hK.2.2.2.2.2.2.2.1 hP (zw_D_at hK.2.2.2.2.2.2.2.2.1) hS q 0 (zw_W_at hs) rfl hi hd (fun H1 locs1 hP1 _ hS1 => ?_)
  rw [zw_W_seta hs] at hP1
  exact kk p e s m args below meth c H1 locs1 ls G R cells slots Z hK hE hP1 hS1 hL
theorem zx_cald {l : zw_Lh} {d : Nat} {y : zw_I} {Q : Option Value → zw_M → Prop} {pc : Nat} {L st : List Value} {M : zw_M} {q n : Nat} {i : Int32} (hd : decode y.2.1 pc = .ok (.caload, 1)) (hs : zs_S[q]? = some (.inl (1, n))) (hi : vp_in i n) (kk : zw_X l d y Q (pc + 1) L (.int (M.1 q i.toNatClampNeg) :: st) M) : zw_X l d y Q pc L (.int i :: .ref q :: st) M := by
  intro p e s m args below meth c H locs ls G R cells slots Z hK hE hP hS hL
  exact va_cald (D := G.1) (cl := zs_cl) (ws := zw_W G M) (tys := zw_t G) hK.1 hK.2.1 hK.2.2.2.2.2.2.2.1 hP q 1 (zw_W_at hs) rfl hi hd (kk p e s m args below meth c H locs ls G R cells slots Z hK hE hP hS hL)
theorem zx_cast {l : zw_Lh} {d : Nat} {y : zw_I} {Q : Option Value → zw_M → Prop} {pc : Nat} {L st : List Value} {M : zw_M} {q n : Nat} {i x : Int32} (hd : decode y.2.1 pc = .ok (.castore, 1)) (hs : zs_S[q]? = some (.inl (1, n))) (hi : vp_in i n) (kk : zw_X l d y Q (pc + 1) L st (zw_s M q i.toNatClampNeg (vp_nar .char x))) : zw_X l d y Q pc L (.int x :: .int i :: .ref q :: st) M := by
  intro p e s m args below meth c H locs ls G R cells slots Z hK hE hP hS hL
  refine va_cast (D := G.1) (cl := zs_cl) (ws := zw_W G M) (tys := zw_t G) hK.1 hK.2.1 hK.2.2.2.2.2.2.2.1 hP (zw_D_at hK.2.2.2.2.2.2.2.2.1) hS q 1 (zw_W_at hs) rfl hi hd (fun H1 locs1 hP1 _ hS1 => ?_)
  rw [zw_W_seta hs] at hP1
  exact kk p e s m args below meth c H1 locs1 ls G R cells slots Z hK hE hP1 hS1 hL
theorem zx_iret {l : zw_Lh} {d : Nat} {y : zw_I} {Q : Option Value → zw_M → Prop} {pc : Nat} {L st : List Value} {M : zw_M} {x : Int32} {ty : FieldType} (hd : decode y.2.1 pc = .ok (.ireturn, 1)) (hr : y.2.2.2 = some ty) (hn : narrow ty (.int x) = .int x) (h : Q (some (.int x)) M) : zw_X l d y Q pc L [.int x] M := by
  intro p e s m args below meth c H locs ls G R cells slots Z hK hE hP hS hL
  exact zw_Zi hE.2 <| W.zret (v := x) hK.1 hK.2.1 (hK.2.2.1.trans hr) hn (fun t ht _ => ⟨⟨some (.int x), M, rfl, h, by rw [ht]; exact hP⟩, hS.F ht⟩) hS.2.2 hd hK.2.2.2.2.2.2.1
theorem zx_lret {l : zw_Lh} {d : Nat} {y : zw_I} {Q : Option Value → zw_M → Prop} {pc : Nat} {L st : List Value} {M : zw_M} {x : Int64} (hd : decode y.2.1 pc = .ok (.lreturn, 1)) (hr : y.2.2.2 = some .long) (h : Q (some (.long x)) M) : zw_X l d y Q pc L [.long x] M := by
  intro p e s m args below meth c H locs ls G R cells slots Z hK hE hP hS hL
  exact zw_Zi hE.2 <| W.lret (v := x) hK.1 hK.2.1 (hK.2.2.1.trans hr) (fun t ht _ => ⟨⟨some (.long x), M, rfl, h, by rw [ht]; exact hP⟩, hS.F ht⟩) hS.2.2 hd hK.2.2.2.2.2.2.1
theorem zx_vret {l : zw_Lh} {d : Nat} {y : zw_I} {Q : Option Value → zw_M → Prop} {pc : Nat} {L st : List Value} {M : zw_M} (hd : decode y.2.1 pc = .ok (.return_, 1)) (hr : y.2.2.2 = none) (h : Q none M) : zw_X l d y Q pc L [] M := by
  intro p e s m args below meth c H locs ls G R cells slots Z hK hE hP hS hL
  exact zw_Zi hE.2 <| W.vret hK.1 hK.2.1 (hK.2.2.1.trans hr) (fun t ht _ => ⟨⟨none, M, rfl, h, by rw [ht]; exact hP⟩, hS.F ht⟩) hS.2.2 hd hK.2.2.2.2.2.2.1
/-- the script -/
theorem zx_slen {l : zw_Lh} {d : Nat} {y : zw_I} {Q : Option Value → zw_M → Prop} {pc : Nat} {L st : List Value} {M : zw_M} (hd : decode y.2.1 pc = .ok (.arraylength, 1)) (kk : zw_X l d y Q (pc + 1) L (.int (Int32.ofNat l.2.1) :: st) M) : zw_X l d y Q pc L (.ref 37 :: st) M := by
  intro p e s m args below meth c H locs ls G R cells slots Z hK hE hP hS hL
  exact va_slen hK.1 hK.2.1 hK.2.2.2.2.2.2.2.2.2.2.1 hK.2.2.2.2.2.2.2.2.2.2.2 (zw_Xb hK.2.2.2.2.2.2.2.2.1 hK.2.2.2.2.2.2.2.2.2) hS hd (kk p e s m args below meth c H locs ls G R cells slots Z hK hE hP hS hL)
theorem zx_sld {l : zw_Lh} {d : Nat} {y : zw_I} {Q : Option Value → zw_M → Prop} {pc : Nat} {L st : List Value} {M : zw_M} {i : Int32} (hd : decode y.2.1 pc = .ok (.iaload, 1)) (hi : vp_in i l.2.1) (kk : zw_X l d y Q (pc + 1) L (.int (l.2.2 i.toNatClampNeg) :: st) M) : zw_X l d y Q pc L (.int i :: .ref 37 :: st) M := by
  intro p e s m args below meth c H locs ls G R cells slots Z hK hE hP hS hL
  exact va_sld hK.1 hK.2.1 hK.2.2.2.2.2.2.2.2.2.2.1 hK.2.2.2.2.2.2.2.2.2.2.2 (zw_Xb hK.2.2.2.2.2.2.2.2.1 hK.2.2.2.2.2.2.2.2.2) hS hi hd (kk p e s m args below meth c H locs ls G R cells slots Z hK hE hP hS hL)
/-! calls -/
def zw_yV (y : zw_I) (n : Nat) : Prop := zw_in [.instanceMethod y.1, .selects y.1.cls y.1 y.1, .initialized y.1.cls, .code y.1 y.2.1 y.2.2.1 y.2.2.2] ∧ (y.1.cls ≠ "java/lang/invoke/MethodHandle" ∧ y.1.cls ≠ "java/lang/invoke/VarHandle" ∧ (parseMethodDescriptor y.1.desc).map (fun d => d.parameters.length) = some n) ∧ y.2.2.1 ≤ 21
def zw_yS (y : zw_I) (n : Nat) : Prop := zw_in [.static y.1, .initialized y.1.cls, .code y.1 y.2.1 y.2.2.1 y.2.2.2] ∧ (y.1.cls ≠ "java/lang/invoke/MethodHandle" ∧ y.1.cls ≠ "java/lang/invoke/VarHandle" ∧ (parseMethodDescriptor y.1.desc).map (fun d => d.parameters.length) = some n) ∧ y.2.2.1 ≤ 21
def zw_rc (q : Nat) (C : String) : Prop := ∃ (ci : Nat) (ks : List (Option (Option Nat))) (T : u_T) (N : Nat), zs_S[q]? = some (.inr (ci, ks)) ∧ zs_cl[ci]? = some (C, T, N)
section ZGO
variable {p : Program} {l : Launch} {e : Env} {R : Room} {s : State} {m : MethodId} {args : Array Value} {below : List Frame} {meth : Method} {c : Code} {H : Heap} {locs : List Loc} {Q : State → Prop}
variable {pc : Nat} {ls : Array Slot} {rest st0 : List Value} {a : Array Value} {A0 A1 : Nat → Prop} {H0 : Heap} {free : Addr → Prop} {cells slots : Nat}
theorem zw_go {G : zw_G} {Q1 : Option Value → zw_M → Prop} (hr : va_Run p l e R s m args below meth c H locs cells slots 0 0 (F0 m pc ls st0) rest (zw_Q G A1 Q1 a) free) (hS : va_S A0 H0 H locs) (hA : ∀ q, q < H.size → A1 q → A0 q) (hf : ∀ q, free q → A0 q)
    (kk : ∀ (v : Option Value) (M : zw_M) (H1 : Heap) (locs1 : List Loc), Q1 v M → va_P G.1 zs_cl (zw_W G M) H1 → va_S A0 H0 H1 locs1 → W p l e R s m args below meth c H1 locs1 cells slots Q (F0 m (pc + 3) ls ((v.map (zw_v G.2.2)).toList ++ rest))) : W p l e R s m args below meth c H locs cells slots Q (F0 m pc ls st0) := by
  intro T hT X
  obtain ⟨v, st₀, t, T', L, h0, X', hL, e1, e2, ⟨⟨r, u, hv, hp, hb⟩, hz, hk⟩, st⟩ := hr T hT X
  cases hv
  rw [h0] at hz hk
  obtain ⟨t2, a1, b1⟩ := kk r u T'.heap (locs ++ L) hp (by rw [e1]; exact hb)
    ⟨Nat.le_trans hS.1 (by rw [e1]; exact hz), fun q h1 h2 => by rw [e1, hk q (Nat.lt_of_lt_of_le h1 hS.1) (fun z => h2 (hA q (Nat.lt_of_lt_of_le h1 hS.1) z))]; exact hS.2.1 q h1 h2, fun q hq => by
      rcases List.mem_append.mp hq with h | h
      · exact hS.2.2 q h
      · exact hf _ (hL q h)⟩ T' rfl X'
  exact ⟨t2, st t2 a1, b1⟩
end ZGO
theorem zw_A_mono {G : zw_G} {n k : Nat} (h : n ≤ k) : ∀ q, zw_A G k q → zw_A G n q := fun q hq => hq.elim Or.inl (fun z => Or.inr (Nat.le_trans h z))
theorem zw_N_at {l : zw_Lh} {G : zw_G} {s U : State} {H : Heap} {locs : List Loc} (hW : s.WarmedH U.vm) (hU : U.heap = H) (hS : va_S (zw_A G s.heap.size) s.heap H locs) (hD : zw_D G) (h : zw_N l G s) : zw_N l G U := by
  subst hU
  exact ⟨fun q hq => va_Nw.warmM hW (h.1 q hq), (va_X.moved hW.alike h.2.1).kept (hS.2.1 _ h.2.2 (zw_Xb hD h)), Nat.lt_of_lt_of_le h.2.2 hS.1⟩
theorem zw_blind {l : zw_Lh} {G : zw_G} {vs : List Value} {sz : Nat} {M : zw_M} : FrameBlind (va_Pc (vs.map (zw_v G.2.2)) (fun U => U.heap.size = sz ∧ va_P G.1 zs_cl (zw_W G M) U.heap ∧ va_K G.1 zs_cl (zw_t G) U ∧ zw_N l G U)) :=
  fun a U g mk q => ⟨q.1, q.2.1, q.2.2.1, va_K.moved (u := U) (U := U.calling g mk a) (Vm.Alike.refl U.vm) q.2.2.2.1, fun z hz => va_Nw.same (u := U) (U := U.calling g mk a) rfl rfl (q.2.2.2.2.1 z hz), va_X.moved (u := U) (U := U.calling g mk a) (Vm.Alike.refl U.vm) q.2.2.2.2.2.1, q.2.2.2.2.2.2⟩
theorem zw_cat {ad : Nat → Nat} {st : List Value} (h : (st.map fun v => v.category).sum ≤ 8) : ((st.map (zw_v ad)).map fun v => v.category).sum ≤ 8 := by
  rw [List.map_map, show List.map ((fun v => Value.category v) ∘ zw_v ad) st = st.map fun v => v.category from List.map_congr_left (fun v _ => zw_v_cat _ v)]
  exact h
theorem zx_callV {l : zw_Lh} {d : Nat} {y : zw_I} {Q : Option Value → zw_M → Prop} {pc : Nat} {L st st0 : List Value} {M : zw_M} {y1 : zw_I} {idx q : Nat} {vs : List Value} {Q1 : Option Value → zw_M → Prop} {n : Nat}
    (hd : decode y.2.1 pc = .ok (.invokevirtual idx, 3)) (hl : zw_in [Cond.methodLink y.1.cls idx y1.1]) (hy : zw_yV y1 n) (hrc : zw_rc q y1.1.cls) (hC : zw_C l d y1 (.ref q :: vs) M Q1) (hst : st0 = vs.reverse ++ .ref q :: st) (hn : vs.length = n) (hcat : (st.map fun v => v.category).sum ≤ 8)
    (k : ∀ v M', Q1 v M' → zw_X l (d + 1) y Q (pc + 3) L (v.toList ++ st) M') : zw_X l (d + 1) y Q pc L st0 M := by
  intro p e s m args below meth c H locs ls G R cells slots Z hK hE hP hS hL
  obtain ⟨k1, k2, k3, k4, k5, k6, k7, k8, k9, k10⟩ := id hK
  obtain ⟨ci, ks, T, N, r1, r2⟩ := hrc
  have hw1 : ∀ w ∈ zs_G, w ∈ zs_G := fun w h => h
  have hcode : Cond.code y1.1 y1.2.1 y1.2.2.1 y1.2.2.2 ∈ zs_G := hy.1 _ (by simp)
  have hgood : GoodIn zs_G (zw_ws y1) := fun w hw => by
    rcases List.mem_cons.mp hw with rfl | h
    · exact ⟨hw1 _ hcode, good_of_word (List.mem_filter.mp hcode).2⟩
    · exact ⟨hw1 _ h, good_of_word (List.mem_filter.mp h).2⟩
  have ok : ∀ w ∈ [Cond.instanceMethod y1.1, .selects y1.1.cls y1.1 y1.1, .initialized y1.1.cls, .code y1.1 y1.2.1 y1.2.2.1 y1.2.2.2], w.before args s = true := fun w h => k6 w (hw1 w (hy.1 w h))
  have hcb := callB_of (R := R) (rm := zw_rm d) (own := y.1.cls) (index := idx) (mc := 0) (ms := 0) n k6 hgood rfl rfl rfl (ok _ (by simp)) (k6 _ (hw1 _ (hl _ (by simp)))) hy.2.1 ⟨by show d + 1 ≤ R.frames; exact hE.1.1, by show 8 + (y1.2.2.1 + 11) + d * 40 ≤ R.locals; have := hy.2.2; have := hE.1.2.1; omega⟩
  refine zw_go (Q1 := Q1) (rest := st.map (zw_v G.2.2)) (va_runV (As := vs.map (zw_v G.2.2)) ⟨k1, k2, k4, k5, k6⟩ (hC G H.size k9) ⟨hcb, ok _ (by simp), ok _ (by simp)⟩ ⟨zw_blind, va_recv k8 hP r2 (zw_W_at r1), fun U hU hW => ⟨rfl, by rw [hU], by rw [hU]; exact hP, va_K.moved hW.alike k8, zw_N_at hW hU hS k9 k10⟩⟩ rfl (by simpa using hn) hL.2.1 ?_ (lv_room (zw_cat hcat)) hd ⟨hE.1.2.2.1, hE.1.2.2.2⟩) hS (fun q _ => zw_A_mono hS.1 q) (fun q => zw_A_mono hS.1 q) (fun v M1 H1 locs1 hQ hP1 hS1 => ?_)
  · show st0.map (zw_v G.2.2) = _
    rw [hst, List.map_append, List.map_reverse, List.map_cons]
    rfl
  · have := k v M1 hQ p e s m args below meth c H1 locs1 ls G R cells slots Z hK hE hP1 hS1 hL
    rw [List.map_append] at this
    cases v <;> exact this
theorem zx_callS {l : zw_Lh} {d : Nat} {y : zw_I} {Q : Option Value → zw_M → Prop} {pc : Nat} {L st st0 : List Value} {M : zw_M} {y1 : zw_I} {idx : Nat} {vs : List Value} {Q1 : Option Value → zw_M → Prop} {n : Nat}
    (hd : decode y.2.1 pc = .ok (.invokestatic idx, 3)) (hl : zw_in [Cond.methodLink y.1.cls idx y1.1]) (hy : zw_yS y1 n) (hC : zw_C l d y1 vs M Q1) (hst : st0 = vs.reverse ++ st) (hn : vs.length = n) (hcat : (st.map fun v => v.category).sum ≤ 8)
    (k : ∀ v M', Q1 v M' → zw_X l (d + 1) y Q (pc + 3) L (v.toList ++ st) M') : zw_X l (d + 1) y Q pc L st0 M := by
  intro p e s m args below meth c H locs ls G R cells slots Z hK hE hP hS hL
  obtain ⟨k1, k2, k3, k4, k5, k6, k7, k8, k9, k10⟩ := id hK
  have hw1 : ∀ w ∈ zs_G, w ∈ zs_G := fun w h => h
  have hcode : Cond.code y1.1 y1.2.1 y1.2.2.1 y1.2.2.2 ∈ zs_G := hy.1 _ (by simp)
  have hgood : GoodIn zs_G (zw_ws y1) := fun w hw => by
    rcases List.mem_cons.mp hw with rfl | h
    · exact ⟨hw1 _ hcode, good_of_word (List.mem_filter.mp hcode).2⟩
    · exact ⟨hw1 _ h, good_of_word (List.mem_filter.mp h).2⟩
  have ok : ∀ w ∈ [Cond.static y1.1, .initialized y1.1.cls, .code y1.1 y1.2.1 y1.2.2.1 y1.2.2.2], w.before args s = true := fun w h => k6 w (hw1 w (hy.1 w h))
  have hcb := callB_of (R := R) (rm := zw_rm d) (own := y.1.cls) (index := idx) (mc := 0) (ms := 0) n k6 hgood rfl rfl rfl (ok _ (by simp)) (k6 _ (hw1 _ (hl _ (by simp)))) hy.2.1 ⟨by show d + 1 ≤ R.frames; exact hE.1.1, by show 8 + (y1.2.2.1 + 11) + d * 40 ≤ R.locals; have := hy.2.2; have := hE.1.2.1; omega⟩
  refine zw_go (Q1 := Q1) (rest := st.map (zw_v G.2.2)) (va_runS (As := vs.map (zw_v G.2.2)) ⟨k1, k2, k4, k5, k6⟩ (hC G H.size k9) ⟨hcb, ok _ (by simp)⟩ ⟨zw_blind, fun U hU hW => ⟨rfl, by rw [hU], by rw [hU]; exact hP, va_K.moved hW.alike k8, zw_N_at hW hU hS k9 k10⟩⟩ rfl (by simpa using hn) hL.2.1 ?_ (lv_room (zw_cat hcat)) hd ⟨hE.1.2.2.1, hE.1.2.2.2⟩) hS (fun q _ => zw_A_mono hS.1 q) (fun q => zw_A_mono hS.1 q) (fun v M1 H1 locs1 hQ hP1 hS1 => ?_)
  · show st0.map (zw_v G.2.2) = _
    rw [hst, List.map_append, List.map_reverse]
  · have := k v M1 hQ p e s m args below meth c H1 locs1 ls G R cells slots Z hK hE hP1 hS1 hL
    rw [List.map_append] at this
    cases v <;> exact this
/-- a nest mate's private static method -/
theorem zx_callN {l : zw_Lh} {d : Nat} {y : zw_I} {Q : Option Value → zw_M → Prop} {pc : Nat} {L st st0 : List Value} {M : zw_M} {y1 : zw_I} {idx : Nat} {host : String} {vs : List Value} {Q1 : Option Value → zw_M → Prop} {n : Nat}
    (hd : decode y.2.1 pc = .ok (.invokestatic idx, 3)) (hl : (y.1.cls, idx, y1.1, host) ∈ zs_nest) (hy : zw_yS y1 n) (hC : zw_C l d y1 vs M Q1) (hst : st0 = vs.reverse ++ st) (hn : vs.length = n) (hcat : (st.map fun v => v.category).sum ≤ 8)
    (k : ∀ v M', Q1 v M' → zw_X l (d + 1) y Q (pc + 3) L (v.toList ++ st) M') : zw_X l (d + 1) y Q pc L st0 M := by
  intro p e s m args below meth c H locs ls G R cells slots Z hK hE hP hS hL
  obtain ⟨k1, k2, k3, k4, k5, k6, k7, k8, k9, k10⟩ := id hK
  have hw1 : ∀ w ∈ zs_G, w ∈ zs_G := fun w h => h
  have hcode : Cond.code y1.1 y1.2.1 y1.2.2.1 y1.2.2.2 ∈ zs_G := hy.1 _ (by simp)
  have hgood : GoodIn zs_G (zw_ws y1) := fun w hw => by
    rcases List.mem_cons.mp hw with rfl | h
    · exact ⟨hw1 _ hcode, good_of_word (List.mem_filter.mp hcode).2⟩
    · exact ⟨hw1 _ h, good_of_word (List.mem_filter.mp h).2⟩
  have ok : ∀ w ∈ [Cond.static y1.1, .initialized y1.1.cls, .code y1.1 y1.2.1 y1.2.2.1 y1.2.2.2], w.before args s = true := fun w h => k6 w (hw1 w (hy.1 w h))
  have hcb := va_cnB (args := args) (R := R) (rm := zw_rm d) (own := y.1.cls) (index := idx) (host := host) (mc := 0) (ms := 0) n k6 hgood rfl rfl rfl (k10.1 _ hl) (ok _ (by simp)) hy.2.1 ⟨by show d + 1 ≤ R.frames; exact hE.1.1, by show 8 + (y1.2.2.1 + 11) + d * 40 ≤ R.locals; have := hy.2.2; have := hE.1.2.1; omega⟩
  refine zw_go (Q1 := Q1) (rest := st.map (zw_v G.2.2)) (va_runSN (As := vs.map (zw_v G.2.2)) ⟨k1, k2, k4, k5, k6⟩ (hC G H.size k9) ⟨hcb, ok _ (by simp), trivial⟩ ⟨zw_blind, fun U hU hW => ⟨rfl, by rw [hU], by rw [hU]; exact hP, va_K.moved hW.alike k8, zw_N_at hW hU hS k9 k10⟩⟩ rfl (by simpa using hn) hL.2.1 ?_ (lv_room (zw_cat hcat)) hd ⟨hE.1.2.2.1, hE.1.2.2.2⟩) hS (fun q _ => zw_A_mono hS.1 q) (fun q => zw_A_mono hS.1 q) (fun v M1 H1 locs1 hQ hP1 hS1 => ?_)
  · show st0.map (zw_v G.2.2) = _
    rw [hst, List.map_append, List.map_reverse]
  · have := k v M1 hQ p e s m args below meth c H1 locs1 ls G R cells slots Z hK hE hP1 hS1 hL
    rw [List.map_append] at this
    cases v <;> exact this
theorem zx_imp {l : zw_Lh} {d : Nat} {y : zw_I} {Q Q1 : Option Value → zw_M → Prop} {pc : Nat} {L st : List Value} {M : zw_M} (h : ∀ v M', Q1 v M' → Q v M') (k : zw_X l d y Q1 pc L st M) : zw_X l d y Q pc L st M := by
  intro p e s m args below meth c H locs ls G R cells slots Z hK hE hP hS hL
  refine k p e s m args below meth c H locs ls G R cells slots Z hK ⟨hE.1, fun t ht => hE.2 t ?_⟩ hP hS hL
  obtain ⟨o, b1, b2, ⟨⟨v, M1, c1, c2, c3⟩, c4⟩, b4⟩ := ht
  exact ⟨o, b1, b2, ⟨⟨v, M1, c1, h v M1 c2, c3⟩, c4⟩, b4⟩
/-- the answers' shapes -/
def zw_i (x : Int32) (M : zw_M) : Option Value → zw_M → Prop := fun v M' => v = some (.int x) ∧ M' = M
def zw_l (x : Int64) (M : zw_M) : Option Value → zw_M → Prop := fun v M' => v = some (.long x) ∧ M' = M
def zw_u (M : zw_M) : Option Value → zw_M → Prop := fun v M' => v = none ∧ M' = M
theorem zk_i {x : Int32} {M : zw_M} {P : Option Value → zw_M → Prop} (h : P (some (.int x)) M) : ∀ v M', zw_i x M v M' → P v M' := fun v M' q => by obtain ⟨rfl, rfl⟩ := q; exact h
theorem zk_l {x : Int64} {M : zw_M} {P : Option Value → zw_M → Prop} (h : P (some (.long x)) M) : ∀ v M', zw_l x M v M' → P v M' := fun v M' q => by obtain ⟨rfl, rfl⟩ := q; exact h
theorem zk_u {M : zw_M} {P : Option Value → zw_M → Prop} (h : P none M) : ∀ v M', zw_u M v M' → P v M' := fun v M' q => by obtain ⟨rfl, rfl⟩ := q; exact h
end
section
theorem oX0 : zw_okc 0 RX0 TX0 4 tyX0 := ⟨rfl, zw_in_p (ws := u_ws RX0 TX0 4) [120, 122, 124, 126] (by decide +kernel) (by decide +kernel), tyX0_ok, nmX0⟩
theorem rc_13 : zw_rc 13 RX0 := ⟨0, _, TX0, 4, rfl, rfl⟩
theorem oX1 : zw_okc 1 RX1 TX1 7 tyX1 := ⟨rfl, zw_in_p (ws := u_ws RX1 TX1 7) [69, 71, 73, 75, 77, 79, 81] (by decide +kernel) (by decide +kernel), tyX1_ok, nmX1⟩
theorem rc_4 : zw_rc 4 RX1 := ⟨1, _, TX1, 7, rfl, rfl⟩
theorem oX2 : zw_okc 2 RX2 TX2 6 tyX2 := ⟨rfl, zw_in_p (ws := u_ws RX2 TX2 6) [227, 229, 231, 233, 235, 237] (by decide +kernel) (by decide +kernel), tyX2_ok, nmX2⟩
theorem rc_27 : zw_rc 27 RX2 := ⟨2, _, TX2, 6, rfl, rfl⟩
theorem oX3 : zw_okc 3 RX3 TX3 2 tyX3 := ⟨rfl, zw_in_p (ws := u_ws RX3 TX3 2) [34, 36] (by decide +kernel) (by decide +kernel), tyX3_ok, nmX3⟩
theorem rc_1 : zw_rc 1 RX3 := ⟨3, _, TX3, 2, rfl, rfl⟩
theorem oX4 : zw_okc 4 RX4 TX4 3 tyX4 := ⟨rfl, zw_in_p (ws := u_ws RX4 TX4 3) [49, 51, 53] (by decide +kernel) (by decide +kernel), tyX4_ok, nmX4⟩
theorem rc_3 : zw_rc 3 RX4 := ⟨4, _, TX4, 3, rfl, rfl⟩
theorem oX5 : zw_okc 5 RX5 TX5 7 tyX5 := ⟨rfl, zw_in_p (ws := u_ws RX5 TX5 7) [140, 142, 144, 146, 148, 150, 152] (by decide +kernel) (by decide +kernel), tyX5_ok, nmX5⟩
theorem rc_16 : zw_rc 16 RX5 := ⟨5, _, TX5, 7, rfl, rfl⟩
theorem oX6 : zw_okc 6 RX6 TX6 4 tyX6 := ⟨rfl, zw_in_p (ws := u_ws RX6 TX6 4) [249, 251, 253, 255] (by decide +kernel) (by decide +kernel), tyX6_ok, nmX6⟩
theorem rc_31 : zw_rc 31 RX6 := ⟨6, _, TX6, 4, rfl, rfl⟩
theorem oX7 : zw_okc 7 RX7 TX7 6 tyX7 := ⟨rfl, zw_in_p (ws := u_ws RX7 TX7 6) [202, 204, 206, 208, 210, 212] (by decide +kernel) (by decide +kernel), tyX7_ok, nmX7⟩
theorem rc_24 : zw_rc 24 RX7 := ⟨7, _, TX7, 6, rfl, rfl⟩
theorem oX8 : zw_okc 8 RX8 TX8 6 tyX8 := ⟨rfl, zw_in_p (ws := u_ws RX8 TX8 6) [97, 99, 101, 103, 105, 107] (by decide +kernel) (by decide +kernel), tyX8_ok, nmX8⟩
theorem rc_8 : zw_rc 8 RX8 := ⟨8, _, TX8, 6, rfl, rfl⟩
theorem oX9 : zw_okc 9 RX9 TX9 11 tyX9 := ⟨rfl, zw_in_p (ws := u_ws RX9 TX9 11) [168, 170, 172, 174, 176, 178, 180, 182, 184, 186, 188] (by decide +kernel) (by decide +kernel), tyX9_ok, nmX9⟩
theorem rc_19 : zw_rc 19 RX9 := ⟨9, _, TX9, 11, rfl, rfl⟩
theorem oX10 : zw_okc 10 RX10 TX10 13 tyX10 := ⟨rfl, zw_in_p (ws := u_ws RX10 TX10 13) [271, 273, 275, 277, 279, 281, 283, 285, 287, 289, 291, 293, 295] (by decide +kernel) (by decide +kernel), tyX10_ok, nmX10⟩
theorem rc_0 : zw_rc 0 RX10 := ⟨10, _, TX10, 13, rfl, rfl⟩
abbrev iX0_init : zw_I := (yX0_init, cX0_init, 3, none)
abbrev iX0_leanEast : zw_I := (yX0_leanEast, cX0_leanEast, 4, some .int)
theorem vX0_leanEast : zw_yV iX0_leanEast 1 := ⟨zw_in_p [373, 374, 11, 375] (by decide +kernel) (by decide +kernel), ⟨by decide +kernel, by decide +kernel, by decide +kernel⟩, by decide⟩
abbrev iX0_leanSouth : zw_I := (yX0_leanSouth, cX0_leanSouth, 4, some .int)
theorem vX0_leanSouth : zw_yV iX0_leanSouth 1 := ⟨zw_in_p [388, 389, 11, 390] (by decide +kernel) (by decide +kernel), ⟨by decide +kernel, by decide +kernel, by decide +kernel⟩, by decide⟩
abbrev iX0_wetIn : zw_I := (yX0_wetIn, cX0_wetIn, 2, some .int)
theorem vX0_wetIn : zw_yV iX0_wetIn 1 := ⟨zw_in_p [410, 411, 11, 412] (by decide +kernel) (by decide +kernel), ⟨by decide +kernel, by decide +kernel, by decide +kernel⟩, by decide⟩
abbrev iX1_init : zw_I := (yX1_init, cX1_init, 1, none)
abbrev iX1_read : zw_I := (yX1_read, cX1_read, 8, none)
theorem vX1_read : zw_yV iX1_read 3 := ⟨zw_in_p [560, 561, 9, 562] (by decide +kernel) (by decide +kernel), ⟨by decide +kernel, by decide +kernel, by decide +kernel⟩, by decide⟩
abbrev iX1_addSquare : zw_I := (yX1_addSquare, cX1_addSquare, 4, none)
theorem vX1_addSquare : zw_yV iX1_addSquare 3 := ⟨zw_in_p [567, 4, 9, 568] (by decide +kernel) (by decide +kernel), ⟨by decide +kernel, by decide +kernel, by decide +kernel⟩, by decide⟩
abbrev iX1_fromCentre : zw_I := (yX1_fromCentre, cX1_fromCentre, 2, some .int)
theorem sX1_fromCentre : zw_yS iX1_fromCentre 2 := ⟨zw_in_p [570, 9, 571] (by decide +kernel) (by decide +kernel), ⟨by decide +kernel, by decide +kernel, by decide +kernel⟩, by decide⟩
abbrev iX1_isThere : zw_I := (yX1_isThere, cX1_isThere, 1, some .boolean)
theorem vX1_isThere : zw_yV iX1_isThere 0 := ⟨zw_in_p [428, 429, 9, 430] (by decide +kernel) (by decide +kernel), ⟨by decide +kernel, by decide +kernel, by decide +kernel⟩, by decide⟩
abbrev iX1_squares : zw_I := (yX1_squares, cX1_squares, 1, some .int)
theorem vX1_squares : zw_yV iX1_squares 0 := ⟨zw_in_p [464, 465, 9, 466] (by decide +kernel) (by decide +kernel), ⟨by decide +kernel, by decide +kernel, by decide +kernel⟩, by decide⟩
abbrev iX1_doors : zw_I := (yX1_doors, cX1_doors, 1, some .int)
theorem vX1_doors : zw_yV iX1_doors 0 := ⟨zw_in_p [468, 469, 9, 470] (by decide +kernel) (by decide +kernel), ⟨by decide +kernel, by decide +kernel, by decide +kernel⟩, by decide⟩
abbrev iX1_has : zw_I := (yX1_has, cX1_has, 2, some .boolean)
theorem vX1_has : zw_yV iX1_has 1 := ⟨zw_in_p [347, 348, 9, 349] (by decide +kernel) (by decide +kernel), ⟨by decide +kernel, by decide +kernel, by decide +kernel⟩, by decide⟩
abbrev iX1_hasAll : zw_I := (yX1_hasAll, cX1_hasAll, 2, some .boolean)
theorem vX1_hasAll : zw_yV iX1_hasAll 1 := ⟨zw_in_p [424, 425, 9, 426] (by decide +kernel) (by decide +kernel), ⟨by decide +kernel, by decide +kernel, by decide +kernel⟩, by decide⟩
abbrev iX1_east : zw_I := (yX1_east, cX1_east, 2, some .int)
theorem vX1_east : zw_yV iX1_east 1 := ⟨zw_in_p [383, 384, 9, 385] (by decide +kernel) (by decide +kernel), ⟨by decide +kernel, by decide +kernel, by decide +kernel⟩, by decide⟩
abbrev iX1_south : zw_I := (yX1_south, cX1_south, 2, some .int)
theorem vX1_south : zw_yV iX1_south 1 := ⟨zw_in_p [392, 393, 9, 394] (by decide +kernel) (by decide +kernel), ⟨by decide +kernel, by decide +kernel, by decide +kernel⟩, by decide⟩
abbrev iX1_dipOf : zw_I := (yX1_dipOf, cX1_dipOf, 4, some .int)
theorem vX1_dipOf : zw_yV iX1_dipOf 3 := ⟨zw_in_p [402, 403, 9, 404] (by decide +kernel) (by decide +kernel), ⟨by decide +kernel, by decide +kernel, by decide +kernel⟩, by decide⟩
abbrev iX1_wetDoors : zw_I := (yX1_wetDoors, cX1_wetDoors, 7, some .int)
theorem vX1_wetDoors : zw_yV iX1_wetDoors 2 := ⟨zw_in_p [416, 417, 9, 418] (by decide +kernel) (by decide +kernel), ⟨by decide +kernel, by decide +kernel, by decide +kernel⟩, by decide⟩
abbrev iX2_init : zw_I := (yX2_init, cX2_init, 4, none)
abbrev iX2_found : zw_I := (yX2_found, cX2_found, 2, some .int)
theorem vX2_found : zw_yV iX2_found 1 := ⟨zw_in_p [456, 457, 15, 458] (by decide +kernel) (by decide +kernel), ⟨by decide +kernel, by decide +kernel, by decide +kernel⟩, by decide⟩
abbrev iX2_search : zw_I := (yX2_search, cX2_search, 10, none)
theorem vX2_search : zw_yV iX2_search 2 := ⟨zw_in_p [432, 433, 15, 434] (by decide +kernel) (by decide +kernel), ⟨by decide +kernel, by decide +kernel, by decide +kernel⟩, by decide⟩
abbrev iX2_measureChanges : zw_I := (yX2_measureChanges, cX2_measureChanges, 6, none)
theorem vX2_measureChanges : zw_yV iX2_measureChanges 1 := ⟨zw_in_p [437, 0, 15, 438] (by decide +kernel) (by decide +kernel), ⟨by decide +kernel, by decide +kernel, by decide +kernel⟩, by decide⟩
abbrev iX2_wetDoorsIfLate : zw_I := (yX2_wetDoorsIfLate, cX2_wetDoorsIfLate, 7, some .int)
theorem vX2_wetDoorsIfLate : zw_yV iX2_wetDoorsIfLate 3 := ⟨zw_in_p [452, 1, 15, 453] (by decide +kernel) (by decide +kernel), ⟨by decide +kernel, by decide +kernel, by decide +kernel⟩, by decide⟩
abbrev iX3_init : zw_I := (yX3_init, cX3_init, 1, none)
abbrev iX3_length : zw_I := (yX3_length, cX3_length, 1, some .int)
theorem vX3_length : zw_yV iX3_length 0 := ⟨zw_in_p [484, 485, 7, 486] (by decide +kernel) (by decide +kernel), ⟨by decide +kernel, by decide +kernel, by decide +kernel⟩, by decide⟩
abbrev iX3_letter : zw_I := (yX3_letter, cX3_letter, 2, some .int)
theorem vX3_letter : zw_yV iX3_letter 1 := ⟨zw_in_p [522, 523, 7, 524] (by decide +kernel) (by decide +kernel), ⟨by decide +kernel, by decide +kernel, by decide +kernel⟩, by decide⟩
abbrev iX3_clear : zw_I := (yX3_clear, cX3_clear, 1, none)
theorem vX3_clear : zw_yV iX3_clear 0 := ⟨zw_in_p [577, 578, 7, 579] (by decide +kernel) (by decide +kernel), ⟨by decide +kernel, by decide +kernel, by decide +kernel⟩, by decide⟩
abbrev iX3_add : zw_I := (yX3_add, cX3_add, 5, some .int)
theorem vX3_add : zw_yV iX3_add 1 := ⟨zw_in_p [502, 503, 7, 504] (by decide +kernel) (by decide +kernel), ⟨by decide +kernel, by decide +kernel, by decide +kernel⟩, by decide⟩
abbrev iX3_lettersTold : zw_I := (yX3_lettersTold, cX3_lettersTold, 6, some .int)
theorem sX3_lettersTold : zw_yS iX3_lettersTold 1 := ⟨zw_in_p [506, 7, 507] (by decide +kernel) (by decide +kernel), ⟨by decide +kernel, by decide +kernel, by decide +kernel⟩, by decide⟩
abbrev iX3_codeAt : zw_I := (yX3_codeAt, cX3_codeAt, 3, some .int)
theorem sX3_codeAt : zw_yS iX3_codeAt 2 := ⟨zw_in_p [509, 7, 510] (by decide +kernel) (by decide +kernel), ⟨by decide +kernel, by decide +kernel, by decide +kernel⟩, by decide⟩
abbrev iX3_wayFault : zw_I := (yX3_wayFault, cX3_wayFault, 2, some .int)
theorem vX3_wayFault : zw_yV iX3_wayFault 0 := ⟨zw_in_p [534, 535, 7, 536] (by decide +kernel) (by decide +kernel), ⟨by decide +kernel, by decide +kernel, by decide +kernel⟩, by decide⟩
abbrev iX3_wayAt : zw_I := (yX3_wayAt, cX3_wayAt, 2, some .int)
theorem vX3_wayAt : zw_yV iX3_wayAt 1 := ⟨zw_in_p [538, 539, 7, 540] (by decide +kernel) (by decide +kernel), ⟨by decide +kernel, by decide +kernel, by decide +kernel⟩, by decide⟩
abbrev iX4_init : zw_I := (yX4_init, cX4_init, 1, none)
abbrev iX4_rows : zw_I := (yX4_rows, cX4_rows, 1, some .int)
theorem vX4_rows : zw_yV iX4_rows 0 := ⟨zw_in_p [552, 553, 8, 554] (by decide +kernel) (by decide +kernel), ⟨by decide +kernel, by decide +kernel, by decide +kernel⟩, by decide⟩
abbrev iX4_columns : zw_I := (yX4_columns, cX4_columns, 1, some .int)
theorem vX4_columns : zw_yV iX4_columns 0 := ⟨zw_in_p [556, 557, 8, 558] (by decide +kernel) (by decide +kernel), ⟨by decide +kernel, by decide +kernel, by decide +kernel⟩, by decide⟩
abbrev iX4_isWhole : zw_I := (yX4_isWhole, cX4_isWhole, 2, some .boolean)
theorem vX4_isWhole : zw_yV iX4_isWhole 1 := ⟨zw_in_p [547, 548, 8, 549] (by decide +kernel) (by decide +kernel), ⟨by decide +kernel, by decide +kernel, by decide +kernel⟩, by decide⟩
abbrev iX4_faultIn : zw_I := (yX4_faultIn, cX4_faultIn, 3, some .int)
theorem vX4_faultIn : zw_yV iX4_faultIn 1 := ⟨zw_in_p [517, 518, 8, 519] (by decide +kernel) (by decide +kernel), ⟨by decide +kernel, by decide +kernel, by decide +kernel⟩, by decide⟩
abbrev iX4_takes : zw_I := (yX4_takes, cX4_takes, 4, some .boolean)
theorem vX4_takes : zw_yV iX4_takes 1 := ⟨zw_in_p [527, 2, 8, 528] (by decide +kernel) (by decide +kernel), ⟨by decide +kernel, by decide +kernel, by decide +kernel⟩, by decide⟩
abbrev iX4_endsRow : zw_I := (yX4_endsRow, cX4_endsRow, 2, some .boolean)
theorem vX4_endsRow : zw_yV iX4_endsRow 0 := ⟨zw_in_p [531, 3, 8, 532] (by decide +kernel) (by decide +kernel), ⟨by decide +kernel, by decide +kernel, by decide +kernel⟩, by decide⟩
abbrev iX5_init : zw_I := (yX5_init, cX5_init, 4, none)
abbrev iX6_init : zw_I := (yX6_init, cX6_init, 3, none)
abbrev iX7_init : zw_I := (yX7_init, cX7_init, 4, none)
abbrev iX8_init : zw_I := (yX8_init, cX8_init, 1, none)
abbrev iX8_clear : zw_I := (yX8_clear, cX8_clear, 1, none)
theorem vX8_clear : zw_yV iX8_clear 0 := ⟨zw_in_p [573, 574, 10, 575] (by decide +kernel) (by decide +kernel), ⟨by decide +kernel, by decide +kernel, by decide +kernel⟩, by decide⟩
abbrev iX8_size : zw_I := (yX8_size, cX8_size, 1, some .int)
theorem vX8_size : zw_yV iX8_size 0 := ⟨zw_in_p [377, 378, 10, 379] (by decide +kernel) (by decide +kernel), ⟨by decide +kernel, by decide +kernel, by decide +kernel⟩, by decide⟩
abbrev iX8_has : zw_I := (yX8_has, cX8_has, 2, some .boolean)
theorem vX8_has : zw_yV iX8_has 1 := ⟨zw_in_p [303, 304, 10, 305] (by decide +kernel) (by decide +kernel), ⟨by decide +kernel, by decide +kernel, by decide +kernel⟩, by decide⟩
abbrev iX8_add : zw_I := (yX8_add, cX8_add, 5, some .int)
theorem vX8_add : zw_yV iX8_add 3 := ⟨zw_in_p [591, 592, 10, 593] (by decide +kernel) (by decide +kernel), ⟨by decide +kernel, by decide +kernel, by decide +kernel⟩, by decide⟩
abbrev iX8_kind : zw_I := (yX8_kind, cX8_kind, 2, some .int)
theorem vX8_kind : zw_yV iX8_kind 1 := ⟨zw_in_p [318, 319, 10, 320] (by decide +kernel) (by decide +kernel), ⟨by decide +kernel, by decide +kernel, by decide +kernel⟩, by decide⟩
abbrev iX8_weight : zw_I := (yX8_weight, cX8_weight, 2, some .int)
theorem vX8_weight : zw_yV iX8_weight 1 := ⟨zw_in_p [322, 323, 10, 324] (by decide +kernel) (by decide +kernel), ⟨by decide +kernel, by decide +kernel, by decide +kernel⟩, by decide⟩
abbrev iX8_weighs : zw_I := (yX8_weighs, cX8_weighs, 2, some .int)
theorem vX8_weighs : zw_yV iX8_weighs 1 := ⟨zw_in_p [326, 327, 10, 328] (by decide +kernel) (by decide +kernel), ⟨by decide +kernel, by decide +kernel, by decide +kernel⟩, by decide⟩
abbrev iX8_isA : zw_I := (yX8_isA, cX8_isA, 4, some .boolean)
theorem vX8_isA : zw_yV iX8_isA 2 := ⟨zw_in_p [337, 338, 10, 339] (by decide +kernel) (by decide +kernel), ⟨by decide +kernel, by decide +kernel, by decide +kernel⟩, by decide⟩
abbrev iX8_people : zw_I := (yX8_people, cX8_people, 1, some .int)
theorem vX8_people : zw_yV iX8_people 0 := ⟨zw_in_p [473, 474, 10, 475] (by decide +kernel) (by decide +kernel), ⟨by decide +kernel, by decide +kernel, by decide +kernel⟩, by decide⟩
abbrev iX8_peopleBits : zw_I := (yX8_peopleBits, cX8_peopleBits, 3, some .int)
theorem vX8_peopleBits : zw_yV iX8_peopleBits 0 := ⟨zw_in_p [444, 445, 10, 446] (by decide +kernel) (by decide +kernel), ⟨by decide +kernel, by decide +kernel, by decide +kernel⟩, by decide⟩
abbrev iX8_place : zw_I := (yX8_place, cX8_place, 3, some .int)
theorem vX8_place : zw_yV iX8_place 2 := ⟨zw_in_p [310, 311, 10, 312] (by decide +kernel) (by decide +kernel), ⟨by decide +kernel, by decide +kernel, by decide +kernel⟩, by decide⟩
abbrev iX8_move : zw_I := (yX8_move, cX8_move, 4, none)
theorem vX8_move : zw_yV iX8_move 3 := ⟨zw_in_p [351, 352, 10, 353] (by decide +kernel) (by decide +kernel), ⟨by decide +kernel, by decide +kernel, by decide +kernel⟩, by decide⟩
abbrev iX8_moveAllDay : zw_I := (yX8_moveAllDay, cX8_moveAllDay, 4, none)
theorem vX8_moveAllDay : zw_yV iX8_moveAllDay 2 := ⟨zw_in_p [359, 360, 10, 361] (by decide +kernel) (by decide +kernel), ⟨by decide +kernel, by decide +kernel, by decide +kernel⟩, by decide⟩
abbrev iX9_init : zw_I := (yX9_init, cX9_init, 4, none)
abbrev iX10_init : zw_I := (yX10_init, cX10_init, 1, none)
abbrev iX10_letters : zw_I := (yX10_letters, cX10_letters, 3, some .int)
theorem vX10_letters : zw_yV iX10_letters 1 := ⟨zw_in_p [498, 499, 6, 500] (by decide +kernel) (by decide +kernel), ⟨by decide +kernel, by decide +kernel, by decide +kernel⟩, by decide⟩
abbrev iX10_fault : zw_I := (yX10_fault, cX10_fault, 2, some .int)
theorem vX10_fault : zw_yV iX10_fault 1 := ⟨zw_in_p [513, 514, 6, 515] (by decide +kernel) (by decide +kernel), ⟨by decide +kernel, by decide +kernel, by decide +kernel⟩, by decide⟩
abbrev iX10_plan : zw_I := (yX10_plan, cX10_plan, 1, some .int)
theorem vX10_plan : zw_yV iX10_plan 0 := ⟨zw_in_p [543, 544, 6, 545] (by decide +kernel) (by decide +kernel), ⟨by decide +kernel, by decide +kernel, by decide +kernel⟩, by decide⟩
abbrev iX10_thing : zw_I := (yX10_thing, cX10_thing, 4, some .int)
theorem vX10_thing : zw_yV iX10_thing 3 := ⟨zw_in_p [584, 585, 6, 586] (by decide +kernel) (by decide +kernel), ⟨by decide +kernel, by decide +kernel, by decide +kernel⟩, by decide⟩
abbrev iX10_about : zw_I := (yX10_about, cX10_about, 3, some .int)
theorem vX10_about : zw_yV iX10_about 2 := ⟨zw_in_p [299, 300, 6, 301] (by decide +kernel) (by decide +kernel), ⟨by decide +kernel, by decide +kernel, by decide +kernel⟩, by decide⟩
abbrev iX10_as : zw_I := (yX10_as, cX10_as, 3, some .int)
theorem vX10_as : zw_yV iX10_as 2 := ⟨zw_in_p [330, 331, 6, 332] (by decide +kernel) (by decide +kernel), ⟨by decide +kernel, by decide +kernel, by decide +kernel⟩, by decide⟩
abbrev iX10_stand : zw_I := (yX10_stand, cX10_stand, 5, some .int)
theorem vX10_stand : zw_yV iX10_stand 3 := ⟨zw_in_p [342, 343, 6, 344] (by decide +kernel) (by decide +kernel), ⟨by decide +kernel, by decide +kernel, by decide +kernel⟩, by decide⟩
abbrev iX10_put : zw_I := (yX10_put, cX10_put, 4, some .int)
theorem vX10_put : zw_yV iX10_put 2 := ⟨zw_in_p [355, 356, 6, 357] (by decide +kernel) (by decide +kernel), ⟨by decide +kernel, by decide +kernel, by decide +kernel⟩, by decide⟩
abbrev iX10_trade : zw_I := (yX10_trade, cX10_trade, 6, some .int)
theorem vX10_trade : zw_yV iX10_trade 3 := ⟨zw_in_p [364, 365, 6, 366] (by decide +kernel) (by decide +kernel), ⟨by decide +kernel, by decide +kernel, by decide +kernel⟩, by decide⟩
abbrev iX10_leans : zw_I := (yX10_leans, cX10_leans, 3, some .int)
theorem vX10_leans : zw_yV iX10_leans 2 := ⟨zw_in_p [368, 369, 6, 370] (by decide +kernel) (by decide +kernel), ⟨by decide +kernel, by decide +kernel, by decide +kernel⟩, by decide⟩
abbrev iX10_dip : zw_I := (yX10_dip, cX10_dip, 3, some .int)
theorem vX10_dip : zw_yV iX10_dip 2 := ⟨zw_in_p [397, 398, 6, 399] (by decide +kernel) (by decide +kernel), ⟨by decide +kernel, by decide +kernel, by decide +kernel⟩, by decide⟩
abbrev iX10_wet : zw_I := (yX10_wet, cX10_wet, 2, some .int)
theorem vX10_wet : zw_yV iX10_wet 1 := ⟨zw_in_p [406, 407, 6, 408] (by decide +kernel) (by decide +kernel), ⟨by decide +kernel, by decide +kernel, by decide +kernel⟩, by decide⟩
abbrev iX10_late : zw_I := (yX10_late, cX10_late, 4, some .int)
theorem vX10_late : zw_yV iX10_late 3 := ⟨zw_in_p [420, 421, 6, 422] (by decide +kernel) (by decide +kernel), ⟨by decide +kernel, by decide +kernel, by decide +kernel⟩, by decide⟩
abbrev iX10_count : zw_I := (yX10_count, cX10_count, 2, some .int)
theorem vX10_count : zw_yV iX10_count 1 := ⟨zw_in_p [460, 461, 6, 462] (by decide +kernel) (by decide +kernel), ⟨by decide +kernel, by decide +kernel, by decide +kernel⟩, by decide⟩
abbrev iX10_isQuarter : zw_I := (yX10_isQuarter, cX10_isQuarter, 1, some .boolean)
theorem sX10_isQuarter : zw_yS iX10_isQuarter 1 := ⟨zw_in_p [315, 6, 316] (by decide +kernel) (by decide +kernel), ⟨by decide +kernel, by decide +kernel, by decide +kernel⟩, by decide⟩
abbrev iX10_isKind : zw_I := (yX10_isKind, cX10_isKind, 1, some .boolean)
theorem sX10_isKind : zw_yS iX10_isKind 1 := ⟨zw_in_p [334, 6, 335] (by decide +kernel) (by decide +kernel), ⟨by decide +kernel, by decide +kernel, by decide +kernel⟩, by decide⟩
abbrev iX10_isWeight : zw_I := (yX10_isWeight, cX10_isWeight, 1, some .boolean)
theorem sX10_isWeight : zw_yS iX10_isWeight 1 := ⟨zw_in_p [588, 6, 589] (by decide +kernel) (by decide +kernel), ⟨by decide +kernel, by decide +kernel, by decide +kernel⟩, by decide⟩
abbrev iX10_asksPlace : zw_I := (yX10_asksPlace, cX10_asksPlace, 1, some .boolean)
theorem sX10_asksPlace : zw_yS iX10_asksPlace 1 := ⟨zw_in_p [307, 6, 308] (by decide +kernel) (by decide +kernel), ⟨by decide +kernel, by decide +kernel, by decide +kernel⟩, by decide⟩
abbrev iJ6_bitCount_0f7a4 : zw_I := (yJ6_bitCount_0f7a4, cJ6_bitCount_0f7a4, 1, some .int)
theorem sJ6_bitCount_0f7a4 : zw_yS iJ6_bitCount_0f7a4 1 := ⟨zw_in_p [478, 17, 479] (by decide +kernel) (by decide +kernel), ⟨by decide +kernel, by decide +kernel, by decide +kernel⟩, by decide⟩
abbrev iL_cell : zw_I := (yL_cell, cL_cell, 2, some .int)
theorem sL_cell : zw_yS iL_cell 2 := ⟨zw_in_p [488, 5, 489] (by decide +kernel) (by decide +kernel), ⟨by decide +kernel, by decide +kernel, by decide +kernel⟩, by decide⟩
abbrev iL_put : zw_I := (yL_put, cL_put, 2, some .boolean)
theorem sL_put : zw_yS iL_put 2 := ⟨zw_in_p [495, 5, 496] (by decide +kernel) (by decide +kernel), ⟨by decide +kernel, by decide +kernel, by decide +kernel⟩, by decide⟩
abbrev iL_plan : zw_I := (yL_plan, cL_plan, 9, some .boolean)
theorem sL_plan : zw_yS iL_plan 6 := ⟨zw_in_p [492, 5, 493] (by decide +kernel) (by decide +kernel), ⟨by decide +kernel, by decide +kernel, by decide +kernel⟩, by decide⟩
abbrev iL_things : zw_I := (yL_things, cL_things, 13, some .boolean)
theorem sL_things : zw_yS iL_things 6 := ⟨zw_in_p [581, 5, 582] (by decide +kernel) (by decide +kernel), ⟨by decide +kernel, by decide +kernel, by decide +kernel⟩, by decide⟩
abbrev iL_weighs : zw_I := (yL_weighs, cL_weighs, 2, some .int)
theorem sL_weighs : zw_yS iL_weighs 2 := ⟨zw_in_p [596, 5, 597] (by decide +kernel) (by decide +kernel), ⟨by decide +kernel, by decide +kernel, by decide +kernel⟩, by decide⟩
abbrev iL_east : zw_I := (yL_east, cL_east, 2, some .int)
theorem sL_east : zw_yS iL_east 2 := ⟨zw_in_p [599, 5, 600] (by decide +kernel) (by decide +kernel), ⟨by decide +kernel, by decide +kernel, by decide +kernel⟩, by decide⟩
abbrev iL_south : zw_I := (yL_south, cL_south, 2, some .int)
theorem sL_south : zw_yS iL_south 2 := ⟨zw_in_p [602, 5, 603] (by decide +kernel) (by decide +kernel), ⟨by decide +kernel, by decide +kernel, by decide +kernel⟩, by decide⟩
abbrev iL_wet : zw_I := (yL_wet, cL_wet, 7, some .int)
theorem sL_wet : zw_yS iL_wet 4 := ⟨zw_in_p [605, 5, 606] (by decide +kernel) (by decide +kernel), ⟨by decide +kernel, by decide +kernel, by decide +kernel⟩, by decide⟩
abbrev iL_wetAt : zw_I := (yL_wetAt, cL_wetAt, 8, some .int)
theorem sL_wetAt : zw_yS iL_wetAt 5 := ⟨zw_in_p [608, 5, 609] (by decide +kernel) (by decide +kernel), ⟨by decide +kernel, by decide +kernel, by decide +kernel⟩, by decide⟩
theorem lL_71 : zw_in [Cond.methodLink RL 71 yX10_about] := zw_in_p [298] (by decide +kernel) (by decide +kernel)
theorem lX10_150 : zw_in [Cond.methodLink RX10 150 yX8_has] := zw_in_p [302] (by decide +kernel) (by decide +kernel)
theorem lX10_151 : zw_in [Cond.methodLink RX10 151 yX10_asksPlace] := zw_in_p [306] (by decide +kernel) (by decide +kernel)
theorem lX10_154 : zw_in [Cond.methodLink RX10 154 yX8_place] := zw_in_p [309] (by decide +kernel) (by decide +kernel)
theorem lX8_35 : zw_in [Cond.methodLink RX8 35 yX8_has] := zw_in_p [313] (by decide +kernel) (by decide +kernel)
theorem lX10_158 : zw_in [Cond.methodLink RX10 158 yX8_kind] := zw_in_p [317] (by decide +kernel) (by decide +kernel)
theorem lX10_161 : zw_in [Cond.methodLink RX10 161 yX8_weight] := zw_in_p [321] (by decide +kernel) (by decide +kernel)
theorem lX10_164 : zw_in [Cond.methodLink RX10 164 yX8_weighs] := zw_in_p [325] (by decide +kernel) (by decide +kernel)
theorem lL_62 : zw_in [Cond.methodLink RL 62 yX10_as] := zw_in_p [329] (by decide +kernel) (by decide +kernel)
theorem lX10_141 : zw_in [Cond.methodLink RX10 141 yX10_isKind] := zw_in_p [333] (by decide +kernel) (by decide +kernel)
theorem lX10_167 : zw_in [Cond.methodLink RX10 167 yX8_isA] := zw_in_p [336] (by decide +kernel) (by decide +kernel)
theorem lX8_39 : zw_in [Cond.methodLink RX8 39 yX8_kind] := zw_in_p [340] (by decide +kernel) (by decide +kernel)
theorem lL_39 : zw_in [Cond.methodLink RL 39 yX10_stand] := zw_in_p [341] (by decide +kernel) (by decide +kernel)
theorem lX10_171 : zw_in [Cond.methodLink RX10 171 yX10_isQuarter] := zw_in_p [345] (by decide +kernel) (by decide +kernel)
theorem lX10_125 : zw_in [Cond.methodLink RX10 125 yX1_has] := zw_in_p [346] (by decide +kernel) (by decide +kernel)
theorem lX10_174 : zw_in [Cond.methodLink RX10 174 yX8_move] := zw_in_p [350] (by decide +kernel) (by decide +kernel)
theorem lL_66 : zw_in [Cond.methodLink RL 66 yX10_put] := zw_in_p [354] (by decide +kernel) (by decide +kernel)
theorem lX10_178 : zw_in [Cond.methodLink RX10 178 yX8_moveAllDay] := zw_in_p [358] (by decide +kernel) (by decide +kernel)
theorem lX8_59 : zw_in [Cond.methodLink RX8 59 yX8_move] := zw_in_p [362] (by decide +kernel) (by decide +kernel)
theorem lL_68 : zw_in [Cond.methodLink RL 68 yX10_trade] := zw_in_p [363] (by decide +kernel) (by decide +kernel)
theorem lL_74 : zw_in [Cond.methodLink RL 74 yX10_leans] := zw_in_p [367] (by decide +kernel) (by decide +kernel)
theorem lX10_182 : zw_in [Cond.methodLink RX10 182 yX0_leanEast] := zw_in_p [372] (by decide +kernel) (by decide +kernel)
theorem lX0_26 : zw_in [Cond.methodLink RX0 26 yX8_size] := zw_in_p [376] (by decide +kernel) (by decide +kernel)
theorem lX0_32 : zw_in [Cond.methodLink RX0 32 yX8_weighs] := zw_in_p [380] (by decide +kernel) (by decide +kernel)
theorem lX0_36 : zw_in [Cond.methodLink RX0 36 yX8_place] := zw_in_p [381] (by decide +kernel) (by decide +kernel)
theorem lX0_40 : zw_in [Cond.methodLink RX0 40 yX1_east] := zw_in_p [382] (by decide +kernel) (by decide +kernel)
theorem lX1_52 : zw_in [Cond.methodLink RX1 52 yX1_has] := zw_in_p [386] (by decide +kernel) (by decide +kernel)
theorem lX10_185 : zw_in [Cond.methodLink RX10 185 yX0_leanSouth] := zw_in_p [387] (by decide +kernel) (by decide +kernel)
theorem lX0_45 : zw_in [Cond.methodLink RX0 45 yX1_south] := zw_in_p [391] (by decide +kernel) (by decide +kernel)
theorem lL_79 : zw_in [Cond.methodLink RL 79 yX10_dip] := zw_in_p [396] (by decide +kernel) (by decide +kernel)
theorem lX10_189 : zw_in [Cond.methodLink RX10 189 yX1_dipOf] := zw_in_p [401] (by decide +kernel) (by decide +kernel)
theorem lL_77 : zw_in [Cond.methodLink RL 77 yX10_wet] := zw_in_p [405] (by decide +kernel) (by decide +kernel)
theorem lX10_192 : zw_in [Cond.methodLink RX10 192 yX0_wetIn] := zw_in_p [409] (by decide +kernel) (by decide +kernel)
theorem lX0_48 : zw_in [Cond.methodLink RX0 48 yX0_leanEast] := zw_in_p [413] (by decide +kernel) (by decide +kernel)
theorem lX0_51 : zw_in [Cond.methodLink RX0 51 yX0_leanSouth] := zw_in_p [414] (by decide +kernel) (by decide +kernel)
theorem lX0_54 : zw_in [Cond.methodLink RX0 54 yX1_wetDoors] := zw_in_p [415] (by decide +kernel) (by decide +kernel)
theorem lL_86 : zw_in [Cond.methodLink RL 86 yX10_late] := zw_in_p [419] (by decide +kernel) (by decide +kernel)
theorem lX10_240 : zw_in [Cond.methodLink RX10 240 yX1_hasAll] := zw_in_p [423] (by decide +kernel) (by decide +kernel)
theorem lX10_195 : zw_in [Cond.methodLink RX10 195 yX1_isThere] := zw_in_p [427] (by decide +kernel) (by decide +kernel)
theorem lX10_243 : zw_in [Cond.methodLink RX10 243 yX2_search] := zw_in_p [431] (by decide +kernel) (by decide +kernel)
theorem lX2_33 : zw_in [Cond.methodLink RX2 33 yX2_measureChanges] := zw_in_p [435] (by decide +kernel) (by decide +kernel)
theorem lX2_56 : zw_in [Cond.methodLink RX2 56 yX8_place] := zw_in_p [439] (by decide +kernel) (by decide +kernel)
theorem lX2_60 : zw_in [Cond.methodLink RX2 60 yX8_weighs] := zw_in_p [440] (by decide +kernel) (by decide +kernel)
theorem lX2_63 : zw_in [Cond.methodLink RX2 63 yX1_east] := zw_in_p [441] (by decide +kernel) (by decide +kernel)
theorem lX2_68 : zw_in [Cond.methodLink RX2 68 yX1_south] := zw_in_p [442] (by decide +kernel) (by decide +kernel)
theorem lX2_37 : zw_in [Cond.methodLink RX2 37 yX8_peopleBits] := zw_in_p [443] (by decide +kernel) (by decide +kernel)
theorem lX8_52 : zw_in [Cond.methodLink RX8 52 yX8_isA] := zw_in_p [447] (by decide +kernel) (by decide +kernel)
theorem lX2_43 : zw_in [Cond.methodLink RX2 43 yX0_leanEast] := zw_in_p [448] (by decide +kernel) (by decide +kernel)
theorem lX2_49 : zw_in [Cond.methodLink RX2 49 yX0_leanSouth] := zw_in_p [449] (by decide +kernel) (by decide +kernel)
theorem lX2_52 : zw_in [Cond.methodLink RX2 52 yX2_wetDoorsIfLate] := zw_in_p [450] (by decide +kernel) (by decide +kernel)
theorem lX2_71 : zw_in [Cond.methodLink RX2 71 yX1_wetDoors] := zw_in_p [454] (by decide +kernel) (by decide +kernel)
theorem lX10_245 : zw_in [Cond.methodLink RX10 245 yX2_found] := zw_in_p [455] (by decide +kernel) (by decide +kernel)
theorem lL_28 : zw_in [Cond.methodLink RL 28 yX10_count] := zw_in_p [459] (by decide +kernel) (by decide +kernel)
theorem lX10_122 : zw_in [Cond.methodLink RX10 122 yX1_squares] := zw_in_p [463] (by decide +kernel) (by decide +kernel)
theorem lX10_271 : zw_in [Cond.methodLink RX10 271 yX1_doors] := zw_in_p [467] (by decide +kernel) (by decide +kernel)
theorem lX10_262 : zw_in [Cond.methodLink RX10 262 yX8_size] := zw_in_p [471] (by decide +kernel) (by decide +kernel)
theorem lX10_199 : zw_in [Cond.methodLink RX10 199 yX8_people] := zw_in_p [472] (by decide +kernel) (by decide +kernel)
theorem lX8_43 : zw_in [Cond.methodLink RX8 43 yX8_peopleBits] := zw_in_p [476] (by decide +kernel) (by decide +kernel)
theorem lX8_47 : zw_in [Cond.methodLink RX8 47 yJ6_bitCount_0f7a4] := zw_in_p [477] (by decide +kernel) (by decide +kernel)
theorem lX10_89 : zw_in [Cond.methodLink RX10 89 yX3_length] := zw_in_p [483] (by decide +kernel) (by decide +kernel)
theorem lL_14 : zw_in [Cond.methodLink RL 14 yL_cell] := zw_in_p [487] (by decide +kernel) (by decide +kernel)
theorem lL_56 : zw_in [Cond.methodLink RL 56 yL_plan] := zw_in_p [491] (by decide +kernel) (by decide +kernel)
theorem lL_20 : zw_in [Cond.methodLink RL 20 yL_put] := zw_in_p [494] (by decide +kernel) (by decide +kernel)
theorem lL_8 : zw_in [Cond.methodLink RL 8 yX10_letters] := zw_in_p [497] (by decide +kernel) (by decide +kernel)
theorem lX10_85 : zw_in [Cond.methodLink RX10 85 yX3_add] := zw_in_p [501] (by decide +kernel) (by decide +kernel)
theorem lX3_19 : zw_in [Cond.methodLink RX3 19 yX3_lettersTold] := zw_in_p [505] (by decide +kernel) (by decide +kernel)
theorem lX3_23 : zw_in [Cond.methodLink RX3 23 yX3_codeAt] := zw_in_p [508] (by decide +kernel) (by decide +kernel)
theorem lL_24 : zw_in [Cond.methodLink RL 24 yX10_fault] := zw_in_p [512] (by decide +kernel) (by decide +kernel)
theorem lX10_96 : zw_in [Cond.methodLink RX10 96 yX4_faultIn] := zw_in_p [516] (by decide +kernel) (by decide +kernel)
theorem lX4_22 : zw_in [Cond.methodLink RX4 22 yX3_length] := zw_in_p [520] (by decide +kernel) (by decide +kernel)
theorem lX4_31 : zw_in [Cond.methodLink RX4 31 yX3_letter] := zw_in_p [521] (by decide +kernel) (by decide +kernel)
theorem lX4_35 : zw_in [Cond.methodLink RX4 35 yX4_takes] := zw_in_p [525] (by decide +kernel) (by decide +kernel)
theorem lX4_39 : zw_in [Cond.methodLink RX4 39 yX4_endsRow] := zw_in_p [529] (by decide +kernel) (by decide +kernel)
theorem lX10_100 : zw_in [Cond.methodLink RX10 100 yX3_wayFault] := zw_in_p [533] (by decide +kernel) (by decide +kernel)
theorem lX3_33 : zw_in [Cond.methodLink RX3 33 yX3_wayAt] := zw_in_p [537] (by decide +kernel) (by decide +kernel)
theorem lX3_37 : zw_in [Cond.methodLink RX3 37 yX3_letter] := zw_in_p [541] (by decide +kernel) (by decide +kernel)
theorem lL_31 : zw_in [Cond.methodLink RL 31 yX10_plan] := zw_in_p [542] (by decide +kernel) (by decide +kernel)
theorem lX10_103 : zw_in [Cond.methodLink RX10 103 yX4_isWhole] := zw_in_p [546] (by decide +kernel) (by decide +kernel)
theorem lX4_18 : zw_in [Cond.methodLink RX4 18 yX4_faultIn] := zw_in_p [550] (by decide +kernel) (by decide +kernel)
theorem lX10_107 : zw_in [Cond.methodLink RX10 107 yX4_rows] := zw_in_p [551] (by decide +kernel) (by decide +kernel)
theorem lX10_110 : zw_in [Cond.methodLink RX10 110 yX4_columns] := zw_in_p [555] (by decide +kernel) (by decide +kernel)
theorem lX10_113 : zw_in [Cond.methodLink RX10 113 yX1_read] := zw_in_p [559] (by decide +kernel) (by decide +kernel)
theorem lX1_34 : zw_in [Cond.methodLink RX1 34 yX3_length] := zw_in_p [563] (by decide +kernel) (by decide +kernel)
theorem lX1_40 : zw_in [Cond.methodLink RX1 40 yX3_letter] := zw_in_p [564] (by decide +kernel) (by decide +kernel)
theorem lX1_44 : zw_in [Cond.methodLink RX1 44 yX1_addSquare] := zw_in_p [565] (by decide +kernel) (by decide +kernel)
theorem lX1_48 : zw_in [Cond.methodLink RX1 48 yX1_fromCentre] := zw_in_p [569] (by decide +kernel) (by decide +kernel)
theorem lX10_117 : zw_in [Cond.methodLink RX10 117 yX8_clear] := zw_in_p [572] (by decide +kernel) (by decide +kernel)
theorem lX10_93 : zw_in [Cond.methodLink RX10 93 yX3_clear] := zw_in_p [576] (by decide +kernel) (by decide +kernel)
theorem lL_59 : zw_in [Cond.methodLink RL 59 yL_things] := zw_in_p [580] (by decide +kernel) (by decide +kernel)
theorem lL_35 : zw_in [Cond.methodLink RL 35 yX10_thing] := zw_in_p [583] (by decide +kernel) (by decide +kernel)
theorem lX10_144 : zw_in [Cond.methodLink RX10 144 yX10_isWeight] := zw_in_p [587] (by decide +kernel) (by decide +kernel)
theorem lX10_147 : zw_in [Cond.methodLink RX10 147 yX8_add] := zw_in_p [590] (by decide +kernel) (by decide +kernel)
theorem lX8_31 : zw_in [Cond.methodLink RX8 31 yX8_moveAllDay] := zw_in_p [594] (by decide +kernel) (by decide +kernel)
theorem lL_48 : zw_in [Cond.methodLink RL 48 yL_weighs] := zw_in_p [595] (by decide +kernel) (by decide +kernel)
theorem lL_42 : zw_in [Cond.methodLink RL 42 yL_east] := zw_in_p [598] (by decide +kernel) (by decide +kernel)
theorem lL_45 : zw_in [Cond.methodLink RL 45 yL_south] := zw_in_p [601] (by decide +kernel) (by decide +kernel)
theorem lL_51 : zw_in [Cond.methodLink RL 51 yL_wet] := zw_in_p [604] (by decide +kernel) (by decide +kernel)
theorem lL_82 : zw_in [Cond.methodLink RL 82 yL_wetAt] := zw_in_p [607] (by decide +kernel) (by decide +kernel)
theorem fX3_9 : zw_F RX3 9 1 0 (some (some 2)) (tyX3 0) true := ⟨3, RX3, TX3, 2, tyX3, _, oX3, by decide, zw_in_p (ws := [Cond.fieldLink RX3 9 (TX3 0).1 (TX3 0).2.1 (TX3 0).2.2.1]) [32] (by decide +kernel) (by decide +kernel) _ List.mem_cons_self, rfl, rfl, rfl, rfl⟩
theorem fX3_15 : zw_F RX3 15 1 1 (none) (tyX3 1) false := ⟨3, RX3, TX3, 2, tyX3, _, oX3, by decide, zw_in_p (ws := [Cond.fieldLink RX3 15 (TX3 1).1 (TX3 1).2.1 (TX3 1).2.2.1]) [33] (by decide +kernel) (by decide +kernel) _ List.mem_cons_self, rfl, rfl, rfl, rfl⟩
theorem fX4_9 : zw_F RX4 9 3 0 (none) (tyX4 0) false := ⟨4, RX4, TX4, 3, tyX4, _, oX4, by decide, zw_in_p (ws := [Cond.fieldLink RX4 9 (TX4 0).1 (TX4 0).2.1 (TX4 0).2.2.1]) [46] (by decide +kernel) (by decide +kernel) _ List.mem_cons_self, rfl, rfl, rfl, rfl⟩
theorem fX4_15 : zw_F RX4 15 3 1 (none) (tyX4 1) false := ⟨4, RX4, TX4, 3, tyX4, _, oX4, by decide, zw_in_p (ws := [Cond.fieldLink RX4 15 (TX4 1).1 (TX4 1).2.1 (TX4 1).2.2.1]) [47] (by decide +kernel) (by decide +kernel) _ List.mem_cons_self, rfl, rfl, rfl, rfl⟩
theorem fX4_28 : zw_F RX4 28 3 2 (none) (tyX4 2) false := ⟨4, RX4, TX4, 3, tyX4, _, oX4, by decide, zw_in_p (ws := [Cond.fieldLink RX4 28 (TX4 2).1 (TX4 2).2.1 (TX4 2).2.2.1]) [48] (by decide +kernel) (by decide +kernel) _ List.mem_cons_self, rfl, rfl, rfl, rfl⟩
theorem fX1_9 : zw_F RX1 9 4 0 (some (some 5)) (tyX1 0) true := ⟨1, RX1, TX1, 7, tyX1, _, oX1, by decide, zw_in_p (ws := [Cond.fieldLink RX1 9 (TX1 0).1 (TX1 0).2.1 (TX1 0).2.2.1]) [62] (by decide +kernel) (by decide +kernel) _ List.mem_cons_self, rfl, rfl, rfl, rfl⟩
theorem fX1_15 : zw_F RX1 15 4 1 (some (some 6)) (tyX1 1) true := ⟨1, RX1, TX1, 7, tyX1, _, oX1, by decide, zw_in_p (ws := [Cond.fieldLink RX1 15 (TX1 1).1 (TX1 1).2.1 (TX1 1).2.2.1]) [63] (by decide +kernel) (by decide +kernel) _ List.mem_cons_self, rfl, rfl, rfl, rfl⟩
theorem fX1_18 : zw_F RX1 18 4 2 (some (some 7)) (tyX1 2) true := ⟨1, RX1, TX1, 7, tyX1, _, oX1, by decide, zw_in_p (ws := [Cond.fieldLink RX1 18 (TX1 2).1 (TX1 2).2.1 (TX1 2).2.2.1]) [64] (by decide +kernel) (by decide +kernel) _ List.mem_cons_self, rfl, rfl, rfl, rfl⟩
theorem fX1_21 : zw_F RX1 21 4 3 (none) (tyX1 3) false := ⟨1, RX1, TX1, 7, tyX1, _, oX1, by decide, zw_in_p (ws := [Cond.fieldLink RX1 21 (TX1 3).1 (TX1 3).2.1 (TX1 3).2.2.1]) [65] (by decide +kernel) (by decide +kernel) _ List.mem_cons_self, rfl, rfl, rfl, rfl⟩
theorem fX1_25 : zw_F RX1 25 4 4 (none) (tyX1 4) false := ⟨1, RX1, TX1, 7, tyX1, _, oX1, by decide, zw_in_p (ws := [Cond.fieldLink RX1 25 (TX1 4).1 (TX1 4).2.1 (TX1 4).2.2.1]) [66] (by decide +kernel) (by decide +kernel) _ List.mem_cons_self, rfl, rfl, rfl, rfl⟩
theorem fX1_28 : zw_F RX1 28 4 5 (none) (tyX1 5) false := ⟨1, RX1, TX1, 7, tyX1, _, oX1, by decide, zw_in_p (ws := [Cond.fieldLink RX1 28 (TX1 5).1 (TX1 5).2.1 (TX1 5).2.2.1]) [67] (by decide +kernel) (by decide +kernel) _ List.mem_cons_self, rfl, rfl, rfl, rfl⟩
theorem fX1_31 : zw_F RX1 31 4 6 (none) (tyX1 6) false := ⟨1, RX1, TX1, 7, tyX1, _, oX1, by decide, zw_in_p (ws := [Cond.fieldLink RX1 31 (TX1 6).1 (TX1 6).2.1 (TX1 6).2.2.1]) [68] (by decide +kernel) (by decide +kernel) _ List.mem_cons_self, rfl, rfl, rfl, rfl⟩
theorem fX8_9 : zw_F RX8 9 8 0 (some (some 9)) (tyX8 0) true := ⟨8, RX8, TX8, 6, tyX8, _, oX8, by decide, zw_in_p (ws := [Cond.fieldLink RX8 9 (TX8 0).1 (TX8 0).2.1 (TX8 0).2.2.1]) [91] (by decide +kernel) (by decide +kernel) _ List.mem_cons_self, rfl, rfl, rfl, rfl⟩
theorem fX8_15 : zw_F RX8 15 8 1 (some (some 10)) (tyX8 1) true := ⟨8, RX8, TX8, 6, tyX8, _, oX8, by decide, zw_in_p (ws := [Cond.fieldLink RX8 15 (TX8 1).1 (TX8 1).2.1 (TX8 1).2.2.1]) [92] (by decide +kernel) (by decide +kernel) _ List.mem_cons_self, rfl, rfl, rfl, rfl⟩
theorem fX8_18 : zw_F RX8 18 8 2 (some (some 11)) (tyX8 2) true := ⟨8, RX8, TX8, 6, tyX8, _, oX8, by decide, zw_in_p (ws := [Cond.fieldLink RX8 18 (TX8 2).1 (TX8 2).2.1 (TX8 2).2.2.1]) [93] (by decide +kernel) (by decide +kernel) _ List.mem_cons_self, rfl, rfl, rfl, rfl⟩
theorem fX8_21 : zw_F RX8 21 8 3 (some (some 12)) (tyX8 3) true := ⟨8, RX8, TX8, 6, tyX8, _, oX8, by decide, zw_in_p (ws := [Cond.fieldLink RX8 21 (TX8 3).1 (TX8 3).2.1 (TX8 3).2.2.1]) [94] (by decide +kernel) (by decide +kernel) _ List.mem_cons_self, rfl, rfl, rfl, rfl⟩
theorem fX8_28 : zw_F RX8 28 8 4 (none) (tyX8 4) false := ⟨8, RX8, TX8, 6, tyX8, _, oX8, by decide, zw_in_p (ws := [Cond.fieldLink RX8 28 (TX8 4).1 (TX8 4).2.1 (TX8 4).2.2.1]) [95] (by decide +kernel) (by decide +kernel) _ List.mem_cons_self, rfl, rfl, rfl, rfl⟩
theorem fX8_24 : zw_F RX8 24 8 5 (none) (tyX8 5) false := ⟨8, RX8, TX8, 6, tyX8, _, oX8, by decide, zw_in_p (ws := [Cond.fieldLink RX8 24 (TX8 5).1 (TX8 5).2.1 (TX8 5).2.2.1]) [96] (by decide +kernel) (by decide +kernel) _ List.mem_cons_self, rfl, rfl, rfl, rfl⟩
theorem fX0_18 : zw_F RX0 18 13 0 (some (some 4)) (tyX0 0) true := ⟨0, RX0, TX0, 4, tyX0, _, oX0, by decide, zw_in_p (ws := [Cond.fieldLink RX0 18 (TX0 0).1 (TX0 0).2.1 (TX0 0).2.2.1]) [116] (by decide +kernel) (by decide +kernel) _ List.mem_cons_self, rfl, rfl, rfl, rfl⟩
theorem fX0_22 : zw_F RX0 22 13 1 (some (some 8)) (tyX0 1) true := ⟨0, RX0, TX0, 4, tyX0, _, oX0, by decide, zw_in_p (ws := [Cond.fieldLink RX0 22 (TX0 1).1 (TX0 1).2.1 (TX0 1).2.2.1]) [117] (by decide +kernel) (by decide +kernel) _ List.mem_cons_self, rfl, rfl, rfl, rfl⟩
theorem fX0_9 : zw_F RX0 9 13 2 (some (some 14)) (tyX0 2) true := ⟨0, RX0, TX0, 4, tyX0, _, oX0, by decide, zw_in_p (ws := [Cond.fieldLink RX0 9 (TX0 2).1 (TX0 2).2.1 (TX0 2).2.2.1]) [118] (by decide +kernel) (by decide +kernel) _ List.mem_cons_self, rfl, rfl, rfl, rfl⟩
theorem fX0_15 : zw_F RX0 15 13 3 (some (some 15)) (tyX0 3) true := ⟨0, RX0, TX0, 4, tyX0, _, oX0, by decide, zw_in_p (ws := [Cond.fieldLink RX0 15 (TX0 3).1 (TX0 3).2.1 (TX0 3).2.2.1]) [119] (by decide +kernel) (by decide +kernel) _ List.mem_cons_self, rfl, rfl, rfl, rfl⟩
theorem fX5_18 : zw_F RX5 18 16 0 (some (some 1)) (tyX5 0) true := ⟨5, RX5, TX5, 7, tyX5, _, oX5, by decide, zw_in_p (ws := [Cond.fieldLink RX5 18 (TX5 0).1 (TX5 0).2.1 (TX5 0).2.2.1]) [135] (by decide +kernel) (by decide +kernel) _ List.mem_cons_self, rfl, rfl, rfl, rfl⟩
theorem fX5_22 : zw_F RX5 22 16 1 (some (some 4)) (tyX5 1) true := ⟨5, RX5, TX5, 7, tyX5, _, oX5, by decide, zw_in_p (ws := [Cond.fieldLink RX5 22 (TX5 1).1 (TX5 1).2.1 (TX5 1).2.2.1]) [136] (by decide +kernel) (by decide +kernel) _ List.mem_cons_self, rfl, rfl, rfl, rfl⟩
theorem fX5_26 : zw_F RX5 26 16 2 (some (some 13)) (tyX5 2) true := ⟨5, RX5, TX5, 7, tyX5, _, oX5, by decide, zw_in_p (ws := [Cond.fieldLink RX5 26 (TX5 2).1 (TX5 2).2.1 (TX5 2).2.2.1]) [137] (by decide +kernel) (by decide +kernel) _ List.mem_cons_self, rfl, rfl, rfl, rfl⟩
theorem fX5_9 : zw_F RX5 9 16 3 (some (some 17)) (tyX5 3) true := ⟨5, RX5, TX5, 7, tyX5, _, oX5, by decide, zw_in_p (ws := [Cond.fieldLink RX5 9 (TX5 3).1 (TX5 3).2.1 (TX5 3).2.2.1]) [138] (by decide +kernel) (by decide +kernel) _ List.mem_cons_self, rfl, rfl, rfl, rfl⟩
theorem fX5_15 : zw_F RX5 15 16 4 (some (some 18)) (tyX5 4) true := ⟨5, RX5, TX5, 7, tyX5, _, oX5, by decide, zw_in_p (ws := [Cond.fieldLink RX5 15 (TX5 4).1 (TX5 4).2.1 (TX5 4).2.2.1]) [139] (by decide +kernel) (by decide +kernel) _ List.mem_cons_self, rfl, rfl, rfl, rfl⟩
theorem fX9_24 : zw_F RX9 24 19 0 (some (some 4)) (tyX9 0) true := ⟨9, RX9, TX9, 11, tyX9, _, oX9, by decide, zw_in_p (ws := [Cond.fieldLink RX9 24 (TX9 0).1 (TX9 0).2.1 (TX9 0).2.2.1]) [161] (by decide +kernel) (by decide +kernel) _ List.mem_cons_self, rfl, rfl, rfl, rfl⟩
theorem fX9_28 : zw_F RX9 28 19 1 (some (some 8)) (tyX9 1) true := ⟨9, RX9, TX9, 11, tyX9, _, oX9, by decide, zw_in_p (ws := [Cond.fieldLink RX9 28 (TX9 1).1 (TX9 1).2.1 (TX9 1).2.2.1]) [162] (by decide +kernel) (by decide +kernel) _ List.mem_cons_self, rfl, rfl, rfl, rfl⟩
theorem fX9_32 : zw_F RX9 32 19 2 (some (some 13)) (tyX9 2) true := ⟨9, RX9, TX9, 11, tyX9, _, oX9, by decide, zw_in_p (ws := [Cond.fieldLink RX9 32 (TX9 2).1 (TX9 2).2.1 (TX9 2).2.2.1]) [163] (by decide +kernel) (by decide +kernel) _ List.mem_cons_self, rfl, rfl, rfl, rfl⟩
theorem fX9_9 : zw_F RX9 9 19 3 (some (some 20)) (tyX9 3) true := ⟨9, RX9, TX9, 11, tyX9, _, oX9, by decide, zw_in_p (ws := [Cond.fieldLink RX9 9 (TX9 3).1 (TX9 3).2.1 (TX9 3).2.2.1]) [164] (by decide +kernel) (by decide +kernel) _ List.mem_cons_self, rfl, rfl, rfl, rfl⟩
theorem fX9_15 : zw_F RX9 15 19 4 (some (some 21)) (tyX9 4) true := ⟨9, RX9, TX9, 11, tyX9, _, oX9, by decide, zw_in_p (ws := [Cond.fieldLink RX9 15 (TX9 4).1 (TX9 4).2.1 (TX9 4).2.2.1]) [165] (by decide +kernel) (by decide +kernel) _ List.mem_cons_self, rfl, rfl, rfl, rfl⟩
theorem fX9_18 : zw_F RX9 18 19 5 (some (some 22)) (tyX9 5) true := ⟨9, RX9, TX9, 11, tyX9, _, oX9, by decide, zw_in_p (ws := [Cond.fieldLink RX9 18 (TX9 5).1 (TX9 5).2.1 (TX9 5).2.2.1]) [166] (by decide +kernel) (by decide +kernel) _ List.mem_cons_self, rfl, rfl, rfl, rfl⟩
theorem fX9_21 : zw_F RX9 21 19 6 (some (some 23)) (tyX9 6) true := ⟨9, RX9, TX9, 11, tyX9, _, oX9, by decide, zw_in_p (ws := [Cond.fieldLink RX9 21 (TX9 6).1 (TX9 6).2.1 (TX9 6).2.2.1]) [167] (by decide +kernel) (by decide +kernel) _ List.mem_cons_self, rfl, rfl, rfl, rfl⟩
theorem fX7_18 : zw_F RX7 18 24 0 (some (some 4)) (tyX7 0) true := ⟨7, RX7, TX7, 6, tyX7, _, oX7, by decide, zw_in_p (ws := [Cond.fieldLink RX7 18 (TX7 0).1 (TX7 0).2.1 (TX7 0).2.2.1]) [197] (by decide +kernel) (by decide +kernel) _ List.mem_cons_self, rfl, rfl, rfl, rfl⟩
theorem fX7_22 : zw_F RX7 22 24 1 (some (some 8)) (tyX7 1) true := ⟨7, RX7, TX7, 6, tyX7, _, oX7, by decide, zw_in_p (ws := [Cond.fieldLink RX7 22 (TX7 1).1 (TX7 1).2.1 (TX7 1).2.2.1]) [198] (by decide +kernel) (by decide +kernel) _ List.mem_cons_self, rfl, rfl, rfl, rfl⟩
theorem fX7_26 : zw_F RX7 26 24 2 (some (some 13)) (tyX7 2) true := ⟨7, RX7, TX7, 6, tyX7, _, oX7, by decide, zw_in_p (ws := [Cond.fieldLink RX7 26 (TX7 2).1 (TX7 2).2.1 (TX7 2).2.2.1]) [199] (by decide +kernel) (by decide +kernel) _ List.mem_cons_self, rfl, rfl, rfl, rfl⟩
theorem fX7_11 : zw_F RX7 11 24 3 (some (some 25)) (tyX7 3) true := ⟨7, RX7, TX7, 6, tyX7, _, oX7, by decide, zw_in_p (ws := [Cond.fieldLink RX7 11 (TX7 3).1 (TX7 3).2.1 (TX7 3).2.2.1]) [200] (by decide +kernel) (by decide +kernel) _ List.mem_cons_self, rfl, rfl, rfl, rfl⟩
theorem fX7_15 : zw_F RX7 15 24 4 (some (some 26)) (tyX7 4) true := ⟨7, RX7, TX7, 6, tyX7, _, oX7, by decide, zw_in_p (ws := [Cond.fieldLink RX7 15 (TX7 4).1 (TX7 4).2.1 (TX7 4).2.2.1]) [201] (by decide +kernel) (by decide +kernel) _ List.mem_cons_self, rfl, rfl, rfl, rfl⟩
theorem fX2_21 : zw_F RX2 21 27 0 (some (some 4)) (tyX2 0) true := ⟨2, RX2, TX2, 6, tyX2, _, oX2, by decide, zw_in_p (ws := [Cond.fieldLink RX2 21 (TX2 0).1 (TX2 0).2.1 (TX2 0).2.2.1]) [221] (by decide +kernel) (by decide +kernel) _ List.mem_cons_self, rfl, rfl, rfl, rfl⟩
theorem fX2_25 : zw_F RX2 25 27 1 (some (some 8)) (tyX2 1) true := ⟨2, RX2, TX2, 6, tyX2, _, oX2, by decide, zw_in_p (ws := [Cond.fieldLink RX2 25 (TX2 1).1 (TX2 1).2.1 (TX2 1).2.2.1]) [222] (by decide +kernel) (by decide +kernel) _ List.mem_cons_self, rfl, rfl, rfl, rfl⟩
theorem fX2_29 : zw_F RX2 29 27 2 (some (some 13)) (tyX2 2) true := ⟨2, RX2, TX2, 6, tyX2, _, oX2, by decide, zw_in_p (ws := [Cond.fieldLink RX2 29 (TX2 2).1 (TX2 2).2.1 (TX2 2).2.2.1]) [223] (by decide +kernel) (by decide +kernel) _ List.mem_cons_self, rfl, rfl, rfl, rfl⟩
theorem fX2_11 : zw_F RX2 11 27 3 (some (some 28)) (tyX2 3) true := ⟨2, RX2, TX2, 6, tyX2, _, oX2, by decide, zw_in_p (ws := [Cond.fieldLink RX2 11 (TX2 3).1 (TX2 3).2.1 (TX2 3).2.2.1]) [224] (by decide +kernel) (by decide +kernel) _ List.mem_cons_self, rfl, rfl, rfl, rfl⟩
theorem fX2_15 : zw_F RX2 15 27 4 (some (some 29)) (tyX2 4) true := ⟨2, RX2, TX2, 6, tyX2, _, oX2, by decide, zw_in_p (ws := [Cond.fieldLink RX2 15 (TX2 4).1 (TX2 4).2.1 (TX2 4).2.2.1]) [225] (by decide +kernel) (by decide +kernel) _ List.mem_cons_self, rfl, rfl, rfl, rfl⟩
theorem fX2_18 : zw_F RX2 18 27 5 (some (some 30)) (tyX2 5) true := ⟨2, RX2, TX2, 6, tyX2, _, oX2, by decide, zw_in_p (ws := [Cond.fieldLink RX2 18 (TX2 5).1 (TX2 5).2.1 (TX2 5).2.2.1]) [226] (by decide +kernel) (by decide +kernel) _ List.mem_cons_self, rfl, rfl, rfl, rfl⟩
theorem fX6_15 : zw_F RX6 15 31 0 (some (some 4)) (tyX6 0) true := ⟨6, RX6, TX6, 4, tyX6, _, oX6, by decide, zw_in_p (ws := [Cond.fieldLink RX6 15 (TX6 0).1 (TX6 0).2.1 (TX6 0).2.2.1]) [246] (by decide +kernel) (by decide +kernel) _ List.mem_cons_self, rfl, rfl, rfl, rfl⟩
theorem fX6_19 : zw_F RX6 19 31 1 (some (some 8)) (tyX6 1) true := ⟨6, RX6, TX6, 4, tyX6, _, oX6, by decide, zw_in_p (ws := [Cond.fieldLink RX6 19 (TX6 1).1 (TX6 1).2.1 (TX6 1).2.2.1]) [247] (by decide +kernel) (by decide +kernel) _ List.mem_cons_self, rfl, rfl, rfl, rfl⟩
theorem fX6_9 : zw_F RX6 9 31 2 (some (some 32)) (tyX6 2) true := ⟨6, RX6, TX6, 4, tyX6, _, oX6, by decide, zw_in_p (ws := [Cond.fieldLink RX6 9 (TX6 2).1 (TX6 2).2.1 (TX6 2).2.2.1]) [248] (by decide +kernel) (by decide +kernel) _ List.mem_cons_self, rfl, rfl, rfl, rfl⟩
theorem fX10_10 : zw_F RX10 10 0 0 (some (some 1)) (tyX10 0) true := ⟨10, RX10, TX10, 13, tyX10, _, oX10, by decide, zw_in_p (ws := [Cond.fieldLink RX10 10 (TX10 0).1 (TX10 0).2.1 (TX10 0).2.2.1]) [258] (by decide +kernel) (by decide +kernel) _ List.mem_cons_self, rfl, rfl, rfl, rfl⟩
theorem fX10_19 : zw_F RX10 19 0 1 (some (some 3)) (tyX10 1) true := ⟨10, RX10, TX10, 13, tyX10, _, oX10, by decide, zw_in_p (ws := [Cond.fieldLink RX10 19 (TX10 1).1 (TX10 1).2.1 (TX10 1).2.2.1]) [259] (by decide +kernel) (by decide +kernel) _ List.mem_cons_self, rfl, rfl, rfl, rfl⟩
theorem fX10_26 : zw_F RX10 26 0 2 (some (some 4)) (tyX10 2) true := ⟨10, RX10, TX10, 13, tyX10, _, oX10, by decide, zw_in_p (ws := [Cond.fieldLink RX10 26 (TX10 2).1 (TX10 2).2.1 (TX10 2).2.2.1]) [260] (by decide +kernel) (by decide +kernel) _ List.mem_cons_self, rfl, rfl, rfl, rfl⟩
theorem fX10_33 : zw_F RX10 33 0 3 (some (some 8)) (tyX10 3) true := ⟨10, RX10, TX10, 13, tyX10, _, oX10, by decide, zw_in_p (ws := [Cond.fieldLink RX10 33 (TX10 3).1 (TX10 3).2.1 (TX10 3).2.2.1]) [261] (by decide +kernel) (by decide +kernel) _ List.mem_cons_self, rfl, rfl, rfl, rfl⟩
theorem fX10_42 : zw_F RX10 42 0 4 (some (some 13)) (tyX10 4) true := ⟨10, RX10, TX10, 13, tyX10, _, oX10, by decide, zw_in_p (ws := [Cond.fieldLink RX10 42 (TX10 4).1 (TX10 4).2.1 (TX10 4).2.2.1]) [262] (by decide +kernel) (by decide +kernel) _ List.mem_cons_self, rfl, rfl, rfl, rfl⟩
theorem fX10_51 : zw_F RX10 51 0 5 (some (some 16)) (tyX10 5) true := ⟨10, RX10, TX10, 13, tyX10, _, oX10, by decide, zw_in_p (ws := [Cond.fieldLink RX10 51 (TX10 5).1 (TX10 5).2.1 (TX10 5).2.2.1]) [263] (by decide +kernel) (by decide +kernel) _ List.mem_cons_self, rfl, rfl, rfl, rfl⟩
theorem fX10_60 : zw_F RX10 60 0 6 (some (some 19)) (tyX10 6) true := ⟨10, RX10, TX10, 13, tyX10, _, oX10, by decide, zw_in_p (ws := [Cond.fieldLink RX10 60 (TX10 6).1 (TX10 6).2.1 (TX10 6).2.2.1]) [264] (by decide +kernel) (by decide +kernel) _ List.mem_cons_self, rfl, rfl, rfl, rfl⟩
theorem fX10_67 : zw_F RX10 67 0 7 (some (some 24)) (tyX10 7) true := ⟨10, RX10, TX10, 13, tyX10, _, oX10, by decide, zw_in_p (ws := [Cond.fieldLink RX10 67 (TX10 7).1 (TX10 7).2.1 (TX10 7).2.2.1]) [265] (by decide +kernel) (by decide +kernel) _ List.mem_cons_self, rfl, rfl, rfl, rfl⟩
theorem fX10_74 : zw_F RX10 74 0 8 (some (some 27)) (tyX10 8) true := ⟨10, RX10, TX10, 13, tyX10, _, oX10, by decide, zw_in_p (ws := [Cond.fieldLink RX10 74 (TX10 8).1 (TX10 8).2.1 (TX10 8).2.2.1]) [266] (by decide +kernel) (by decide +kernel) _ List.mem_cons_self, rfl, rfl, rfl, rfl⟩
theorem fX10_81 : zw_F RX10 81 0 9 (some (some 31)) (tyX10 9) true := ⟨10, RX10, TX10, 13, tyX10, _, oX10, by decide, zw_in_p (ws := [Cond.fieldLink RX10 81 (TX10 9).1 (TX10 9).2.1 (TX10 9).2.2.1]) [267] (by decide +kernel) (by decide +kernel) _ List.mem_cons_self, rfl, rfl, rfl, rfl⟩
theorem fX10_118 : zw_F RX10 118 0 10 (none) (tyX10 10) false := ⟨10, RX10, TX10, 13, tyX10, _, oX10, by decide, zw_in_p (ws := [Cond.fieldLink RX10 118 (TX10 10).1 (TX10 10).2.1 (TX10 10).2.2.1]) [268] (by decide +kernel) (by decide +kernel) _ List.mem_cons_self, rfl, rfl, rfl, rfl⟩
theorem fX10_202 : zw_F RX10 202 0 11 (none) (tyX10 11) false := ⟨10, RX10, TX10, 13, tyX10, _, oX10, by decide, zw_in_p (ws := [Cond.fieldLink RX10 202 (TX10 11).1 (TX10 11).2.1 (TX10 11).2.2.1]) [269] (by decide +kernel) (by decide +kernel) _ List.mem_cons_self, rfl, rfl, rfl, rfl⟩
theorem fX10_229 : zw_F RX10 229 0 12 (none) (tyX10 12) false := ⟨10, RX10, TX10, 13, tyX10, _, oX10, by decide, zw_in_p (ws := [Cond.fieldLink RX10 229 (TX10 12).1 (TX10 12).2.1 (TX10 12).2.2.1]) [270] (by decide +kernel) (by decide +kernel) _ List.mem_cons_self, rfl, rfl, rfl, rfl⟩
theorem kX10_129 : Cond.constant RX10 129 (-100101) ∈ zs_G := zw_in_p (ws := [Cond.constant RX10 129 (-100101)]) [371] (by decide +kernel) (by decide +kernel) _ List.mem_cons_self
theorem kX10_140 : Cond.constant RX10 140 (-100102) ∈ zs_G := zw_in_p (ws := [Cond.constant RX10 140 (-100102)]) [395] (by decide +kernel) (by decide +kernel) _ List.mem_cons_self
theorem kX10_188 : Cond.constant RX10 188 (-1000101) ∈ zs_G := zw_in_p (ws := [Cond.constant RX10 188 (-1000101)]) [400] (by decide +kernel) (by decide +kernel) _ List.mem_cons_self
theorem kJ6_265 : Cond.constant RJ6 265 (1431655765) ∈ zs_G := zw_in_p (ws := [Cond.constant RJ6 265 (1431655765)]) [480] (by decide +kernel) (by decide +kernel) _ List.mem_cons_self
theorem kJ6_266 : Cond.constant RJ6 266 (858993459) ∈ zs_G := zw_in_p (ws := [Cond.constant RJ6 266 (858993459)]) [481] (by decide +kernel) (by decide +kernel) _ List.mem_cons_self
theorem kJ6_267 : Cond.constant RJ6 267 (252645135) ∈ zs_G := zw_in_p (ws := [Cond.constant RJ6 267 (252645135)]) [482] (by decide +kernel) (by decide +kernel) _ List.mem_cons_self
theorem kL_7 : Cond.constant RL 7 (2147483647) ∈ zs_G := zw_in_p (ws := [Cond.constant RL 7 (2147483647)]) [490] (by decide +kernel) (by decide +kernel) _ List.mem_cons_self
theorem kX3_27 : Cond.constantLong RX3 27 (255) ∈ zs_G := zw_in_p (ws := [Cond.constantLong RX3 27 (255)]) [511] (by decide +kernel) (by decide +kernel) _ List.mem_cons_self
theorem kL_89 : Cond.constant RL 89 (-100101) ∈ zs_G := zw_in_p (ws := [Cond.constant RL 89 (-100101)]) [610] (by decide +kernel) (by decide +kernel) _ List.mem_cons_self
theorem kL_90 : Cond.constant RL 90 (-100102) ∈ zs_G := zw_in_p (ws := [Cond.constant RL 90 (-100102)]) [611] (by decide +kernel) (by decide +kernel) _ List.mem_cons_self
theorem kL_91 : Cond.constant RL 91 (-1000101) ∈ zs_G := zw_in_p (ws := [Cond.constant RL 91 (-1000101)]) [612] (by decide +kernel) (by decide +kernel) _ List.mem_cons_self
end
section
/-! whole numbers on the stack: every int is zn_I of an integer -/
def zn_I (z : Int) : Int32 := Int32.ofInt z
def zn_B (p : Prop) [Decidable p] : Int32 := if p then zn_I 1 else zn_I 0
theorem zn_nat (n : Nat) : nI n = zn_I (n : Int) := by
  apply Int32.toBitVec_inj.1
  simp [nI, zn_I, Int32.ofInt, Int32.ofNat]
theorem zn_add (a b : Int) : zn_I a + zn_I b = zn_I (a + b) := (Int32.ofInt_add a b).symm
theorem zn_mul (a b : Int) : zn_I a * zn_I b = zn_I (a * b) := (Int32.ofInt_mul a b).symm
theorem zn_neg (a : Int) : -zn_I a = zn_I (-a) := (Int32.ofInt_neg a).symm
theorem zn_sub (a b : Int) : zn_I a - zn_I b = zn_I (a - b) := by
  rw [Int32.sub_eq_add_neg, zn_neg, zn_add, Int.sub_eq_add_neg]
theorem zn_toInt {z : Int} (h : -2147483648 ≤ z ∧ z < 2147483648) : (zn_I z).toInt = z := by
  have h2 : z.bmod (2 ^ 32) = z := by rw [Int.bmod_eq_of_le (by omega) (by omega)]
  rw [zn_I, Int32.toInt_ofInt]
  exact h2
theorem zn_self (x : Int32) : zn_I x.toInt = x := Int32.ofInt_toInt x
theorem zn_rng (x : Int32) : -2147483648 ≤ x.toInt ∧ x.toInt < 2147483648 := by
  have h1 := Int32.le_toInt x
  have h2 := Int32.toInt_lt x
  omega
/-- any int is one of an integer in range -/
theorem zn_ex (x : Int32) : ∃ z : Int, -2147483648 ≤ z ∧ z < 2147483648 ∧ x = zn_I z := ⟨x.toInt, (zn_rng x).1, (zn_rng x).2, (zn_self x).symm⟩
theorem zn_lt {a b : Int} (h : -2147483648 ≤ a ∧ a < 2147483648 ∧ -2147483648 ≤ b ∧ b < 2147483648) : zn_I a < zn_I b ↔ a < b := by
  rw [Int32.lt_iff_toInt_lt, zn_toInt ⟨h.1, h.2.1⟩, zn_toInt ⟨h.2.2.1, h.2.2.2⟩]
theorem zn_le {a b : Int} (h : -2147483648 ≤ a ∧ a < 2147483648 ∧ -2147483648 ≤ b ∧ b < 2147483648) : zn_I a ≤ zn_I b ↔ a ≤ b := by
  rw [Int32.le_iff_toInt_le, zn_toInt ⟨h.1, h.2.1⟩, zn_toInt ⟨h.2.2.1, h.2.2.2⟩]
theorem zn_eq {a b : Int} (h : -2147483648 ≤ a ∧ a < 2147483648 ∧ -2147483648 ≤ b ∧ b < 2147483648) : zn_I a = zn_I b ↔ a = b := by
  rw [← Int32.toInt_inj, zn_toInt ⟨h.1, h.2.1⟩, zn_toInt ⟨h.2.2.1, h.2.2.2⟩]
theorem zn_0 : (0 : Int32) = zn_I 0 := rfl
theorem zn_1 : (1 : Int32) = zn_I 1 := rfl
theorem zn_Bt {p : Prop} [Decidable p] (h : p) : zn_I 1 = zn_B p := by rw [zn_B, if_pos h]
theorem zn_Bf {p : Prop} [Decidable p] (h : ¬ p) : zn_I 0 = zn_B p := by rw [zn_B, if_neg h]
theorem zn_Bc {p q : Prop} [Decidable p] [Decidable q] (h : p ↔ q) : zn_B p = zn_B q := by
  by_cases hp : p
  · rw [zn_B, zn_B, if_pos hp, if_pos (h.mp hp)]
  · rw [zn_B, zn_B, if_neg hp, if_neg (fun z => hp (h.mpr z))]
theorem zn_vi {i : Int} {n : Nat} (h0 : 0 ≤ i) (h1 : i < n) (hn : n ≤ 1000) : vp_in (zn_I i) n ∧ (zn_I i).toNatClampNeg = i.toNat := by
  have e : (zn_I i).toInt = i := zn_toInt ⟨by omega, by omega⟩
  have e2 : (zn_I i).toNatClampNeg = i.toNat := by
    show (zn_I i).toInt.toNat = _
    rw [e]
  refine ⟨?_, e2⟩
  rw [vp_in_iff, e]
  exact ⟨h0, h1⟩
theorem zy_iadd {l : zw_Lh} {d : Nat} {y : zw_I} {Q : Option Value → zw_M → Prop} {pc : Nat} {L st : List Value} {M : zw_M} {a b : Int} (hd : decode y.2.1 pc = .ok (.iadd, 1)) (k : zw_X l d y Q (pc + 1) L (.int (zn_I (a + b)) :: st) M) : zw_X l d y Q pc L (.int (zn_I b) :: .int (zn_I a) :: st) M := zx_iadd hd (by rw [zn_add]; exact k)
theorem zy_isub {l : zw_Lh} {d : Nat} {y : zw_I} {Q : Option Value → zw_M → Prop} {pc : Nat} {L st : List Value} {M : zw_M} {a b : Int} (hd : decode y.2.1 pc = .ok (.isub, 1)) (k : zw_X l d y Q (pc + 1) L (.int (zn_I (a - b)) :: st) M) : zw_X l d y Q pc L (.int (zn_I b) :: .int (zn_I a) :: st) M := zx_isub hd (by rw [zn_sub]; exact k)
theorem zy_imul {l : zw_Lh} {d : Nat} {y : zw_I} {Q : Option Value → zw_M → Prop} {pc : Nat} {L st : List Value} {M : zw_M} {a b : Int} (hd : decode y.2.1 pc = .ok (.imul, 1)) (k : zw_X l d y Q (pc + 1) L (.int (zn_I (a * b)) :: st) M) : zw_X l d y Q pc L (.int (zn_I b) :: .int (zn_I a) :: st) M := zx_imul hd (by rw [zn_mul]; exact k)
theorem zy_iinc {l : zw_Lh} {d : Nat} {y : zw_I} {Q : Option Value → zw_M → Prop} {pc : Nat} {L st : List Value} {M : zw_M} {i : Nat} {n a : Int} (hd : decode y.2.1 pc = .ok (.iinc i n, 3)) (hl : L[i]? = some (.int (zn_I a))) (ho : zw_ok L i = true) (k : zw_X l d y Q (pc + 3) (L.set i (.int (zn_I (a + n)))) st M) : zw_X l d y Q pc L st M := zx_iinc (v := zn_I n) hd hl rfl ho (by rw [zn_add]; exact k)
theorem zy_idiv {l : zw_Lh} {d : Nat} {y : zw_I} {Q : Option Value → zw_M → Prop} {pc : Nat} {L st : List Value} {M : zw_M} {a b : Nat} (hd : decode y.2.1 pc = .ok (.idiv, 1)) (h : a < 2147483648 ∧ 0 < b ∧ b < 2147483648) (k : zw_X l d y Q (pc + 1) L (.int (zn_I ((a / b : Nat) : Int)) :: st) M) : zw_X l d y Q pc L (.int (zn_I (b : Int)) :: .int (zn_I (a : Int)) :: st) M := by
  have hb : ¬ zn_I (b : Int) = 0 := by rw [zn_0, zn_eq ⟨by omega, by omega, by omega, by omega⟩]; omega
  refine zx_idiv hd hb ?_
  rw [← zn_nat, ← zn_nat, pk_div h.1 h.2.1 h.2.2, zn_nat]
  exact k
theorem zy_irem {l : zw_Lh} {d : Nat} {y : zw_I} {Q : Option Value → zw_M → Prop} {pc : Nat} {L st : List Value} {M : zw_M} {a b : Nat} (hd : decode y.2.1 pc = .ok (.irem, 1)) (h : a < 2147483648 ∧ 0 < b ∧ b < 2147483648) (k : zw_X l d y Q (pc + 1) L (.int (zn_I ((a % b : Nat) : Int)) :: st) M) : zw_X l d y Q pc L (.int (zn_I (b : Int)) :: .int (zn_I (a : Int)) :: st) M := by
  have hb : ¬ zn_I (b : Int) = 0 := by rw [zn_0, zn_eq ⟨by omega, by omega, by omega, by omega⟩]; omega
  refine zx_irem hd hb ?_
  rw [← zn_nat, ← zn_nat, pk_rem h.1 h.2.1 h.2.2, zn_nat]
  exact k
theorem zy_top {l : zw_Lh} {d : Nat} {y : zw_I} {Q : Option Value → zw_M → Prop} {pc : Nat} {L st : List Value} {M : zw_M} {a b : Int32} (h : a = b) (k : zw_X l d y Q pc L (.int b :: st) M) : zw_X l d y Q pc L (.int a :: st) M := by rw [h]; exact k
theorem zy_loc {l : zw_Lh} {d : Nat} {y : zw_I} {Q : Option Value → zw_M → Prop} {pc : Nat} {L st : List Value} {M : zw_M} {L1 : List Value} (h : L = L1) (k : zw_X l d y Q pc L1 st M) : zw_X l d y Q pc L st M := by rw [h]; exact k
theorem zy_mem {l : zw_Lh} {d : Nat} {y : zw_I} {Q : Option Value → zw_M → Prop} {pc : Nat} {L st : List Value} {M : zw_M} {M1 : zw_M} (h : M = M1) (k : zw_X l d y Q pc L st M1) : zw_X l d y Q pc L st M := by rw [h]; exact k
theorem zy_if_eq {l : zw_Lh} {d : Nat} {y : zw_I} {Q : Option Value → zw_M → Prop} {pc : Nat} {L st : List Value} {M : zw_M} {a : Int} {off : Int} {tgt : Nat} (hd : decode y.2.1 pc = .ok (.ifCond .eq off, 3)) (ht : (pc : Int) + off = (tgt : Int)) (hr : -2147483648 ≤ a ∧ a < 2147483648) (kt : a = 0 → zw_X l d y Q tgt L st M) (kf : ¬ a = 0 → zw_X l d y Q (pc + 3) L st M) : zw_X l d y Q pc L (.int (zn_I a) :: st) M := by
  have e : (zn_I a = zn_I 0) ↔ (a = 0) := zn_eq ⟨by omega, by omega, by omega, by omega⟩
  exact zx_if_eq hd ht (fun h => kt (by first | exact e.mp h | exact fun z => h (e.mpr z))) (fun h => kf (by first | exact e.mp h | exact fun z => h (e.mpr z)))
theorem zy_icmp_eq {l : zw_Lh} {d : Nat} {y : zw_I} {Q : Option Value → zw_M → Prop} {pc : Nat} {L st : List Value} {M : zw_M} {a b : Int} {off : Int} {tgt : Nat} (hd : decode y.2.1 pc = .ok (.if_icmp .eq off, 3)) (ht : (pc : Int) + off = (tgt : Int)) (hr : -2147483648 ≤ a ∧ a < 2147483648 ∧ -2147483648 ≤ b ∧ b < 2147483648) (kt : a = b → zw_X l d y Q tgt L st M) (kf : ¬ a = b → zw_X l d y Q (pc + 3) L st M) : zw_X l d y Q pc L (.int (zn_I b) :: .int (zn_I a) :: st) M := by
  have e : (zn_I a = zn_I b) ↔ (a = b) := zn_eq ⟨by omega, by omega, by omega, by omega⟩
  exact zx_icmp_eq hd ht (fun h => kt (by first | exact e.mp h | exact fun z => h (e.mpr z))) (fun h => kf (by first | exact e.mp h | exact fun z => h (e.mpr z)))
theorem zy_if_ne {l : zw_Lh} {d : Nat} {y : zw_I} {Q : Option Value → zw_M → Prop} {pc : Nat} {L st : List Value} {M : zw_M} {a : Int} {off : Int} {tgt : Nat} (hd : decode y.2.1 pc = .ok (.ifCond .ne off, 3)) (ht : (pc : Int) + off = (tgt : Int)) (hr : -2147483648 ≤ a ∧ a < 2147483648) (kt : ¬ a = 0 → zw_X l d y Q tgt L st M) (kf : a = 0 → zw_X l d y Q (pc + 3) L st M) : zw_X l d y Q pc L (.int (zn_I a) :: st) M := by
  have e : (zn_I a = zn_I 0) ↔ (a = 0) := zn_eq ⟨by omega, by omega, by omega, by omega⟩
  exact zx_if_ne hd ht (fun h => kt (by first | exact e.mp h | exact fun z => h (e.mpr z))) (fun h => kf (by first | exact e.mp h | exact fun z => h (e.mpr z)))
theorem zy_icmp_ne {l : zw_Lh} {d : Nat} {y : zw_I} {Q : Option Value → zw_M → Prop} {pc : Nat} {L st : List Value} {M : zw_M} {a b : Int} {off : Int} {tgt : Nat} (hd : decode y.2.1 pc = .ok (.if_icmp .ne off, 3)) (ht : (pc : Int) + off = (tgt : Int)) (hr : -2147483648 ≤ a ∧ a < 2147483648 ∧ -2147483648 ≤ b ∧ b < 2147483648) (kt : ¬ a = b → zw_X l d y Q tgt L st M) (kf : a = b → zw_X l d y Q (pc + 3) L st M) : zw_X l d y Q pc L (.int (zn_I b) :: .int (zn_I a) :: st) M := by
  have e : (zn_I a = zn_I b) ↔ (a = b) := zn_eq ⟨by omega, by omega, by omega, by omega⟩
  exact zx_icmp_ne hd ht (fun h => kt (by first | exact e.mp h | exact fun z => h (e.mpr z))) (fun h => kf (by first | exact e.mp h | exact fun z => h (e.mpr z)))
theorem zy_if_lt {l : zw_Lh} {d : Nat} {y : zw_I} {Q : Option Value → zw_M → Prop} {pc : Nat} {L st : List Value} {M : zw_M} {a : Int} {off : Int} {tgt : Nat} (hd : decode y.2.1 pc = .ok (.ifCond .lt off, 3)) (ht : (pc : Int) + off = (tgt : Int)) (hr : -2147483648 ≤ a ∧ a < 2147483648) (kt : a < 0 → zw_X l d y Q tgt L st M) (kf : ¬ a < 0 → zw_X l d y Q (pc + 3) L st M) : zw_X l d y Q pc L (.int (zn_I a) :: st) M := by
  have e : (zn_I a < zn_I 0) ↔ (a < 0) := zn_lt ⟨by omega, by omega, by omega, by omega⟩
  exact zx_if_lt hd ht (fun h => kt (by first | exact e.mp h | exact fun z => h (e.mpr z))) (fun h => kf (by first | exact e.mp h | exact fun z => h (e.mpr z)))
theorem zy_icmp_lt {l : zw_Lh} {d : Nat} {y : zw_I} {Q : Option Value → zw_M → Prop} {pc : Nat} {L st : List Value} {M : zw_M} {a b : Int} {off : Int} {tgt : Nat} (hd : decode y.2.1 pc = .ok (.if_icmp .lt off, 3)) (ht : (pc : Int) + off = (tgt : Int)) (hr : -2147483648 ≤ a ∧ a < 2147483648 ∧ -2147483648 ≤ b ∧ b < 2147483648) (kt : a < b → zw_X l d y Q tgt L st M) (kf : ¬ a < b → zw_X l d y Q (pc + 3) L st M) : zw_X l d y Q pc L (.int (zn_I b) :: .int (zn_I a) :: st) M := by
  have e : (zn_I a < zn_I b) ↔ (a < b) := zn_lt ⟨by omega, by omega, by omega, by omega⟩
  exact zx_icmp_lt hd ht (fun h => kt (by first | exact e.mp h | exact fun z => h (e.mpr z))) (fun h => kf (by first | exact e.mp h | exact fun z => h (e.mpr z)))
theorem zy_if_ge {l : zw_Lh} {d : Nat} {y : zw_I} {Q : Option Value → zw_M → Prop} {pc : Nat} {L st : List Value} {M : zw_M} {a : Int} {off : Int} {tgt : Nat} (hd : decode y.2.1 pc = .ok (.ifCond .ge off, 3)) (ht : (pc : Int) + off = (tgt : Int)) (hr : -2147483648 ≤ a ∧ a < 2147483648) (kt : 0 ≤ a → zw_X l d y Q tgt L st M) (kf : ¬ 0 ≤ a → zw_X l d y Q (pc + 3) L st M) : zw_X l d y Q pc L (.int (zn_I a) :: st) M := by
  have e : (zn_I 0 ≤ zn_I a) ↔ (0 ≤ a) := zn_le ⟨by omega, by omega, by omega, by omega⟩
  exact zx_if_ge hd ht (fun h => kt (by first | exact e.mp h | exact fun z => h (e.mpr z))) (fun h => kf (by first | exact e.mp h | exact fun z => h (e.mpr z)))
theorem zy_icmp_ge {l : zw_Lh} {d : Nat} {y : zw_I} {Q : Option Value → zw_M → Prop} {pc : Nat} {L st : List Value} {M : zw_M} {a b : Int} {off : Int} {tgt : Nat} (hd : decode y.2.1 pc = .ok (.if_icmp .ge off, 3)) (ht : (pc : Int) + off = (tgt : Int)) (hr : -2147483648 ≤ a ∧ a < 2147483648 ∧ -2147483648 ≤ b ∧ b < 2147483648) (kt : b ≤ a → zw_X l d y Q tgt L st M) (kf : ¬ b ≤ a → zw_X l d y Q (pc + 3) L st M) : zw_X l d y Q pc L (.int (zn_I b) :: .int (zn_I a) :: st) M := by
  have e : (zn_I b ≤ zn_I a) ↔ (b ≤ a) := zn_le ⟨by omega, by omega, by omega, by omega⟩
  exact zx_icmp_ge hd ht (fun h => kt (by first | exact e.mp h | exact fun z => h (e.mpr z))) (fun h => kf (by first | exact e.mp h | exact fun z => h (e.mpr z)))
theorem zy_if_gt {l : zw_Lh} {d : Nat} {y : zw_I} {Q : Option Value → zw_M → Prop} {pc : Nat} {L st : List Value} {M : zw_M} {a : Int} {off : Int} {tgt : Nat} (hd : decode y.2.1 pc = .ok (.ifCond .gt off, 3)) (ht : (pc : Int) + off = (tgt : Int)) (hr : -2147483648 ≤ a ∧ a < 2147483648) (kt : 0 < a → zw_X l d y Q tgt L st M) (kf : ¬ 0 < a → zw_X l d y Q (pc + 3) L st M) : zw_X l d y Q pc L (.int (zn_I a) :: st) M := by
  have e : (zn_I 0 < zn_I a) ↔ (0 < a) := zn_lt ⟨by omega, by omega, by omega, by omega⟩
  exact zx_if_gt hd ht (fun h => kt (by first | exact e.mp h | exact fun z => h (e.mpr z))) (fun h => kf (by first | exact e.mp h | exact fun z => h (e.mpr z)))
theorem zy_icmp_gt {l : zw_Lh} {d : Nat} {y : zw_I} {Q : Option Value → zw_M → Prop} {pc : Nat} {L st : List Value} {M : zw_M} {a b : Int} {off : Int} {tgt : Nat} (hd : decode y.2.1 pc = .ok (.if_icmp .gt off, 3)) (ht : (pc : Int) + off = (tgt : Int)) (hr : -2147483648 ≤ a ∧ a < 2147483648 ∧ -2147483648 ≤ b ∧ b < 2147483648) (kt : b < a → zw_X l d y Q tgt L st M) (kf : ¬ b < a → zw_X l d y Q (pc + 3) L st M) : zw_X l d y Q pc L (.int (zn_I b) :: .int (zn_I a) :: st) M := by
  have e : (zn_I b < zn_I a) ↔ (b < a) := zn_lt ⟨by omega, by omega, by omega, by omega⟩
  exact zx_icmp_gt hd ht (fun h => kt (by first | exact e.mp h | exact fun z => h (e.mpr z))) (fun h => kf (by first | exact e.mp h | exact fun z => h (e.mpr z)))
theorem zy_if_le {l : zw_Lh} {d : Nat} {y : zw_I} {Q : Option Value → zw_M → Prop} {pc : Nat} {L st : List Value} {M : zw_M} {a : Int} {off : Int} {tgt : Nat} (hd : decode y.2.1 pc = .ok (.ifCond .le off, 3)) (ht : (pc : Int) + off = (tgt : Int)) (hr : -2147483648 ≤ a ∧ a < 2147483648) (kt : a ≤ 0 → zw_X l d y Q tgt L st M) (kf : ¬ a ≤ 0 → zw_X l d y Q (pc + 3) L st M) : zw_X l d y Q pc L (.int (zn_I a) :: st) M := by
  have e : (zn_I a ≤ zn_I 0) ↔ (a ≤ 0) := zn_le ⟨by omega, by omega, by omega, by omega⟩
  exact zx_if_le hd ht (fun h => kt (by first | exact e.mp h | exact fun z => h (e.mpr z))) (fun h => kf (by first | exact e.mp h | exact fun z => h (e.mpr z)))
theorem zy_icmp_le {l : zw_Lh} {d : Nat} {y : zw_I} {Q : Option Value → zw_M → Prop} {pc : Nat} {L st : List Value} {M : zw_M} {a b : Int} {off : Int} {tgt : Nat} (hd : decode y.2.1 pc = .ok (.if_icmp .le off, 3)) (ht : (pc : Int) + off = (tgt : Int)) (hr : -2147483648 ≤ a ∧ a < 2147483648 ∧ -2147483648 ≤ b ∧ b < 2147483648) (kt : a ≤ b → zw_X l d y Q tgt L st M) (kf : ¬ a ≤ b → zw_X l d y Q (pc + 3) L st M) : zw_X l d y Q pc L (.int (zn_I b) :: .int (zn_I a) :: st) M := by
  have e : (zn_I a ≤ zn_I b) ↔ (a ≤ b) := zn_le ⟨by omega, by omega, by omega, by omega⟩
  exact zx_icmp_le hd ht (fun h => kt (by first | exact e.mp h | exact fun z => h (e.mpr z))) (fun h => kf (by first | exact e.mp h | exact fun z => h (e.mpr z)))
theorem zy_ifB_eq {l : zw_Lh} {d : Nat} {y : zw_I} {Q : Option Value → zw_M → Prop} {pc : Nat} {L st : List Value} {M : zw_M} {p : Prop} [Decidable p] {off : Int} {tgt : Nat} (hd : decode y.2.1 pc = .ok (.ifCond .eq off, 3)) (ht : (pc : Int) + off = (tgt : Int)) (kt : ¬ p → zw_X l d y Q tgt L st M) (kf : p → zw_X l d y Q (pc + 3) L st M) : zw_X l d y Q pc L (.int (zn_B p) :: st) M := by
  refine zx_if_eq hd ht (fun h => kt fun hp => ?_) (fun h => kf (Classical.byContradiction fun hp => h ?_))
  · rw [zn_B, if_pos hp] at h
    exact absurd h (by decide)
  · rw [zn_B, if_neg hp]
    rfl
theorem zy_ifB_ne {l : zw_Lh} {d : Nat} {y : zw_I} {Q : Option Value → zw_M → Prop} {pc : Nat} {L st : List Value} {M : zw_M} {p : Prop} [Decidable p] {off : Int} {tgt : Nat} (hd : decode y.2.1 pc = .ok (.ifCond .ne off, 3)) (ht : (pc : Int) + off = (tgt : Int)) (kt : p → zw_X l d y Q tgt L st M) (kf : ¬ p → zw_X l d y Q (pc + 3) L st M) : zw_X l d y Q pc L (.int (zn_B p) :: st) M := by
  refine zx_if_ne hd ht (fun h => kt (Classical.byContradiction fun hp => h ?_)) (fun h => kf fun hp => ?_)
  · rw [zn_B, if_neg hp]
    rfl
  · rw [zn_B, if_pos hp] at h
    exact absurd h (by decide)
theorem zy_geti {l : zw_Lh} {d : Nat} {y : zw_I} {Q : Option Value → zw_M → Prop} {pc : Nat} {L st : List Value} {M : zw_M} {q k idx : Nat} {ty : FieldType} {fin : Bool} {x : Int32} (hd : decode y.2.1 pc = .ok (.getfield idx, 3)) (hf : zw_F y.1.cls idx q k none ty fin) (hv : M.1 q k = x) (kk : zw_X l d y Q (pc + 3) L (.int x :: st) M) : zw_X l d y Q pc L (.ref q :: st) M := zx_geti hd hf (by rw [hv]; exact kk)
theorem zy_iald {l : zw_Lh} {d : Nat} {y : zw_I} {Q : Option Value → zw_M → Prop} {pc : Nat} {L st : List Value} {M : zw_M} {q n i : Nat} {z : Int} {x : Int32} (hd : decode y.2.1 pc = .ok (.iaload, 1)) (hs : zs_S[q]? = some (.inl (0, n))) (hn : n ≤ 1000) (hi : z = (i : Int)) (h1 : i < n) (hv : M.1 q i = x) (kk : zw_X l d y Q (pc + 1) L (.int x :: st) M) : zw_X l d y Q pc L (.int (zn_I z) :: .ref q :: st) M := by
  subst hi
  obtain ⟨e1, e2⟩ := zn_vi (i := (i : Int)) (n := n) (by omega) (by omega) hn
  refine zx_iald hd hs e1 ?_
  rw [e2, Int.toNat_natCast, hv]
  exact kk
theorem zy_iast {l : zw_Lh} {d : Nat} {y : zw_I} {Q : Option Value → zw_M → Prop} {pc : Nat} {L st : List Value} {M : zw_M} {q n i : Nat} {z : Int} {x : Int32} (hd : decode y.2.1 pc = .ok (.iastore, 1)) (hs : zs_S[q]? = some (.inl (0, n))) (hn : n ≤ 1000) (hi : z = (i : Int)) (h1 : i < n) (kk : zw_X l d y Q (pc + 1) L st (zw_s M q i (x))) : zw_X l d y Q pc L (.int x :: .int (zn_I z) :: .ref q :: st) M := by
  subst hi
  obtain ⟨e1, e2⟩ := zn_vi (i := (i : Int)) (n := n) (by omega) (by omega) hn
  refine zx_iast hd hs e1 ?_
  rw [e2, Int.toNat_natCast]
  exact kk
theorem zy_cald {l : zw_Lh} {d : Nat} {y : zw_I} {Q : Option Value → zw_M → Prop} {pc : Nat} {L st : List Value} {M : zw_M} {q n i : Nat} {z : Int} {x : Int32} (hd : decode y.2.1 pc = .ok (.caload, 1)) (hs : zs_S[q]? = some (.inl (1, n))) (hn : n ≤ 1000) (hi : z = (i : Int)) (h1 : i < n) (hv : M.1 q i = x) (kk : zw_X l d y Q (pc + 1) L (.int x :: st) M) : zw_X l d y Q pc L (.int (zn_I z) :: .ref q :: st) M := by
  subst hi
  obtain ⟨e1, e2⟩ := zn_vi (i := (i : Int)) (n := n) (by omega) (by omega) hn
  refine zx_cald hd hs e1 ?_
  rw [e2, Int.toNat_natCast, hv]
  exact kk
theorem zy_cast {l : zw_Lh} {d : Nat} {y : zw_I} {Q : Option Value → zw_M → Prop} {pc : Nat} {L st : List Value} {M : zw_M} {q n i : Nat} {z : Int} {x : Int32} (hd : decode y.2.1 pc = .ok (.castore, 1)) (hs : zs_S[q]? = some (.inl (1, n))) (hn : n ≤ 1000) (hi : z = (i : Int)) (h1 : i < n) (kk : zw_X l d y Q (pc + 1) L st (zw_s M q i (vp_nar .char x))) : zw_X l d y Q pc L (.int x :: .int (zn_I z) :: .ref q :: st) M := by
  subst hi
  obtain ⟨e1, e2⟩ := zn_vi (i := (i : Int)) (n := n) (by omega) (by omega) hn
  refine zx_cast hd hs e1 ?_
  rw [e2, Int.toNat_natCast]
  exact kk
theorem zk_B {p : Prop} [Decidable p] {M : zw_M} {x : Int32} (h : x = zn_B p) : zw_i (zn_B p) M (some (.int x)) M := ⟨by rw [h], rfl⟩
theorem zk_I {x z : Int} {M : zw_M} (h : x = z) : zw_i (zn_I z) M (some (.int (zn_I x))) M := ⟨by rw [h], rfl⟩
theorem zn_ite {p : Prop} [Decidable p] {a b : Int} : zn_I (if p then a else b) = if p then zn_I a else zn_I b := by split <;> rfl
/-- a contract at one end, at another -/
theorem zw_C_imp {l : zw_Lh} {d : Nat} {y : zw_I} {vs : List Value} {M : zw_M} {Q Q1 : Option Value → zw_M → Prop} (h : ∀ v M', Q v M' → Q1 v M') (hc : zw_C l d y vs M Q) : zw_C l d y vs M Q1 := by
  intro G sz hD p e g1 g2 g3 s m args below g4 g5 g6 g7
  obtain ⟨t, o, a, b1, b2, ⟨⟨v, M1, c1, c2, c3⟩, c4⟩, c5⟩ := hc G sz hD p e g1 g2 g3 s m args below g4 g5 g6 g7
  exact ⟨t, o, a, b1, b2, ⟨⟨v, M1, c1, h v M1 c2, c3⟩, c4⟩, c5⟩
end
section
/-! THE ISLAND: rows, wide, heights -/
abbrev zP : Type := Nat × Nat × (Nat → Int)
def zp_n (π : zP) : Nat := π.1 * π.2.1
def zp_e (π : zP) (s : Nat) : Int := 2 * ((s % π.2.1 : Nat) : Int) - ((π.2.1 : Int) - 1)
def zp_s (π : zP) (s : Nat) : Int := 2 * ((s / π.2.1 : Nat) : Int) - ((π.1 : Int) - 1)
/-- how many doors there are among the first squares -/
def zp_d (π : zP) : Nat → Nat
  | 0 => 0
  | s + 1 => zp_d π s + (if 0 < π.2.2 s then 1 else 0)
def zI (M : zw_M) (π : zP) : Prop :=
  (π.1 ≤ 5 ∧ π.2.1 ≤ 6) ∧ M.1 4 3 = zn_I π.1 ∧ M.1 4 4 = zn_I π.2.1 ∧ M.1 4 5 = zn_I (zp_n π) ∧ M.1 4 6 = zn_I (zp_d π (zp_n π)) ∧ (∀ s, s < zp_n π → M.1 5 s = zn_I (π.2.2 s)) ∧ (∀ s, s < zp_n π → M.1 6 s = zn_I (zp_e π s)) ∧ (∀ s, s < zp_n π → M.1 7 s = zn_I (zp_s π s)) ∧ (∀ s, s < zp_n π → 0 ≤ π.2.2 s ∧ π.2.2 s ≤ 9)
theorem zp_30 {π : zP} (h : π.1 ≤ 5 ∧ π.2.1 ≤ 6) : zp_n π ≤ 30 := Nat.mul_le_mul h.1 h.2
theorem zp_e_rng {π : zP} (h : π.1 ≤ 5 ∧ π.2.1 ≤ 6) {s : Nat} (hs : s < zp_n π) : -5 ≤ zp_e π s ∧ zp_e π s ≤ 5 := by
  have hw : 0 < π.2.1 := Nat.pos_of_ne_zero fun q => by rw [zp_n, q, Nat.mul_zero] at hs; omega
  have := Nat.mod_lt s hw
  unfold zp_e
  generalize s % π.2.1 = k at this ⊢
  omega
theorem zp_s_rng {π : zP} (h : π.1 ≤ 5 ∧ π.2.1 ≤ 6) {s : Nat} (hs : s < zp_n π) : -4 ≤ zp_s π s ∧ zp_s π s ≤ 4 := by
  have := Nat.div_lt_of_lt_mul (show s < π.2.1 * π.1 by rw [Nat.mul_comm]; exact hs)
  unfold zp_s
  generalize s / π.2.1 = k at this ⊢
  omega
theorem zp_mul_rng {a e B : Int} (h1 : -5 ≤ e) (h2 : e ≤ 5) (h3 : -B ≤ a) (h4 : a ≤ B) : -(5 * B) ≤ a * e ∧ a * e ≤ 5 * B := by
  have : e = -5 ∨ e = -4 ∨ e = -3 ∨ e = -2 ∨ e = -1 ∨ e = 0 ∨ e = 1 ∨ e = 2 ∨ e = 3 ∨ e = 4 ∨ e = 5 := by omega
  rcases this with rfl | rfl | rfl | rfl | rfl | rfl | rfl | rfl | rfl | rfl | rfl <;> omega
def zp_dip (π : zP) (s : Nat) (a b : Int) : Int := a * zp_e π s + b * zp_s π s
theorem zp_dip_rng {π : zP} (h : π.1 ≤ 5 ∧ π.2.1 ≤ 6) {s : Nat} (hs : s < zp_n π) {a b B : Int} (ha : -B ≤ a ∧ a ≤ B) (hb : -B ≤ b ∧ b ≤ B) : -(10 * B) ≤ zp_dip π s a b ∧ zp_dip π s a b ≤ 10 * B := by
  have h1 := zp_e_rng h hs
  have h2 := zp_s_rng h hs
  have h3 := zp_mul_rng (a := a) (B := B) h1.1 h1.2 ha.1 ha.2
  have h4 := zp_mul_rng (a := b) (e := zp_s π s) (B := B) (by omega) (by omega) hb.1 hb.2
  unfold zp_dip
  omega
/-- a square's numbers, 0 where there is none -/
def zp_at (π : zP) (f : Nat → Int) (z : Int) : Int := if 0 ≤ z ∧ z < zp_n π then f z.toNat else 0
theorem zp_at_in {π : zP} {f : Nat → Int} {s : Nat} (h : s < zp_n π) : zp_at π f (s : Int) = f s := by
  rw [zp_at, if_pos ⟨by omega, by omega⟩, Int.toNat_natCast]
set_option maxRecDepth 100000 in
set_option maxHeartbeats 600000 in
theorem mX1_fromCentre {l : zw_Lh} {d : Nat} {M : zw_M} {a b : Int} : zw_C l d iX1_fromCentre [.int (zn_I a), .int (zn_I b)] M (zw_i (zn_I (2 * a - (b - 1))) M) := by
  refine zw_of (by decide +kernel) (Nat.le_of_ble_eq_true rfl) ?_
  refine zy_loc (L1 := [.int (zn_I a), .int (zn_I b)]) rfl ?_
  refine zx_iconst (v := zn_I 2) dX1_fromCentre_0 rfl ?_
  refine zx_iload_n dX1_fromCentre_1 rfl ?_
  refine zy_imul dX1_fromCentre_2 ?_
  refine zx_iload_n dX1_fromCentre_3 rfl ?_
  refine zx_iconst (v := zn_I 1) dX1_fromCentre_4 rfl ?_
  refine zy_isub dX1_fromCentre_5 ?_
  refine zy_isub dX1_fromCentre_6 ?_
  refine zx_iret (st := []) dX1_fromCentre_7 rfl rfl ?_
  exact ⟨rfl, rfl⟩
set_option maxRecDepth 100000 in
set_option maxHeartbeats 600000 in
theorem mX1_squares {l : zw_Lh} {d : Nat} {M : zw_M} {π : zP} (hI : zI M π) : zw_C l d iX1_squares [.ref 4] M (zw_i (zn_I (zp_n π)) M) := by
  obtain ⟨hp, hr, hw, hn, hdo, hH, hE, hS, hB⟩ := id hI
  have h30 := zp_30 hp
  refine zw_of (by decide +kernel) (Nat.le_of_ble_eq_true rfl) ?_
  refine zy_loc (L1 := [.ref 4]) rfl ?_
  refine zx_aload_n dX1_squares_0 rfl ?_
  refine zy_geti dX1_squares_1 fX1_28 (hn) ?_
  refine zx_iret (st := []) dX1_squares_4 rfl rfl ?_
  exact ⟨rfl, rfl⟩
set_option maxRecDepth 100000 in
set_option maxHeartbeats 600000 in
theorem mX1_doors {l : zw_Lh} {d : Nat} {M : zw_M} {π : zP} (hI : zI M π) : zw_C l d iX1_doors [.ref 4] M (zw_i (zn_I (zp_d π (zp_n π))) M) := by
  obtain ⟨hp, hr, hw, hn, hdo, hH, hE, hS, hB⟩ := id hI
  have h30 := zp_30 hp
  refine zw_of (by decide +kernel) (Nat.le_of_ble_eq_true rfl) ?_
  refine zy_loc (L1 := [.ref 4]) rfl ?_
  refine zx_aload_n dX1_doors_0 rfl ?_
  refine zy_geti dX1_doors_1 fX1_31 (hdo) ?_
  refine zx_iret (st := []) dX1_doors_4 rfl rfl ?_
  exact ⟨rfl, rfl⟩
set_option maxRecDepth 100000 in
set_option maxHeartbeats 600000 in
theorem mX1_isThere {l : zw_Lh} {d : Nat} {M : zw_M} {π : zP} (hI : zI M π) : zw_C l d iX1_isThere [.ref 4] M (zw_i (zn_B (0 < zp_n π)) M) := by
  obtain ⟨hp, hr, hw, hn, hdo, hH, hE, hS, hB⟩ := id hI
  have h30 := zp_30 hp
  refine zw_of (by decide +kernel) (Nat.le_of_ble_eq_true rfl) ?_
  refine zy_loc (L1 := [.ref 4]) rfl ?_
  refine zx_aload_n dX1_isThere_0 rfl ?_
  refine zy_geti dX1_isThere_1 fX1_28 (hn) ?_
  refine zy_if_le (tgt := 11) dX1_isThere_4 (by decide) (by omega) (fun h_4 => ?_) (fun h_4 => ?_)
  · refine zx_iconst (v := zn_I 0) dX1_isThere_11 rfl ?_
    refine zx_iret (st := []) dX1_isThere_12 rfl rfl ?_
    first | exact zk_B (zn_Bt (by omega)) | exact zk_B (zn_Bf (by omega))
  · refine zx_iconst (v := zn_I 1) dX1_isThere_7 rfl ?_
    refine zx_goto (tgt := 12) dX1_isThere_8 (by decide) ?_
    refine zx_iret (st := []) dX1_isThere_12 rfl rfl ?_
    first | exact zk_B (zn_Bt (by omega)) | exact zk_B (zn_Bf (by omega))
set_option maxRecDepth 100000 in
set_option maxHeartbeats 600000 in
theorem mX1_has {l : zw_Lh} {d : Nat} {M : zw_M} {π : zP} (hI : zI M π) {z : Int} (hz : -2147483648 ≤ z ∧ z < 2147483648) : zw_C l d iX1_has [.ref 4, .int (zn_I z)] M (zw_i (zn_B (0 ≤ z ∧ z < zp_n π)) M) := by
  obtain ⟨hp, hr, hw, hn, hdo, hH, hE, hS, hB⟩ := id hI
  have h30 := zp_30 hp
  refine zw_of (by decide +kernel) (Nat.le_of_ble_eq_true rfl) ?_
  refine zy_loc (L1 := [.ref 4, .int (zn_I z)]) rfl ?_
  refine zx_iload_n dX1_has_0 rfl ?_
  refine zy_if_lt (tgt := 16) dX1_has_1 (by decide) (by omega) (fun h_1 => ?_) (fun h_1 => ?_)
  · refine zx_iconst (v := zn_I 0) dX1_has_16 rfl ?_
    refine zx_iret (st := []) dX1_has_17 rfl rfl ?_
    first | exact zk_B (zn_Bt (by omega)) | exact zk_B (zn_Bf (by omega))
  · refine zx_iload_n dX1_has_4 rfl ?_
    refine zx_aload_n dX1_has_5 rfl ?_
    refine zy_geti dX1_has_6 fX1_28 (hn) ?_
    refine zy_icmp_ge (tgt := 16) dX1_has_9 (by decide) (by omega) (fun h_9 => ?_) (fun h_9 => ?_)
    · refine zx_iconst (v := zn_I 0) dX1_has_16 rfl ?_
      refine zx_iret (st := []) dX1_has_17 rfl rfl ?_
      first | exact zk_B (zn_Bt (by omega)) | exact zk_B (zn_Bf (by omega))
    · refine zx_iconst (v := zn_I 1) dX1_has_12 rfl ?_
      refine zx_goto (tgt := 17) dX1_has_13 (by decide) ?_
      refine zx_iret (st := []) dX1_has_17 rfl rfl ?_
      first | exact zk_B (zn_Bt (by omega)) | exact zk_B (zn_Bf (by omega))
set_option maxRecDepth 100000 in
set_option maxHeartbeats 600000 in
theorem mX1_east {l : zw_Lh} {d : Nat} {M : zw_M} {π : zP} (hI : zI M π) {z : Int} (hz : -2147483648 ≤ z ∧ z < 2147483648) : zw_C l (d + 1) iX1_east [.ref 4, .int (zn_I z)] M (zw_i (zn_I (zp_at π (zp_e π) z)) M) := by
  obtain ⟨hp, hr, hw, hn, hdo, hH, hE, hS, hB⟩ := id hI
  have h30 := zp_30 hp
  refine zw_of (by decide +kernel) (Nat.le_of_ble_eq_true rfl) ?_
  refine zy_loc (L1 := [.ref 4, .int (zn_I z)]) rfl ?_
  refine zx_aload_n dX1_east_0 rfl ?_
  refine zx_iload_n dX1_east_1 rfl ?_
  refine zx_callV (y1 := iX1_has) dX1_east_2 lX1_52 vX1_has rc_4 (mX1_has hI hz) rfl rfl (Nat.le_of_ble_eq_true rfl) ?_
  refine zk_i ?_
  refine zy_ifB_eq (tgt := 17) dX1_east_5 (by decide) (fun h_5 => ?_) (fun h_5 => ?_)
  · refine zx_iconst (v := zn_I 0) dX1_east_17 rfl ?_
    refine zx_iret (st := []) dX1_east_18 rfl rfl ?_
    first | exact zk_I (by rw [zp_at, if_pos h_5]) | exact zk_I (by rw [zp_at, if_neg h_5])
  · refine zx_aload_n dX1_east_8 rfl ?_
    refine zx_getr dX1_east_9 fX1_15 ?_
    refine zx_iload_n dX1_east_12 rfl ?_
    refine zy_iald (i := z.toNat) dX1_east_13 rfl (by decide) (by omega) (by omega) ((hE _ (by omega))) ?_
    refine zx_goto (tgt := 18) dX1_east_14 (by decide) ?_
    refine zx_iret (st := []) dX1_east_18 rfl rfl ?_
    first | exact zk_I (by rw [zp_at, if_pos h_5]) | exact zk_I (by rw [zp_at, if_neg h_5])
set_option maxRecDepth 100000 in
set_option maxHeartbeats 600000 in
theorem mX1_south {l : zw_Lh} {d : Nat} {M : zw_M} {π : zP} (hI : zI M π) {z : Int} (hz : -2147483648 ≤ z ∧ z < 2147483648) : zw_C l (d + 1) iX1_south [.ref 4, .int (zn_I z)] M (zw_i (zn_I (zp_at π (zp_s π) z)) M) := by
  obtain ⟨hp, hr, hw, hn, hdo, hH, hE, hS, hB⟩ := id hI
  have h30 := zp_30 hp
  refine zw_of (by decide +kernel) (Nat.le_of_ble_eq_true rfl) ?_
  refine zy_loc (L1 := [.ref 4, .int (zn_I z)]) rfl ?_
  refine zx_aload_n dX1_south_0 rfl ?_
  refine zx_iload_n dX1_south_1 rfl ?_
  refine zx_callV (y1 := iX1_has) dX1_south_2 lX1_52 vX1_has rc_4 (mX1_has hI hz) rfl rfl (Nat.le_of_ble_eq_true rfl) ?_
  refine zk_i ?_
  refine zy_ifB_eq (tgt := 17) dX1_south_5 (by decide) (fun h_5 => ?_) (fun h_5 => ?_)
  · refine zx_iconst (v := zn_I 0) dX1_south_17 rfl ?_
    refine zx_iret (st := []) dX1_south_18 rfl rfl ?_
    first | exact zk_I (by rw [zp_at, if_pos h_5]) | exact zk_I (by rw [zp_at, if_neg h_5])
  · refine zx_aload_n dX1_south_8 rfl ?_
    refine zx_getr dX1_south_9 fX1_18 ?_
    refine zx_iload_n dX1_south_12 rfl ?_
    refine zy_iald (i := z.toNat) dX1_south_13 rfl (by decide) (by omega) (by omega) ((hS _ (by omega))) ?_
    refine zx_goto (tgt := 18) dX1_south_14 (by decide) ?_
    refine zx_iret (st := []) dX1_south_18 rfl rfl ?_
    first | exact zk_I (by rw [zp_at, if_pos h_5]) | exact zk_I (by rw [zp_at, if_neg h_5])
set_option maxRecDepth 100000 in
set_option maxHeartbeats 600000 in
theorem mX1_dipOf {l : zw_Lh} {d : Nat} {M : zw_M} {π : zP} (hI : zI M π) {z : Int} (hz : -2147483648 ≤ z ∧ z < 2147483648) {a b : Int} : zw_C l (d + 1) iX1_dipOf [.ref 4, .int (zn_I z), .int (zn_I a), .int (zn_I b)] M (zw_i (zn_I (zp_at π (fun s => zp_dip π s a b) z)) M) := by
  obtain ⟨hp, hr, hw, hn, hdo, hH, hE, hS, hB⟩ := id hI
  have h30 := zp_30 hp
  refine zw_of (by decide +kernel) (Nat.le_of_ble_eq_true rfl) ?_
  refine zy_loc (L1 := [.ref 4, .int (zn_I z), .int (zn_I a), .int (zn_I b)]) rfl ?_
  refine zx_aload_n dX1_dipOf_0 rfl ?_
  refine zx_iload_n dX1_dipOf_1 rfl ?_
  refine zx_callV (y1 := iX1_has) dX1_dipOf_2 lX1_52 vX1_has rc_4 (mX1_has hI hz) rfl rfl (Nat.le_of_ble_eq_true rfl) ?_
  refine zk_i ?_
  refine zy_ifB_eq (tgt := 28) dX1_dipOf_5 (by decide) (fun h_5 => ?_) (fun h_5 => ?_)
  · refine zx_iconst (v := zn_I 0) dX1_dipOf_28 rfl ?_
    refine zx_iret (st := []) dX1_dipOf_29 rfl rfl ?_
    first | exact zk_I (by rw [zp_at, if_pos h_5]; rfl) | exact zk_I (by rw [zp_at, if_neg h_5])
  · refine zx_iload_n dX1_dipOf_8 rfl ?_
    refine zx_aload_n dX1_dipOf_9 rfl ?_
    refine zx_getr dX1_dipOf_10 fX1_15 ?_
    refine zx_iload_n dX1_dipOf_13 rfl ?_
    refine zy_iald (i := z.toNat) dX1_dipOf_14 rfl (by decide) (by omega) (by omega) ((hE _ (by omega))) ?_
    refine zy_imul dX1_dipOf_15 ?_
    refine zx_iload_n dX1_dipOf_16 rfl ?_
    refine zx_aload_n dX1_dipOf_17 rfl ?_
    refine zx_getr dX1_dipOf_18 fX1_18 ?_
    refine zx_iload_n dX1_dipOf_21 rfl ?_
    refine zy_iald (i := z.toNat) dX1_dipOf_22 rfl (by decide) (by omega) (by omega) ((hS _ (by omega))) ?_
    refine zy_imul dX1_dipOf_23 ?_
    refine zy_iadd dX1_dipOf_24 ?_
    refine zx_goto (tgt := 29) dX1_dipOf_25 (by decide) ?_
    refine zx_iret (st := []) dX1_dipOf_29 rfl rfl ?_
    first | exact zk_I (by rw [zp_at, if_pos h_5]; rfl) | exact zk_I (by rw [zp_at, if_neg h_5])
/-- a loop that counts up to n -/
theorem zw_loop (n : Nat) {P : Nat → Prop} (h : ∀ s, s ≤ n → (s < n → P (s + 1)) → P s) : ∀ s, s ≤ n → P s := by
  have key : ∀ k s, s + k = n → P s := by
    intro k
    induction k with
    | zero => intro s hs; exact h s (by omega) (fun q => absurd q (by omega))
    | succ k ih => intro s hs; exact h s (by omega) (fun _ => ih (s + 1) (by omega))
  intro s hs
  exact key (n - s) s (by omega)
abbrev zp_wet (π : zP) (a b : Int) (s : Nat) : Prop := 0 < π.2.2 s ∧ 50 * π.2.2 s ≤ zp_dip π s a b
/-- the squares with wet doors among the first ones, as bits -/
def zp_bits (π : zP) (a b : Int) : Nat → Nat
  | 0 => 0
  | s + 1 => zp_bits π a b s + (if zp_wet π a b s then 2 ^ s else 0)
theorem zp_bits_lt (π : zP) (a b : Int) : ∀ s, zp_bits π a b s < 2 ^ s
  | 0 => Nat.one_pos
  | s + 1 => by
    have ih := zp_bits_lt π a b s
    rw [zp_bits, Nat.pow_succ]
    split <;> omega
theorem zb_one : ∀ s : Nat, s < 31 → (zn_I 1 <<< (zn_I (s : Int) &&& 31)) = nI (2 ^ s) := by decide +kernel
theorem zb_or {B s : Nat} (hs : s < 31) (hB : B < 2 ^ s) : (zn_I (B : Int) ||| (zn_I 1 <<< (zn_I (s : Int) &&& 31))) = zn_I ((B + 2 ^ s : Nat) : Int) := by
  rw [zb_one s hs, ← zn_nat, ← zn_nat]
  have e : nI B ||| nI (2 ^ s) = nI (B ||| 2 ^ s) := by
    apply Int32.toBitVec_inj.1
    show BitVec.ofNat 32 B ||| BitVec.ofNat 32 (2 ^ s) = BitVec.ofNat 32 (B ||| 2 ^ s)
    apply BitVec.eq_of_getLsbD_eq
    intro i hi
    simp [hi]
  have h := Nat.two_pow_add_eq_or_of_lt hB 1
  rw [Nat.mul_one] at h
  rw [e, Nat.or_comm, ← h, Nat.add_comm]
set_option maxRecDepth 100000 in
set_option maxHeartbeats 600000 in
theorem mX1_wetDoors {l : zw_Lh} {d : Nat} {M : zw_M} {π : zP} (hI : zI M π) {a b : Int} (ha : -10000000 ≤ a ∧ a ≤ 10000000) (hb : -10000000 ≤ b ∧ b ≤ 10000000) : zw_C l d iX1_wetDoors [.ref 4, .int (zn_I a), .int (zn_I b)] M (zw_i (zn_I (zp_bits π a b (zp_n π) : Nat)) M) := by
  obtain ⟨hp, hr, hw, hn, hdo, hH, hE, hS, hB⟩ := id hI
  have h30 := zp_30 hp
  refine zw_of (by decide +kernel) (Nat.le_of_ble_eq_true rfl) ?_
  refine zy_loc (L1 := [.ref 4, .int (zn_I a), .int (zn_I b), .retAddr 0, .retAddr 0, .retAddr 0, .retAddr 0]) rfl ?_
  have loop : ∀ s, s ≤ zp_n π → ∀ v5 v6 : Value, zw_X l d iX1_wetDoors (zw_i (zn_I (zp_bits π a b (zp_n π) : Nat)) M) 5 [.ref 4, .int (zn_I a), .int (zn_I b), .int (zn_I (zp_bits π a b s : Nat)), .int (zn_I (s : Nat)), v5, v6] [] M := by
    refine zw_loop (zp_n π) (P := fun s => ∀ v5 v6 : Value, zw_X l d iX1_wetDoors (zw_i (zn_I (zp_bits π a b (zp_n π) : Nat)) M) 5 [.ref 4, .int (zn_I a), .int (zn_I b), .int (zn_I (zp_bits π a b s : Nat)), .int (zn_I (s : Nat)), v5, v6] [] M) (fun s hs ih v5 v6 => ?_)
    refine zx_iload dX1_wetDoors_5 rfl ?_
    refine zx_aload_n dX1_wetDoors_7 rfl ?_
    refine zy_geti dX1_wetDoors_8 fX1_28 (hn) ?_
    refine zy_icmp_ge (tgt := 72) dX1_wetDoors_11 (by decide) (by omega) (fun h_11 => ?_) (fun h_11 => ?_)
    · refine zx_iload_n dX1_wetDoors_72 rfl ?_
      refine zx_iret (st := []) dX1_wetDoors_73 rfl rfl ?_
      exact zk_I (by rw [show s = zp_n π by omega])
    · refine zx_aload_n dX1_wetDoors_14 rfl ?_
      refine zx_getr dX1_wetDoors_15 fX1_9 ?_
      refine zx_iload dX1_wetDoors_18 rfl ?_
      refine zy_iald dX1_wetDoors_20 rfl (by decide) rfl (by omega) ((hH _ (by omega))) ?_
      refine zx_istore dX1_wetDoors_21 rfl (Nat.le_of_ble_eq_true rfl) ?_
      refine zx_iload_n dX1_wetDoors_23 rfl ?_
      refine zx_aload_n dX1_wetDoors_24 rfl ?_
      refine zx_getr dX1_wetDoors_25 fX1_15 ?_
      refine zx_iload dX1_wetDoors_28 rfl ?_
      refine zy_iald dX1_wetDoors_30 rfl (by decide) rfl (by omega) ((hE _ (by omega))) ?_
      refine zy_imul dX1_wetDoors_31 ?_
      refine zx_iload_n dX1_wetDoors_32 rfl ?_
      refine zx_aload_n dX1_wetDoors_33 rfl ?_
      refine zx_getr dX1_wetDoors_34 fX1_18 ?_
      refine zx_iload dX1_wetDoors_37 rfl ?_
      refine zy_iald dX1_wetDoors_39 rfl (by decide) rfl (by omega) ((hS _ (by omega))) ?_
      refine zy_imul dX1_wetDoors_40 ?_
      refine zy_iadd dX1_wetDoors_41 ?_
      refine zx_istore dX1_wetDoors_42 rfl (Nat.le_of_ble_eq_true rfl) ?_
      refine zx_iload dX1_wetDoors_44 rfl ?_
      refine zy_if_le (tgt := 66) dX1_wetDoors_46 (by decide) (by have h8 := hB s (by omega); omega) (fun h_46 => ?_) (fun h_46 => ?_)
      · refine zy_iinc dX1_wetDoors_66 rfl rfl ?_
        refine zx_goto (tgt := 5) dX1_wetDoors_69 (by decide) ?_
        first
          | exact ih (by omega) _ _
          | (rw [show zp_bits π a b s = zp_bits π a b (s + 1) by rw [zp_bits, if_neg (fun q => by have q2 := q.2; unfold zp_dip at q2; omega), Nat.add_zero]]; exact ih (by omega) _ _)
      · refine zx_iload dX1_wetDoors_49 rfl ?_
        refine zx_bipush (v := zn_I 50) dX1_wetDoors_51 (by decide) ?_
        refine zx_iload dX1_wetDoors_53 rfl ?_
        refine zy_imul dX1_wetDoors_55 ?_
        refine zy_icmp_lt (tgt := 66) dX1_wetDoors_56 (by decide) (by have h7 := zp_dip_rng hp (show s < zp_n π by omega) ha hb; have h8 := hB s (by omega); unfold zp_dip at h7; omega) (fun h_56 => ?_) (fun h_56 => ?_)
        · refine zy_iinc dX1_wetDoors_66 rfl rfl ?_
          refine zx_goto (tgt := 5) dX1_wetDoors_69 (by decide) ?_
          first
            | exact ih (by omega) _ _
            | (rw [show zp_bits π a b s = zp_bits π a b (s + 1) by rw [zp_bits, if_neg (fun q => by have q2 := q.2; unfold zp_dip at q2; omega), Nat.add_zero]]; exact ih (by omega) _ _)
        · refine zx_iload_n dX1_wetDoors_59 rfl ?_
          refine zx_iconst (v := zn_I 1) dX1_wetDoors_60 rfl ?_
          refine zx_iload dX1_wetDoors_61 rfl ?_
          refine zx_ishl dX1_wetDoors_63 ?_
          refine zx_ior dX1_wetDoors_64 ?_
          refine zy_top (zb_or (by omega) (zp_bits_lt π a b s)) ?_
          rw [show zp_bits π a b s + 2 ^ s = zp_bits π a b (s + 1) by rw [zp_bits, if_pos ⟨by omega, by unfold zp_dip; omega⟩]]
          refine zx_istore_n dX1_wetDoors_65 rfl (Nat.le_of_ble_eq_true rfl) ?_
          refine zy_iinc dX1_wetDoors_66 rfl rfl ?_
          refine zx_goto (tgt := 5) dX1_wetDoors_69 (by decide) ?_
          first
            | exact ih (by omega) _ _
            | (rw [show zp_bits π a b s = zp_bits π a b (s + 1) by rw [zp_bits, if_neg (fun q => by have q2 := q.2; unfold zp_dip at q2; omega), Nat.add_zero]]; exact ih (by omega) _ _)
  refine zx_iconst (v := zn_I 0) dX1_wetDoors_0 rfl ?_
  refine zx_istore_n dX1_wetDoors_1 rfl (Nat.le_of_ble_eq_true rfl) ?_
  refine zx_iconst (v := zn_I 0) dX1_wetDoors_2 rfl ?_
  refine zx_istore dX1_wetDoors_3 rfl (Nat.le_of_ble_eq_true rfl) ?_
  exact loop 0 (by omega) _ _
/-- the square a step away: up, right, down, left; -1 where there is none -/
def zp_step (π : zP) (s : Nat) (v : Int) : Int :=
  if v = 1 then (if π.2.1 ≤ s then (s : Int) - π.2.1 else -1)
  else if v = 2 then (if s % π.2.1 < π.2.1 - 1 then (s : Int) + 1 else -1)
  else if v = 3 then (if s + π.2.1 < zp_n π then (s : Int) + π.2.1 else -1)
  else if v = 4 then (if 0 < s % π.2.1 then (s : Int) - 1 else -1)
  else s
theorem zp_w0 {π : zP} {s : Nat} (hs : s < zp_n π) : 0 < π.2.1 ∧ 0 < π.1 ∧ s % π.2.1 < π.2.1 ∧ s / π.2.1 < π.1 := by
  have hw : 0 < π.2.1 := Nat.pos_of_ne_zero fun q => by rw [zp_n, q, Nat.mul_zero] at hs; omega
  have hr : 0 < π.1 := Nat.pos_of_ne_zero fun q => by rw [zp_n, q, Nat.zero_mul] at hs; omega
  exact ⟨hw, hr, Nat.mod_lt s hw, Nat.div_lt_of_lt_mul (show s < π.2.1 * π.1 by rw [Nat.mul_comm]; exact hs)⟩

/-- the square to which a person goes in a storm's minute -/
def zp_mid (π : zP) (s : Nat) : Nat := if s / π.2.1 = π.1 / 2 then (if s % π.2.1 = π.2.1 / 2 then s else if s % π.2.1 < π.2.1 / 2 then s + 1 else s - 1) else if s / π.2.1 < π.1 / 2 then s + π.2.1 else s - π.2.1
theorem zp_down {π : zP} {s : Nat} (hs : s < zp_n π) (h : s / π.2.1 + 1 < π.1) : s + π.2.1 < zp_n π := by
  obtain ⟨hw0, -, -, -⟩ := zp_w0 hs
  have h1 : (s + π.2.1) / π.2.1 < π.1 := by rw [Nat.add_div_right _ hw0]; exact h
  exact (Nat.div_lt_iff_lt_mul hw0).mp h1
theorem zp_up {π : zP} {s : Nat} (hs : s < zp_n π) (h : 0 < s / π.2.1) : π.2.1 ≤ s := by
  rcases Nat.lt_or_ge s π.2.1 with q | q
  · rw [Nat.div_eq_of_lt q] at h; omega
  · exact q
end
section
/-! THE THINGS: how many, kinds, weights, where each stands in each quarter -/
abbrev zQ : Type := Nat × (Nat → Int) × (Nat → Int) × (Nat → Nat → Nat)
def zT (M : zw_M) (n : Nat) (τ : zQ) : Prop :=
  τ.1 ≤ 8 ∧ M.1 8 4 = zn_I τ.1 ∧ (∀ t, t < τ.1 → M.1 9 t = zn_I (τ.2.1 t)) ∧ (∀ t, t < τ.1 → M.1 10 t = zn_I (τ.2.2.1 t)) ∧ (∀ t, t < τ.1 → ∀ q, q < 8 → M.1 11 (t * 8 + q) = zn_I (τ.2.2.2 t q : Nat)) ∧ (∀ t, t < τ.1 → 0 ≤ τ.2.1 t ∧ τ.2.1 t ≤ 4) ∧ (∀ t, t < τ.1 → 1 ≤ τ.2.2.1 t ∧ τ.2.2.1 t ≤ 99) ∧ (∀ t, t < τ.1 → ∀ q, q < 8 → τ.2.2.2 t q < n)
def zt_w (τ : zQ) (t : Nat) : Int := if τ.2.1 t = 4 then 2 * τ.2.2.1 t else τ.2.2.1 t
def zt_kind (τ : zQ) (z : Int) : Int := if 0 ≤ z ∧ z < τ.1 then τ.2.1 z.toNat else -1
def zt_weight (τ : zQ) (z : Int) : Int := if 0 ≤ z ∧ z < τ.1 then τ.2.2.1 z.toNat else 0
def zt_weighs (τ : zQ) (z : Int) : Int := if 0 ≤ z ∧ z < τ.1 then zt_w τ z.toNat else 0
abbrev zt_isA (τ : zQ) (z a : Int) : Prop := zt_kind τ z = a ∨ a = 0 ∨ (a = 3 ∧ zt_kind τ z = 4)
def zt_place (τ : zQ) (z q : Int) : Int := if (0 ≤ z ∧ z < τ.1) ∧ (0 ≤ q ∧ q < 8) then (τ.2.2.2 z.toNat q.toNat : Int) else -1
abbrev zt_per (τ : zQ) (t : Nat) : Prop := τ.2.1 t = 3 ∨ τ.2.1 t = 4
theorem zt_kind_in {τ : zQ} {t : Nat} (h : t < τ.1) : zt_kind τ (t : Int) = τ.2.1 t := by rw [zt_kind, if_pos ⟨by omega, by omega⟩, Int.toNat_natCast]
theorem zt_weighs_in {τ : zQ} {t : Nat} (h : t < τ.1) : zt_weighs τ (t : Int) = zt_w τ t := by rw [zt_weighs, if_pos ⟨by omega, by omega⟩, Int.toNat_natCast]
theorem zt_weighs_out {τ : zQ} {t : Nat} (h : τ.1 ≤ t) : zt_weighs τ (t : Int) = 0 := by rw [zt_weighs, if_neg (fun q => by omega)]
theorem zt_place_in {τ : zQ} {t q : Nat} (h : t < τ.1) (hq : q < 8) : zt_place τ (t : Int) (q : Int) = (τ.2.2.2 t q : Int) := by rw [zt_place, if_pos ⟨⟨by omega, by omega⟩, by omega, by omega⟩, Int.toNat_natCast, Int.toNat_natCast]
theorem zt_kind_rng {M : zw_M} {n : Nat} {τ : zQ} (hT : zT M n τ) (z : Int) : -1 ≤ zt_kind τ z ∧ zt_kind τ z ≤ 4 := by
  unfold zt_kind
  split
  · next h => have := hT.2.2.2.2.2.1 z.toNat (by omega); omega
  · omega
theorem zt_w_rng {M : zw_M} {n : Nat} {τ : zQ} (hT : zT M n τ) {t : Nat} (h : t < τ.1) : 1 ≤ zt_w τ t ∧ zt_w τ t ≤ 198 := by
  have := hT.2.2.2.2.2.2.1 t h
  unfold zt_w
  split <;> omega
/-- who is a person, as bits -/
def zt_pb (τ : zQ) : Nat → Nat
  | 0 => 0
  | t + 1 => zt_pb τ t + (if zt_per τ t then 2 ^ t else 0)
theorem zt_pb_lt (τ : zQ) : ∀ t, zt_pb τ t < 2 ^ t
  | 0 => Nat.one_pos
  | t + 1 => by
    have ih := zt_pb_lt τ t
    rw [zt_pb, Nat.pow_succ]
    split <;> omega
set_option maxRecDepth 100000 in
set_option maxHeartbeats 600000 in
theorem mX10_isQuarter {l : zw_Lh} {d : Nat} {M : zw_M} {z : Int} (hz : -2147483648 ≤ z ∧ z < 2147483648) : zw_C l d iX10_isQuarter [.int (zn_I z)] M (zw_i (zn_B (0 ≤ z ∧ z < 8)) M) := by
  refine zw_of (by decide +kernel) (Nat.le_of_ble_eq_true rfl) ?_
  refine zy_loc (L1 := [.int (zn_I z)]) rfl ?_
  refine zx_iload_n dX10_isQuarter_0 rfl ?_
  refine zy_if_lt (tgt := 14) dX10_isQuarter_1 (by decide) (by omega) (fun h_1 => ?_) (fun h_1 => ?_)
  · refine zx_iconst (v := zn_I 0) dX10_isQuarter_14 rfl ?_
    refine zx_iret (st := []) dX10_isQuarter_15 rfl rfl ?_
    first | exact zk_B (zn_Bt (by omega)) | exact zk_B (zn_Bf (by omega))
  · refine zx_iload_n dX10_isQuarter_4 rfl ?_
    refine zx_bipush (v := zn_I 8) dX10_isQuarter_5 (by decide) ?_
    refine zy_icmp_ge (tgt := 14) dX10_isQuarter_7 (by decide) (by omega) (fun h_7 => ?_) (fun h_7 => ?_)
    · refine zx_iconst (v := zn_I 0) dX10_isQuarter_14 rfl ?_
      refine zx_iret (st := []) dX10_isQuarter_15 rfl rfl ?_
      first | exact zk_B (zn_Bt (by omega)) | exact zk_B (zn_Bf (by omega))
    · refine zx_iconst (v := zn_I 1) dX10_isQuarter_10 rfl ?_
      refine zx_goto (tgt := 15) dX10_isQuarter_11 (by decide) ?_
      refine zx_iret (st := []) dX10_isQuarter_15 rfl rfl ?_
      first | exact zk_B (zn_Bt (by omega)) | exact zk_B (zn_Bf (by omega))
set_option maxRecDepth 100000 in
set_option maxHeartbeats 600000 in
theorem mX10_isKind {l : zw_Lh} {d : Nat} {M : zw_M} {z : Int} (hz : -2147483648 ≤ z ∧ z < 2147483648) : zw_C l d iX10_isKind [.int (zn_I z)] M (zw_i (zn_B (0 ≤ z ∧ z ≤ 4)) M) := by
  refine zw_of (by decide +kernel) (Nat.le_of_ble_eq_true rfl) ?_
  refine zy_loc (L1 := [.int (zn_I z)]) rfl ?_
  refine zx_iload_n dX10_isKind_0 rfl ?_
  refine zy_if_lt (tgt := 13) dX10_isKind_1 (by decide) (by omega) (fun h_1 => ?_) (fun h_1 => ?_)
  · refine zx_iconst (v := zn_I 0) dX10_isKind_13 rfl ?_
    refine zx_iret (st := []) dX10_isKind_14 rfl rfl ?_
    first | exact zk_B (zn_Bt (by omega)) | exact zk_B (zn_Bf (by omega))
  · refine zx_iload_n dX10_isKind_4 rfl ?_
    refine zx_iconst (v := zn_I 4) dX10_isKind_5 rfl ?_
    refine zy_icmp_gt (tgt := 13) dX10_isKind_6 (by decide) (by omega) (fun h_6 => ?_) (fun h_6 => ?_)
    · refine zx_iconst (v := zn_I 0) dX10_isKind_13 rfl ?_
      refine zx_iret (st := []) dX10_isKind_14 rfl rfl ?_
      first | exact zk_B (zn_Bt (by omega)) | exact zk_B (zn_Bf (by omega))
    · refine zx_iconst (v := zn_I 1) dX10_isKind_9 rfl ?_
      refine zx_goto (tgt := 14) dX10_isKind_10 (by decide) ?_
      refine zx_iret (st := []) dX10_isKind_14 rfl rfl ?_
      first | exact zk_B (zn_Bt (by omega)) | exact zk_B (zn_Bf (by omega))
set_option maxRecDepth 100000 in
set_option maxHeartbeats 600000 in
theorem mX10_isWeight {l : zw_Lh} {d : Nat} {M : zw_M} {z : Int} (hz : -2147483648 ≤ z ∧ z < 2147483648) : zw_C l d iX10_isWeight [.int (zn_I z)] M (zw_i (zn_B (1 ≤ z ∧ z ≤ 99)) M) := by
  refine zw_of (by decide +kernel) (Nat.le_of_ble_eq_true rfl) ?_
  refine zy_loc (L1 := [.int (zn_I z)]) rfl ?_
  refine zx_iload_n dX10_isWeight_0 rfl ?_
  refine zx_iconst (v := zn_I 1) dX10_isWeight_1 rfl ?_
  refine zy_icmp_lt (tgt := 15) dX10_isWeight_2 (by decide) (by omega) (fun h_2 => ?_) (fun h_2 => ?_)
  · refine zx_iconst (v := zn_I 0) dX10_isWeight_15 rfl ?_
    refine zx_iret (st := []) dX10_isWeight_16 rfl rfl ?_
    first | exact zk_B (zn_Bt (by omega)) | exact zk_B (zn_Bf (by omega))
  · refine zx_iload_n dX10_isWeight_5 rfl ?_
    refine zx_bipush (v := zn_I 99) dX10_isWeight_6 (by decide) ?_
    refine zy_icmp_gt (tgt := 15) dX10_isWeight_8 (by decide) (by omega) (fun h_8 => ?_) (fun h_8 => ?_)
    · refine zx_iconst (v := zn_I 0) dX10_isWeight_15 rfl ?_
      refine zx_iret (st := []) dX10_isWeight_16 rfl rfl ?_
      first | exact zk_B (zn_Bt (by omega)) | exact zk_B (zn_Bf (by omega))
    · refine zx_iconst (v := zn_I 1) dX10_isWeight_11 rfl ?_
      refine zx_goto (tgt := 16) dX10_isWeight_12 (by decide) ?_
      refine zx_iret (st := []) dX10_isWeight_16 rfl rfl ?_
      first | exact zk_B (zn_Bt (by omega)) | exact zk_B (zn_Bf (by omega))
set_option maxRecDepth 100000 in
set_option maxHeartbeats 600000 in
theorem mX10_asksPlace {l : zw_Lh} {d : Nat} {M : zw_M} {z : Int} (hz : -2147483648 ≤ z ∧ z < 2147483648) : zw_C l d iX10_asksPlace [.int (zn_I z)] M (zw_i (zn_B (10 ≤ z ∧ z ≤ 17)) M) := by
  refine zw_of (by decide +kernel) (Nat.le_of_ble_eq_true rfl) ?_
  refine zy_loc (L1 := [.int (zn_I z)]) rfl ?_
  refine zx_iload_n dX10_asksPlace_0 rfl ?_
  refine zx_bipush (v := zn_I 10) dX10_asksPlace_1 (by decide) ?_
  refine zy_icmp_lt (tgt := 16) dX10_asksPlace_3 (by decide) (by omega) (fun h_3 => ?_) (fun h_3 => ?_)
  · refine zx_iconst (v := zn_I 0) dX10_asksPlace_16 rfl ?_
    refine zx_iret (st := []) dX10_asksPlace_17 rfl rfl ?_
    first | exact zk_B (zn_Bt (by omega)) | exact zk_B (zn_Bf (by omega))
  · refine zx_iload_n dX10_asksPlace_6 rfl ?_
    refine zx_bipush (v := zn_I 17) dX10_asksPlace_7 (by decide) ?_
    refine zy_icmp_gt (tgt := 16) dX10_asksPlace_9 (by decide) (by omega) (fun h_9 => ?_) (fun h_9 => ?_)
    · refine zx_iconst (v := zn_I 0) dX10_asksPlace_16 rfl ?_
      refine zx_iret (st := []) dX10_asksPlace_17 rfl rfl ?_
      first | exact zk_B (zn_Bt (by omega)) | exact zk_B (zn_Bf (by omega))
    · refine zx_iconst (v := zn_I 1) dX10_asksPlace_12 rfl ?_
      refine zx_goto (tgt := 17) dX10_asksPlace_13 (by decide) ?_
      refine zx_iret (st := []) dX10_asksPlace_17 rfl rfl ?_
      first | exact zk_B (zn_Bt (by omega)) | exact zk_B (zn_Bf (by omega))
set_option maxRecDepth 100000 in
set_option maxHeartbeats 600000 in
theorem mX8_size {l : zw_Lh} {d : Nat} {M : zw_M} {n : Nat} {τ : zQ} (hT : zT M n τ) : zw_C l d iX8_size [.ref 8] M (zw_i (zn_I τ.1) M) := by
  obtain ⟨h8, hk, hK, hW, hP, hKr, hWr, hPr⟩ := id hT
  refine zw_of (by decide +kernel) (Nat.le_of_ble_eq_true rfl) ?_
  refine zy_loc (L1 := [.ref 8]) rfl ?_
  refine zx_aload_n dX8_size_0 rfl ?_
  refine zy_geti dX8_size_1 fX8_28 (hk) ?_
  refine zx_iret (st := []) dX8_size_4 rfl rfl ?_
  exact ⟨rfl, rfl⟩
set_option maxRecDepth 100000 in
set_option maxHeartbeats 600000 in
theorem mX8_has {l : zw_Lh} {d : Nat} {M : zw_M} {n : Nat} {τ : zQ} (hT : zT M n τ) {z : Int} (hz : -2147483648 ≤ z ∧ z < 2147483648) : zw_C l d iX8_has [.ref 8, .int (zn_I z)] M (zw_i (zn_B (0 ≤ z ∧ z < τ.1)) M) := by
  obtain ⟨h8, hk, hK, hW, hP, hKr, hWr, hPr⟩ := id hT
  refine zw_of (by decide +kernel) (Nat.le_of_ble_eq_true rfl) ?_
  refine zy_loc (L1 := [.ref 8, .int (zn_I z)]) rfl ?_
  refine zx_iload_n dX8_has_0 rfl ?_
  refine zy_if_lt (tgt := 16) dX8_has_1 (by decide) (by omega) (fun h_1 => ?_) (fun h_1 => ?_)
  · refine zx_iconst (v := zn_I 0) dX8_has_16 rfl ?_
    refine zx_iret (st := []) dX8_has_17 rfl rfl ?_
    first | exact zk_B (zn_Bt (by omega)) | exact zk_B (zn_Bf (by omega))
  · refine zx_iload_n dX8_has_4 rfl ?_
    refine zx_aload_n dX8_has_5 rfl ?_
    refine zy_geti dX8_has_6 fX8_28 (hk) ?_
    refine zy_icmp_ge (tgt := 16) dX8_has_9 (by decide) (by omega) (fun h_9 => ?_) (fun h_9 => ?_)
    · refine zx_iconst (v := zn_I 0) dX8_has_16 rfl ?_
      refine zx_iret (st := []) dX8_has_17 rfl rfl ?_
      first | exact zk_B (zn_Bt (by omega)) | exact zk_B (zn_Bf (by omega))
    · refine zx_iconst (v := zn_I 1) dX8_has_12 rfl ?_
      refine zx_goto (tgt := 17) dX8_has_13 (by decide) ?_
      refine zx_iret (st := []) dX8_has_17 rfl rfl ?_
      first | exact zk_B (zn_Bt (by omega)) | exact zk_B (zn_Bf (by omega))
set_option maxRecDepth 100000 in
set_option maxHeartbeats 600000 in
theorem mX8_kind {l : zw_Lh} {d : Nat} {M : zw_M} {n : Nat} {τ : zQ} (hT : zT M n τ) {z : Int} (hz : -2147483648 ≤ z ∧ z < 2147483648) : zw_C l (d + 1) iX8_kind [.ref 8, .int (zn_I z)] M (zw_i (zn_I (zt_kind τ z)) M) := by
  obtain ⟨h8, hk, hK, hW, hP, hKr, hWr, hPr⟩ := id hT
  refine zw_of (by decide +kernel) (Nat.le_of_ble_eq_true rfl) ?_
  refine zy_loc (L1 := [.ref 8, .int (zn_I z)]) rfl ?_
  refine zx_aload_n dX8_kind_0 rfl ?_
  refine zx_iload_n dX8_kind_1 rfl ?_
  refine zx_callV (y1 := iX8_has) dX8_kind_2 lX8_35 vX8_has rc_8 (mX8_has hT hz) rfl rfl (Nat.le_of_ble_eq_true rfl) ?_
  refine zk_i ?_
  refine zy_ifB_eq (tgt := 17) dX8_kind_5 (by decide) (fun h_5 => ?_) (fun h_5 => ?_)
  · refine zx_iconst (v := zn_I (-1)) dX8_kind_17 rfl ?_
    refine zx_iret (st := []) dX8_kind_18 rfl rfl ?_
    first | exact zk_I (by rw [zt_kind, if_pos h_5]) | exact zk_I (by rw [zt_kind, if_neg h_5])
  · refine zx_aload_n dX8_kind_8 rfl ?_
    refine zx_getr dX8_kind_9 fX8_9 ?_
    refine zx_iload_n dX8_kind_12 rfl ?_
    refine zy_iald (i := z.toNat) dX8_kind_13 rfl (by decide) (by omega) (by omega) ((hK _ (by omega))) ?_
    refine zx_goto (tgt := 18) dX8_kind_14 (by decide) ?_
    refine zx_iret (st := []) dX8_kind_18 rfl rfl ?_
    first | exact zk_I (by rw [zt_kind, if_pos h_5]) | exact zk_I (by rw [zt_kind, if_neg h_5])
set_option maxRecDepth 100000 in
set_option maxHeartbeats 600000 in
theorem mX8_weight {l : zw_Lh} {d : Nat} {M : zw_M} {n : Nat} {τ : zQ} (hT : zT M n τ) {z : Int} (hz : -2147483648 ≤ z ∧ z < 2147483648) : zw_C l (d + 1) iX8_weight [.ref 8, .int (zn_I z)] M (zw_i (zn_I (zt_weight τ z)) M) := by
  obtain ⟨h8, hk, hK, hW, hP, hKr, hWr, hPr⟩ := id hT
  refine zw_of (by decide +kernel) (Nat.le_of_ble_eq_true rfl) ?_
  refine zy_loc (L1 := [.ref 8, .int (zn_I z)]) rfl ?_
  refine zx_aload_n dX8_weight_0 rfl ?_
  refine zx_iload_n dX8_weight_1 rfl ?_
  refine zx_callV (y1 := iX8_has) dX8_weight_2 lX8_35 vX8_has rc_8 (mX8_has hT hz) rfl rfl (Nat.le_of_ble_eq_true rfl) ?_
  refine zk_i ?_
  refine zy_ifB_eq (tgt := 17) dX8_weight_5 (by decide) (fun h_5 => ?_) (fun h_5 => ?_)
  · refine zx_iconst (v := zn_I 0) dX8_weight_17 rfl ?_
    refine zx_iret (st := []) dX8_weight_18 rfl rfl ?_
    first | exact zk_I (by rw [zt_weight, if_pos h_5]) | exact zk_I (by rw [zt_weight, if_neg h_5])
  · refine zx_aload_n dX8_weight_8 rfl ?_
    refine zx_getr dX8_weight_9 fX8_15 ?_
    refine zx_iload_n dX8_weight_12 rfl ?_
    refine zy_iald (i := z.toNat) dX8_weight_13 rfl (by decide) (by omega) (by omega) ((hW _ (by omega))) ?_
    refine zx_goto (tgt := 18) dX8_weight_14 (by decide) ?_
    refine zx_iret (st := []) dX8_weight_18 rfl rfl ?_
    first | exact zk_I (by rw [zt_weight, if_pos h_5]) | exact zk_I (by rw [zt_weight, if_neg h_5])
set_option maxRecDepth 100000 in
set_option maxHeartbeats 600000 in
theorem mX8_weighs {l : zw_Lh} {d : Nat} {M : zw_M} {n : Nat} {τ : zQ} (hT : zT M n τ) {z : Int} (hz : -2147483648 ≤ z ∧ z < 2147483648) : zw_C l (d + 1) iX8_weighs [.ref 8, .int (zn_I z)] M (zw_i (zn_I (zt_weighs τ z)) M) := by
  obtain ⟨h8, hk, hK, hW, hP, hKr, hWr, hPr⟩ := id hT
  refine zw_of (by decide +kernel) (Nat.le_of_ble_eq_true rfl) ?_
  refine zy_loc (L1 := [.ref 8, .int (zn_I z)]) rfl ?_
  refine zx_aload_n dX8_weighs_0 rfl ?_
  refine zx_iload_n dX8_weighs_1 rfl ?_
  refine zx_callV (y1 := iX8_has) dX8_weighs_2 lX8_35 vX8_has rc_8 (mX8_has hT hz) rfl rfl (Nat.le_of_ble_eq_true rfl) ?_
  refine zk_i ?_
  refine zy_ifB_ne (tgt := 10) dX8_weighs_5 (by decide) (fun h_5 => ?_) (fun h_5 => ?_)
  · refine zx_aload_n dX8_weighs_10 rfl ?_
    refine zx_getr dX8_weighs_11 fX8_9 ?_
    refine zx_iload_n dX8_weighs_14 rfl ?_
    refine zy_iald (i := z.toNat) dX8_weighs_15 rfl (by decide) (by omega) (by omega) ((hK _ (by omega))) ?_
    refine zx_iconst (v := zn_I 4) dX8_weighs_16 rfl ?_
    refine zy_icmp_ne (tgt := 31) dX8_weighs_17 (by decide) (by have := hKr z.toNat (by omega); omega) (fun h_17 => ?_) (fun h_17 => ?_)
    · refine zx_aload_n dX8_weighs_31 rfl ?_
      refine zx_getr dX8_weighs_32 fX8_15 ?_
      refine zx_iload_n dX8_weighs_35 rfl ?_
      refine zy_iald (i := z.toNat) dX8_weighs_36 rfl (by decide) (by omega) (by omega) ((hW _ (by omega))) ?_
      refine zx_iret (st := []) dX8_weighs_37 rfl rfl ?_
      first | exact zk_I (by rw [zt_weighs, if_neg h_5]) | exact zk_I (by rw [zt_weighs, if_pos h_5, zt_w, if_pos h_17]) | exact zk_I (by rw [zt_weighs, if_pos h_5, zt_w, if_neg h_17])
    · refine zx_iconst (v := zn_I 2) dX8_weighs_20 rfl ?_
      refine zx_aload_n dX8_weighs_21 rfl ?_
      refine zx_getr dX8_weighs_22 fX8_15 ?_
      refine zx_iload_n dX8_weighs_25 rfl ?_
      refine zy_iald (i := z.toNat) dX8_weighs_26 rfl (by decide) (by omega) (by omega) ((hW _ (by omega))) ?_
      refine zy_imul dX8_weighs_27 ?_
      refine zx_goto (tgt := 37) dX8_weighs_28 (by decide) ?_
      refine zx_iret (st := []) dX8_weighs_37 rfl rfl ?_
      first | exact zk_I (by rw [zt_weighs, if_neg h_5]) | exact zk_I (by rw [zt_weighs, if_pos h_5, zt_w, if_pos h_17]) | exact zk_I (by rw [zt_weighs, if_pos h_5, zt_w, if_neg h_17])
  · refine zx_iconst (v := zn_I 0) dX8_weighs_8 rfl ?_
    refine zx_iret (st := []) dX8_weighs_9 rfl rfl ?_
    first | exact zk_I (by rw [zt_weighs, if_neg h_5]) | exact zk_I (by rw [zt_weighs, if_pos h_5, zt_w, if_pos h_17]) | exact zk_I (by rw [zt_weighs, if_pos h_5, zt_w, if_neg h_17])
set_option maxRecDepth 100000 in
set_option maxHeartbeats 600000 in
theorem mX8_isA {l : zw_Lh} {d : Nat} {M : zw_M} {n : Nat} {τ : zQ} (hT : zT M n τ) {z : Int} {a : Int} (hz : -2147483648 ≤ z ∧ z < 2147483648) (ha : -2147483648 ≤ a ∧ a < 2147483648) : zw_C l (d + 2) iX8_isA [.ref 8, .int (zn_I z), .int (zn_I a)] M (zw_i (zn_B (zt_isA τ z a)) M) := by
  obtain ⟨h8, hk, hK, hW, hP, hKr, hWr, hPr⟩ := id hT
  have hkr := zt_kind_rng hT z
  refine zw_of (by decide +kernel) (Nat.le_of_ble_eq_true rfl) ?_
  refine zy_loc (L1 := [.ref 8, .int (zn_I z), .int (zn_I a), .retAddr 0]) rfl ?_
  refine zx_aload_n dX8_isA_0 rfl ?_
  refine zx_iload_n dX8_isA_1 rfl ?_
  refine zx_callV (y1 := iX8_kind) dX8_isA_2 lX8_39 vX8_kind rc_8 (mX8_kind hT hz) rfl rfl (Nat.le_of_ble_eq_true rfl) ?_
  refine zk_i ?_
  refine zx_istore_n dX8_isA_5 rfl (Nat.le_of_ble_eq_true rfl) ?_
  refine zx_iload_n dX8_isA_6 rfl ?_
  refine zx_iload_n dX8_isA_7 rfl ?_
  refine zy_icmp_eq (tgt := 25) dX8_isA_8 (by decide) (by omega) (fun h_8 => ?_) (fun h_8 => ?_)
  · refine zx_iconst (v := zn_I 1) dX8_isA_25 rfl ?_
    refine zx_goto (tgt := 30) dX8_isA_26 (by decide) ?_
    refine zx_iret (st := []) dX8_isA_30 rfl rfl ?_
    first | exact zk_B (zn_Bt (by omega)) | exact zk_B (zn_Bf (by omega))
  · refine zx_iload_n dX8_isA_11 rfl ?_
    refine zy_if_eq (tgt := 25) dX8_isA_12 (by decide) (by omega) (fun h_12 => ?_) (fun h_12 => ?_)
    · refine zx_iconst (v := zn_I 1) dX8_isA_25 rfl ?_
      refine zx_goto (tgt := 30) dX8_isA_26 (by decide) ?_
      refine zx_iret (st := []) dX8_isA_30 rfl rfl ?_
      first | exact zk_B (zn_Bt (by omega)) | exact zk_B (zn_Bf (by omega))
    · refine zx_iload_n dX8_isA_15 rfl ?_
      refine zx_iconst (v := zn_I 3) dX8_isA_16 rfl ?_
      refine zy_icmp_ne (tgt := 29) dX8_isA_17 (by decide) (by omega) (fun h_17 => ?_) (fun h_17 => ?_)
      · refine zx_iconst (v := zn_I 0) dX8_isA_29 rfl ?_
        refine zx_iret (st := []) dX8_isA_30 rfl rfl ?_
        first | exact zk_B (zn_Bt (by omega)) | exact zk_B (zn_Bf (by omega))
      · refine zx_iload_n dX8_isA_20 rfl ?_
        refine zx_iconst (v := zn_I 4) dX8_isA_21 rfl ?_
        refine zy_icmp_ne (tgt := 29) dX8_isA_22 (by decide) (by omega) (fun h_22 => ?_) (fun h_22 => ?_)
        · refine zx_iconst (v := zn_I 0) dX8_isA_29 rfl ?_
          refine zx_iret (st := []) dX8_isA_30 rfl rfl ?_
          first | exact zk_B (zn_Bt (by omega)) | exact zk_B (zn_Bf (by omega))
        · refine zx_iconst (v := zn_I 1) dX8_isA_25 rfl ?_
          refine zx_goto (tgt := 30) dX8_isA_26 (by decide) ?_
          refine zx_iret (st := []) dX8_isA_30 rfl rfl ?_
          first | exact zk_B (zn_Bt (by omega)) | exact zk_B (zn_Bf (by omega))
set_option maxRecDepth 100000 in
set_option maxHeartbeats 600000 in
theorem mX8_place {l : zw_Lh} {d : Nat} {M : zw_M} {n : Nat} {τ : zQ} (hT : zT M n τ) {z : Int} {q : Int} (hz : -2147483648 ≤ z ∧ z < 2147483648) (hq : -2147483648 ≤ q ∧ q < 2147483648) : zw_C l (d + 1) iX8_place [.ref 8, .int (zn_I z), .int (zn_I q)] M (zw_i (zn_I (zt_place τ z q)) M) := by
  obtain ⟨h8, hk, hK, hW, hP, hKr, hWr, hPr⟩ := id hT
  refine zw_of (by decide +kernel) (Nat.le_of_ble_eq_true rfl) ?_
  refine zy_loc (L1 := [.ref 8, .int (zn_I z), .int (zn_I q)]) rfl ?_
  refine zx_aload_n dX8_place_0 rfl ?_
  refine zx_iload_n dX8_place_1 rfl ?_
  refine zx_callV (y1 := iX8_has) dX8_place_2 lX8_35 vX8_has rc_8 (mX8_has hT hz) rfl rfl (Nat.le_of_ble_eq_true rfl) ?_
  refine zk_i ?_
  refine zy_ifB_eq (tgt := 29) dX8_place_5 (by decide) (fun h_5 => ?_) (fun h_5 => ?_)
  · refine zx_iconst (v := zn_I (-1)) dX8_place_29 rfl ?_
    refine zx_iret (st := []) dX8_place_30 rfl rfl ?_
    exact zk_I (by unfold zt_place; split <;> first | rfl | omega)
  · refine zx_iload_n dX8_place_8 rfl ?_
    refine zx_callN (y1 := iX10_isQuarter) (host := "IslandThatLeans") dX8_place_9 (by decide) sX10_isQuarter (mX10_isQuarter hq) rfl rfl (Nat.le_of_ble_eq_true rfl) ?_
    refine zk_i ?_
    refine zy_ifB_eq (tgt := 29) dX8_place_12 (by decide) (fun h_12 => ?_) (fun h_12 => ?_)
    · refine zx_iconst (v := zn_I (-1)) dX8_place_29 rfl ?_
      refine zx_iret (st := []) dX8_place_30 rfl rfl ?_
      exact zk_I (by unfold zt_place; split <;> first | rfl | omega)
    · refine zx_aload_n dX8_place_15 rfl ?_
      refine zx_getr dX8_place_16 fX8_18 ?_
      refine zx_iload_n dX8_place_19 rfl ?_
      refine zx_bipush (v := zn_I 8) dX8_place_20 (by decide) ?_
      refine zy_imul dX8_place_22 ?_
      refine zx_iload_n dX8_place_23 rfl ?_
      refine zy_iadd dX8_place_24 ?_
      refine zy_iald (i := z.toNat * 8 + q.toNat) dX8_place_25 rfl (by decide) (by omega) (by omega) ((hP z.toNat (by omega) q.toNat (by omega))) ?_
      refine zx_goto (tgt := 30) dX8_place_26 (by decide) ?_
      refine zx_iret (st := []) dX8_place_30 rfl rfl ?_
      exact zk_I (by unfold zt_place; split <;> first | rfl | omega)
set_option maxRecDepth 100000 in
set_option maxHeartbeats 600000 in
theorem mX8_peopleBits {l : zw_Lh} {d : Nat} {M : zw_M} {n : Nat} {τ : zQ} (hT : zT M n τ) : zw_C l (d + 3) iX8_peopleBits [.ref 8] M (zw_i (zn_I (zt_pb τ τ.1 : Nat)) M) := by
  obtain ⟨h8, hk, hK, hW, hP, hKr, hWr, hPr⟩ := id hT
  refine zw_of (by decide +kernel) (Nat.le_of_ble_eq_true rfl) ?_
  refine zy_loc (L1 := [.ref 8, .retAddr 0, .retAddr 0]) rfl ?_
  have loop : ∀ s, s ≤ τ.1 → zw_X l (d + 3) iX8_peopleBits (zw_i (zn_I (zt_pb τ τ.1 : Nat)) M) 4 [.ref 8, .int (zn_I (zt_pb τ s : Nat)), .int (zn_I (s : Nat))] [] M := by
    refine zw_loop τ.1 (P := fun s => zw_X l (d + 3) iX8_peopleBits (zw_i (zn_I (zt_pb τ τ.1 : Nat)) M) 4 [.ref 8, .int (zn_I (zt_pb τ s : Nat)), .int (zn_I (s : Nat))] [] M) (fun s hs ih => ?_)
    refine zx_iload_n dX8_peopleBits_4 rfl ?_
    refine zx_aload_n dX8_peopleBits_5 rfl ?_
    refine zy_geti dX8_peopleBits_6 fX8_28 (hk) ?_
    refine zy_icmp_ge (tgt := 33) dX8_peopleBits_9 (by decide) (by omega) (fun h_9 => ?_) (fun h_9 => ?_)
    · refine zx_iload_n dX8_peopleBits_33 rfl ?_
      refine zx_iret (st := []) dX8_peopleBits_34 rfl rfl ?_
      exact zk_I (by rw [show s = τ.1 by omega])
    · refine zx_aload_n dX8_peopleBits_12 rfl ?_
      refine zx_iload_n dX8_peopleBits_13 rfl ?_
      refine zx_iconst (v := zn_I 3) dX8_peopleBits_14 rfl ?_
      refine zx_callV (y1 := iX8_isA) dX8_peopleBits_15 lX8_52 vX8_isA rc_8 (mX8_isA hT (z := (s : Int)) (a := 3) ⟨by omega, by omega⟩ ⟨by omega, by omega⟩) rfl rfl (Nat.le_of_ble_eq_true rfl) ?_
      refine zk_i ?_
      refine zy_ifB_eq (tgt := 27) dX8_peopleBits_18 (by decide) (fun h_18 => ?_) (fun h_18 => ?_)
      · refine zy_iinc dX8_peopleBits_27 rfl rfl ?_
        refine zx_goto (tgt := 4) dX8_peopleBits_30 (by decide) ?_
        first
          | exact ih (by omega)
          | (rw [zt_isA, zt_kind_in (show s < τ.1 by omega)] at h_18; rw [show zt_pb τ s = zt_pb τ (s + 1) by rw [zt_pb, if_neg (by omega), Nat.add_zero]]; exact ih (by omega))
      · rw [zt_isA, zt_kind_in (show s < τ.1 by omega)] at h_18
        refine zx_iload_n dX8_peopleBits_21 rfl ?_
        refine zx_iconst (v := zn_I 1) dX8_peopleBits_22 rfl ?_
        refine zx_iload_n dX8_peopleBits_23 rfl ?_
        refine zx_ishl dX8_peopleBits_24 ?_
        refine zx_ior dX8_peopleBits_25 ?_
        refine zy_top (zb_or (by omega) (zt_pb_lt τ s)) ?_
        rw [show zt_pb τ s + 2 ^ s = zt_pb τ (s + 1) by rw [zt_pb, if_pos (by omega)]]
        refine zx_istore_n dX8_peopleBits_26 rfl (Nat.le_of_ble_eq_true rfl) ?_
        refine zy_iinc dX8_peopleBits_27 rfl rfl ?_
        refine zx_goto (tgt := 4) dX8_peopleBits_30 (by decide) ?_
        first
          | exact ih (by omega)
          | (rw [zt_isA, zt_kind_in (show s < τ.1 by omega)] at h_18; rw [show zt_pb τ s = zt_pb τ (s + 1) by rw [zt_pb, if_neg (by omega), Nat.add_zero]]; exact ih (by omega))
  refine zx_iconst (v := zn_I 0) dX8_peopleBits_0 rfl ?_
  refine zx_istore_n dX8_peopleBits_1 rfl (Nat.le_of_ble_eq_true rfl) ?_
  refine zx_iconst (v := zn_I 0) dX8_peopleBits_2 rfl ?_
  refine zx_istore_n dX8_peopleBits_3 rfl (Nat.le_of_ble_eq_true rfl) ?_
  exact loop 0 (by omega)

set_option maxRecDepth 100000 in
set_option maxHeartbeats 600000 in
theorem mX8_clear {l : zw_Lh} {d : Nat} {M : zw_M}  : zw_C l d iX8_clear [.ref 8] M (zw_u (zw_s (zw_s M 8 4 (zn_I 0)) 8 5 (zn_I (-1)))) := by
  refine zw_of (by decide +kernel) (Nat.le_of_ble_eq_true rfl) ?_
  refine zy_loc (L1 := [.ref 8]) rfl ?_
  refine zx_aload_n dX8_clear_0 rfl ?_
  refine zx_iconst (v := zn_I 0) dX8_clear_1 rfl ?_
  refine zx_puti dX8_clear_2 fX8_28 ?_
  refine zx_aload_n dX8_clear_5 rfl ?_
  refine zx_iconst (v := zn_I (-1)) dX8_clear_6 rfl ?_
  refine zx_puti dX8_clear_7 fX8_24 ?_
  refine zx_vret (st := []) dX8_clear_10 rfl ?_
  exact ⟨rfl, rfl⟩
set_option maxRecDepth 100000 in
set_option maxHeartbeats 600000 in
theorem mX8_move {l : zw_Lh} {d : Nat} {M : zw_M} {n : Nat} {τ : zQ} (hT : zT M n τ) {t q : Nat} (ht : t < τ.1) (hq : q < 8) {x : Int32} : zw_C l (d + 1) iX8_move [.ref 8, .int (zn_I (t : Int)), .int (zn_I (q : Int)), .int x] M (zw_u (zw_s M 11 (t * 8 + q) x)) := by
  obtain ⟨h8, hk, hK, hW, hP, hKr, hWr, hPr⟩ := id hT
  refine zw_of (by decide +kernel) (Nat.le_of_ble_eq_true rfl) ?_
  refine zy_loc (L1 := [.ref 8, .int (zn_I (t : Int)), .int (zn_I (q : Int)), .int x]) rfl ?_
  refine zx_aload_n dX8_move_0 rfl ?_
  refine zx_iload_n dX8_move_1 rfl ?_
  refine zx_callV (y1 := iX8_has) dX8_move_2 lX8_35 vX8_has rc_8 (mX8_has hT ⟨by omega, by omega⟩) rfl rfl (Nat.le_of_ble_eq_true rfl) ?_
  refine zk_i ?_
  refine zy_ifB_eq (tgt := 27) dX8_move_5 (by decide) (fun h_5 => ?_) (fun h_5 => ?_)
  · exact absurd ⟨by omega, by omega⟩ h_5
  · refine zx_iload_n dX8_move_8 rfl ?_
    refine zx_callN (y1 := iX10_isQuarter) (host := "IslandThatLeans") dX8_move_9 (by decide) sX10_isQuarter (mX10_isQuarter ⟨by omega, by omega⟩) rfl rfl (Nat.le_of_ble_eq_true rfl) ?_
    refine zk_i ?_
    refine zy_ifB_eq (tgt := 27) dX8_move_12 (by decide) (fun h_12 => ?_) (fun h_12 => ?_)
    · exact absurd ⟨by omega, by omega⟩ h_12
    · refine zx_aload_n dX8_move_15 rfl ?_
      refine zx_getr dX8_move_16 fX8_18 ?_
      refine zx_iload_n dX8_move_19 rfl ?_
      refine zx_bipush (v := zn_I 8) dX8_move_20 (by decide) ?_
      refine zy_imul dX8_move_22 ?_
      refine zx_iload_n dX8_move_23 rfl ?_
      refine zy_iadd dX8_move_24 ?_
      refine zx_iload_n dX8_move_25 rfl ?_
      refine zy_iast (i := t * 8 + q) dX8_move_26 rfl (by decide) (by omega) (by omega) ?_
      refine zx_vret (st := []) dX8_move_27 rfl ?_
      exact ⟨rfl, rfl⟩
end
section
/-! how many bits are set -/
def zb_pop : Nat → Nat → Nat
  | 0, _ => 0
  | k + 1, x => x % 2 + zb_pop k (x / 2)
theorem zb_pop_0 : ∀ k, zb_pop k 0 = 0
  | 0 => rfl
  | k + 1 => by rw [zb_pop, Nat.zero_mod, Nat.zero_div, zb_pop_0 k]
theorem zb_pop_add : ∀ j k x, zb_pop (j + k) x = zb_pop j x + zb_pop k (x / 2 ^ j)
  | 0, k, x => by simp [zb_pop]
  | j + 1, k, x => by
    rw [show j + 1 + k = (j + k) + 1 by omega, zb_pop, zb_pop, zb_pop_add j k (x / 2), Nat.div_div_eq_div_mul, Nat.pow_succ, Nat.mul_comm 2 (2 ^ j)]
    omega
theorem zb_pop_succ (j x : Nat) : zb_pop (j + 1) x = zb_pop j x + x / 2 ^ j % 2 := by
  rw [zb_pop_add j 1 x]
  simp [zb_pop]
theorem zb_pop_more {k x : Nat} (j : Nat) (h : x < 2 ^ k) : zb_pop (k + j) x = zb_pop k x := by
  rw [zb_pop_add, Nat.div_eq_of_lt h, zb_pop_0, Nat.add_zero]
theorem zb_pop_put : ∀ (s k B : Nat), B < 2 ^ s → s < k → zb_pop k (B + 2 ^ s) = zb_pop k B + 1
  | 0, 0, B, _, h => absurd h (Nat.lt_irrefl 0)
  | 0, k + 1, B, hB, _ => by
    have : B = 0 := by simpa using hB
    subst this
    simp [zb_pop, zb_pop_0]
  | s + 1, 0, B, _, h => absurd h (Nat.not_lt_zero _)
  | s + 1, k + 1, B, hB, h => by
    rw [Nat.pow_succ] at hB ⊢
    have ih := zb_pop_put s k (B / 2) (by omega) (by omega)
    rw [zb_pop, zb_pop, show (B + 2 ^ s * 2) / 2 = B / 2 + 2 ^ s by omega, ih, show (B + 2 ^ s * 2) % 2 = B % 2 by omega]
    omega
theorem zb_pop_le : ∀ k x, zb_pop k x ≤ k
  | 0, _ => Nat.le_refl 0
  | k + 1, x => by
    have := zb_pop_le k (x / 2)
    rw [zb_pop]
    omega
theorem zb_asplit {h l g m k : Nat} (hl : l < 2 ^ k) (hm : m < 2 ^ k) : (2 ^ k * h + l) &&& (2 ^ k * g + m) = 2 ^ k * (h &&& g) + (l &&& m) := by
  have hlm : l &&& m < 2 ^ k := Nat.lt_of_le_of_lt Nat.and_le_left hl
  apply Nat.eq_of_testBit_eq
  intro i
  rw [Nat.testBit_and, Nat.testBit_two_pow_mul_add h hl, Nat.testBit_two_pow_mul_add g hm, Nat.testBit_two_pow_mul_add _ hlm]
  by_cases hi : i < k
  · simp [hi]
  · simp [hi]
def zb_d1 (m x : Nat) : Nat := x - (x / 2 &&& m)
def zb_d2 (m x : Nat) : Nat := (x &&& m) + (x / 4 &&& m)
def zb_d3 (m x : Nat) : Nat := (x + x / 16) &&& m
theorem zb_s1 {h l g : Nat} (hl : l < 256) : zb_d1 (256 * g + 85) (256 * h + l) = 256 * zb_d1 g h + zb_d1 85 l := by
  have e1 : (256 * h + l) / 2 = 2 ^ 8 * (h / 2) + (2 ^ 7 * (h % 2) + l / 2) := by omega
  have e2 : (2 ^ 7 * (h % 2) + l / 2) &&& (2 ^ 7 * 0 + 85) = 2 ^ 7 * (h % 2 &&& 0) + (l / 2 &&& 85) := zb_asplit (by omega) (by decide)
  have e3 := zb_asplit (h := h / 2) (l := 2 ^ 7 * (h % 2) + l / 2) (g := g) (m := 85) (k := 8) (by omega) (by decide)
  have a1 : h / 2 &&& g ≤ h / 2 := Nat.and_le_left
  have a2 : l / 2 &&& 85 ≤ l / 2 := Nat.and_le_left
  simp only [Nat.and_zero, Nat.mul_zero, Nat.zero_add] at e2
  unfold zb_d1
  rw [e1, show 256 * g + 85 = 2 ^ 8 * g + 85 from rfl, e3, e2]
  omega
theorem zb_s2 {h l g : Nat} (hl : l < 256) : zb_d2 (256 * g + 51) (256 * h + l) = 256 * zb_d2 g h + zb_d2 51 l := by
  have e0 := zb_asplit (h := h) (l := l) (g := g) (m := 51) (k := 8) hl (by decide)
  have e1 : (256 * h + l) / 4 = 2 ^ 8 * (h / 4) + (2 ^ 6 * (h % 4) + l / 4) := by omega
  have e2 : (2 ^ 6 * (h % 4) + l / 4) &&& (2 ^ 6 * 0 + 51) = 2 ^ 6 * (h % 4 &&& 0) + (l / 4 &&& 51) := zb_asplit (by omega) (by decide)
  have e3 := zb_asplit (h := h / 4) (l := 2 ^ 6 * (h % 4) + l / 4) (g := g) (m := 51) (k := 8) (by omega) (by decide)
  simp only [Nat.and_zero, Nat.mul_zero, Nat.zero_add] at e2
  unfold zb_d2
  rw [e1, show 256 * g + 51 = 2 ^ 8 * g + 51 from rfl, e3, e2, show 256 * h + l = 2 ^ 8 * h + l from rfl, e0]
  omega
theorem zb_a15 (x : Nat) : x &&& 15 = x % 16 := Nat.and_two_pow_sub_one_eq_mod x 4
theorem zb_s3 {h l g : Nat} (hl : l ≤ 68) (hh : h % 16 ≤ 4) : zb_d3 (256 * g + 15) (256 * h + l) = 256 * zb_d3 g h + zb_d3 15 l := by
  have e1 : 256 * h + l + (256 * h + l) / 16 = 2 ^ 8 * (h + h / 16) + (16 * (h % 16) + (l + l / 16)) := by omega
  have e3 := zb_asplit (h := h + h / 16) (l := 16 * (h % 16) + (l + l / 16)) (g := g) (m := 15) (k := 8) (by omega) (by decide)
  unfold zb_d3
  rw [e1, show 256 * g + 15 = 2 ^ 8 * g + 15 from rfl, e3, zb_a15, zb_a15]
  omega
theorem zb_byte : ∀ b, b < 256 → zb_d3 15 (zb_d2 51 (zb_d1 85 b)) = zb_pop 8 b ∧ zb_d2 51 (zb_d1 85 b) ≤ 68 ∧ zb_d2 51 (zb_d1 85 b) % 16 ≤ 4 ∧ zb_d1 85 b < 256 := by decide +kernel
theorem zb_pop8 {h l : Nat} (hl : l < 256) (k : Nat) : zb_pop (8 + k) (256 * h + l) = zb_pop 8 l + zb_pop k h := by
  rw [zb_pop_add, show (256 * h + l) / 2 ^ 8 = h by omega]
  congr 1
  simp only [zb_pop]
  omega
def zb_c (x : Nat) : Nat :=
  let a := zb_d3 252645135 (zb_d2 858993459 (zb_d1 1431655765 x))
  let b := a + a / 256
  (b + b / 65536) &&& 63
theorem zb_c_pop {x : Nat} (hx : x < 2 ^ 32) : zb_c x = zb_pop 32 x := by
  obtain ⟨b0, b1, b2, b3, h0, h1, h2, h3, rfl⟩ : ∃ b0 b1 b2 b3 : Nat, b0 < 256 ∧ b1 < 256 ∧ b2 < 256 ∧ b3 < 256 ∧ x = 256 * (256 * (256 * b3 + b2) + b1) + b0 :=
    ⟨x % 256, x / 256 % 256, x / 65536 % 256, x / 16777216, by omega, by omega, by omega, by omega, by omega⟩
  obtain ⟨p0, q0, r0, t0⟩ := zb_byte b0 h0
  obtain ⟨p1, q1, r1, t1⟩ := zb_byte b1 h1
  obtain ⟨p2, q2, r2, t2⟩ := zb_byte b2 h2
  obtain ⟨p3, q3, r3, t3⟩ := zb_byte b3 h3
  have hp : zb_pop 32 (256 * (256 * (256 * b3 + b2) + b1) + b0) = zb_pop 8 b0 + (zb_pop 8 b1 + (zb_pop 8 b2 + zb_pop 8 b3)) := by
    rw [show (32 : Nat) = 8 + 24 from rfl, zb_pop8 h0, show (24 : Nat) = 8 + 16 from rfl, zb_pop8 h1, show (16 : Nat) = 8 + 8 from rfl, zb_pop8 h2]
  have s1 : zb_d1 1431655765 (256 * (256 * (256 * b3 + b2) + b1) + b0) = 256 * (256 * (256 * zb_d1 85 b3 + zb_d1 85 b2) + zb_d1 85 b1) + zb_d1 85 b0 := by
    rw [show (1431655765 : Nat) = 256 * (256 * (256 * 85 + 85) + 85) + 85 from rfl, zb_s1 h0, zb_s1 h1, zb_s1 h2]
  have s2 : zb_d2 858993459 (256 * (256 * (256 * zb_d1 85 b3 + zb_d1 85 b2) + zb_d1 85 b1) + zb_d1 85 b0) = 256 * (256 * (256 * zb_d2 51 (zb_d1 85 b3) + zb_d2 51 (zb_d1 85 b2)) + zb_d2 51 (zb_d1 85 b1)) + zb_d2 51 (zb_d1 85 b0) := by
    rw [show (858993459 : Nat) = 256 * (256 * (256 * 51 + 51) + 51) + 51 from rfl, zb_s2 t0, zb_s2 t1, zb_s2 t2]
  have s3 : zb_d3 252645135 (256 * (256 * (256 * zb_d2 51 (zb_d1 85 b3) + zb_d2 51 (zb_d1 85 b2)) + zb_d2 51 (zb_d1 85 b1)) + zb_d2 51 (zb_d1 85 b0)) = 256 * (256 * (256 * zb_pop 8 b3 + zb_pop 8 b2) + zb_pop 8 b1) + zb_pop 8 b0 := by
    rw [show (252645135 : Nat) = 256 * (256 * (256 * 15 + 15) + 15) + 15 from rfl, zb_s3 q0 (by omega), zb_s3 q1 (by omega), zb_s3 q2 r3, p0, p1, p2, p3]
  have l0 := zb_pop_le 8 b0
  have l1 := zb_pop_le 8 b1
  have l2 := zb_pop_le 8 b2
  have l3 := zb_pop_le 8 b3
  unfold zb_c
  rw [s1, s2, s3, hp]
  generalize zb_pop 8 b0 = u0 at *
  generalize zb_pop 8 b1 = u1 at *
  generalize zb_pop 8 b2 = u2 at *
  generalize zb_pop 8 b3 = u3 at *
  show (_ + _ / 65536) &&& (2 ^ 6 - 1) = _
  rw [Nat.and_two_pow_sub_one_eq_mod]
  clear s1 s2 s3 hp p0 p1 p2 p3 q0 q1 q2 q3 r0 r1 r2 r3 t0 t1 t2 t3 hx
  have e1 : (256 * (256 * (256 * u3 + u2) + u1) + u0) / 256 = 256 * (256 * u3 + u2) + u1 := by omega
  rw [e1]
  have e2 : (256 * (256 * (256 * u3 + u2) + u1) + u0 + (256 * (256 * u3 + u2) + u1)) / 65536 = 256 * u3 + (u2 + u3) := by omega
  rw [e2, show (2 : Nat) ^ 6 = 64 from rfl]
  omega
theorem zb_and (a b : Nat) : zn_I (a : Int) &&& zn_I (b : Int) = zn_I ((a &&& b : Nat) : Int) := by
  rw [← zn_nat, ← zn_nat, ← zn_nat]
  apply Int32.toBitVec_inj.1
  show BitVec.ofNat 32 a &&& BitVec.ofNat 32 b = BitVec.ofNat 32 (a &&& b)
  apply BitVec.eq_of_getLsbD_eq
  intro i hi
  simp [hi]
theorem zb_ushr {n p : Nat} (hn : n < 2 ^ 32) (s : Int32) (k : Nat) (hs : ((s.toUInt32 &&& Int32.toUInt32 31).toBitVec % 32).toNat = k) (hp : 2 ^ k = p) : ((zn_I (n : Int)).toUInt32 >>> (s.toUInt32 &&& Int32.toUInt32 31)).toInt32 = zn_I ((n / p : Nat) : Int) := by
  subst hp
  rw [← zn_nat, ← zn_nat]
  exact pk_ushrN hn s k hs
theorem zb_d1_lt {m x : Nat} : zb_d1 m x ≤ x := Nat.sub_le _ _
theorem zb_d2_lt {m x : Nat} : zb_d2 m x ≤ x + x / 4 := by
  have a1 : x &&& m ≤ x := Nat.and_le_left
  have a2 : x / 4 &&& m ≤ x / 4 := Nat.and_le_left
  unfold zb_d2
  omega
theorem zb_d3_lt {m x : Nat} : zb_d3 m x ≤ x + x / 16 := Nat.and_le_left
set_option maxRecDepth 100000 in
set_option maxHeartbeats 600000 in
theorem mJ6_bitCount {l : zw_Lh} {d : Nat} {M : zw_M} {x : Nat} (hx : x < 1073741824) : zw_C l d iJ6_bitCount_0f7a4 [.int (zn_I (x : Int))] M (zw_i (zn_I (zb_pop 32 x : Nat)) M) := by
  refine zw_of (by decide +kernel) (Nat.le_of_ble_eq_true rfl) ?_
  refine zy_loc (L1 := [.int (zn_I (x : Int))]) rfl ?_
  refine zx_iload_n dJ6_bitCount_0f7a4_0 rfl ?_
  refine zx_iload_n dJ6_bitCount_0f7a4_1 rfl ?_
  refine zx_iconst (v := zn_I 1) dJ6_bitCount_0f7a4_2 rfl ?_
  refine zx_iushr dJ6_bitCount_0f7a4_3 ?_
  refine zy_top (zb_ushr (k := 1) (p := 2) (by omega) _ (by decide) rfl) ?_
  refine zx_ldcw dJ6_bitCount_0f7a4_4 kJ6_265 ?_
  refine zy_top (show (1431655765 : Int32) = zn_I ((1431655765 : Nat) : Int) from by decide) ?_
  refine zx_iand dJ6_bitCount_0f7a4_7 ?_
  refine zy_top (zb_and _ _) ?_
  refine zy_isub dJ6_bitCount_0f7a4_8 ?_
  refine zy_top (show _ = zn_I ((zb_d1 1431655765 x : Nat) : Int) from congrArg zn_I (by have := @Nat.and_le_left (x / 2) 1431655765; unfold zb_d1; omega)) ?_
  refine zx_istore_n dJ6_bitCount_0f7a4_9 rfl (Nat.le_of_ble_eq_true rfl) ?_
  refine zx_iload_n dJ6_bitCount_0f7a4_10 rfl ?_
  refine zx_ldcw dJ6_bitCount_0f7a4_11 kJ6_266 ?_
  refine zy_top (show (858993459 : Int32) = zn_I ((858993459 : Nat) : Int) from by decide) ?_
  refine zx_iand dJ6_bitCount_0f7a4_14 ?_
  refine zy_top (zb_and _ _) ?_
  refine zx_iload_n dJ6_bitCount_0f7a4_15 rfl ?_
  refine zx_iconst (v := zn_I 2) dJ6_bitCount_0f7a4_16 rfl ?_
  refine zx_iushr dJ6_bitCount_0f7a4_17 ?_
  refine zy_top (zb_ushr (k := 2) (p := 4) (by have := @zb_d1_lt 1431655765 x; omega) _ (by decide) rfl) ?_
  refine zx_ldcw dJ6_bitCount_0f7a4_18 kJ6_266 ?_
  refine zy_top (show (858993459 : Int32) = zn_I ((858993459 : Nat) : Int) from by decide) ?_
  refine zx_iand dJ6_bitCount_0f7a4_21 ?_
  refine zy_top (zb_and _ _) ?_
  refine zy_iadd dJ6_bitCount_0f7a4_22 ?_
  refine zy_top (show _ = zn_I ((zb_d2 858993459 (zb_d1 1431655765 x) : Nat) : Int) from congrArg zn_I (by unfold zb_d2; omega)) ?_
  refine zx_istore_n dJ6_bitCount_0f7a4_23 rfl (Nat.le_of_ble_eq_true rfl) ?_
  refine zx_iload_n dJ6_bitCount_0f7a4_24 rfl ?_
  refine zx_iload_n dJ6_bitCount_0f7a4_25 rfl ?_
  refine zx_iconst (v := zn_I 4) dJ6_bitCount_0f7a4_26 rfl ?_
  refine zx_iushr dJ6_bitCount_0f7a4_27 ?_
  refine zy_top (zb_ushr (k := 4) (p := 16) (by have := @zb_d1_lt 1431655765 x; have := @zb_d2_lt 858993459 (zb_d1 1431655765 x); omega) _ (by decide) rfl) ?_
  refine zy_iadd dJ6_bitCount_0f7a4_28 ?_
  refine zy_top (show _ = zn_I ((zb_d2 858993459 (zb_d1 1431655765 x) + zb_d2 858993459 (zb_d1 1431655765 x) / 16 : Nat) : Int) from congrArg zn_I (by omega)) ?_
  refine zx_ldcw dJ6_bitCount_0f7a4_29 kJ6_267 ?_
  refine zy_top (show (252645135 : Int32) = zn_I ((252645135 : Nat) : Int) from by decide) ?_
  refine zx_iand dJ6_bitCount_0f7a4_32 ?_
  refine zy_top (zb_and _ _) ?_
  refine zx_istore_n dJ6_bitCount_0f7a4_33 rfl (Nat.le_of_ble_eq_true rfl) ?_
  refine zx_iload_n dJ6_bitCount_0f7a4_34 rfl ?_
  refine zx_iload_n dJ6_bitCount_0f7a4_35 rfl ?_
  refine zx_bipush (v := zn_I 8) dJ6_bitCount_0f7a4_36 (by decide) ?_
  refine zx_iushr dJ6_bitCount_0f7a4_38 ?_
  refine zy_top (zb_ushr (k := 8) (p := 256) (by have := @zb_d1_lt 1431655765 x; have := @zb_d2_lt 858993459 (zb_d1 1431655765 x); have := @zb_d3_lt 252645135 (zb_d2 858993459 (zb_d1 1431655765 x)); unfold zb_d3 at this; omega) _ (by decide) rfl) ?_
  refine zy_iadd dJ6_bitCount_0f7a4_39 ?_
  refine zy_top (show _ = zn_I ((zb_d3 252645135 (zb_d2 858993459 (zb_d1 1431655765 x)) + zb_d3 252645135 (zb_d2 858993459 (zb_d1 1431655765 x)) / 256 : Nat) : Int) from congrArg zn_I (by unfold zb_d3; omega)) ?_
  refine zx_istore_n dJ6_bitCount_0f7a4_40 rfl (Nat.le_of_ble_eq_true rfl) ?_
  refine zx_iload_n dJ6_bitCount_0f7a4_41 rfl ?_
  refine zx_iload_n dJ6_bitCount_0f7a4_42 rfl ?_
  refine zx_bipush (v := zn_I 16) dJ6_bitCount_0f7a4_43 (by decide) ?_
  refine zx_iushr dJ6_bitCount_0f7a4_45 ?_
  refine zy_top (zb_ushr (k := 16) (p := 65536) (by have := @zb_d1_lt 1431655765 x; have := @zb_d2_lt 858993459 (zb_d1 1431655765 x); have := @zb_d3_lt 252645135 (zb_d2 858993459 (zb_d1 1431655765 x)); omega) _ (by decide) rfl) ?_
  refine zy_iadd dJ6_bitCount_0f7a4_46 ?_
  refine zy_top (b := zn_I ((((zb_d3 252645135 (zb_d2 858993459 (zb_d1 1431655765 x)) + zb_d3 252645135 (zb_d2 858993459 (zb_d1 1431655765 x)) / 256) + (zb_d3 252645135 (zb_d2 858993459 (zb_d1 1431655765 x)) + zb_d3 252645135 (zb_d2 858993459 (zb_d1 1431655765 x)) / 256) / 65536) : Nat) : Int)) (congrArg zn_I (by omega)) ?_
  refine zx_istore_n dJ6_bitCount_0f7a4_47 rfl (Nat.le_of_ble_eq_true rfl) ?_
  refine zx_iload_n dJ6_bitCount_0f7a4_48 rfl ?_
  refine zx_bipush (v := zn_I 63) dJ6_bitCount_0f7a4_49 (by decide) ?_
  refine zy_top (show zn_I 63 = zn_I ((63 : Nat) : Int) from rfl) ?_
  refine zx_iand dJ6_bitCount_0f7a4_51 ?_
  refine zy_top (zb_and _ _) ?_
  refine zx_iret (st := []) dJ6_bitCount_0f7a4_52 rfl rfl ?_
  exact ⟨by rw [← zb_c_pop (x := x) (by omega)]; rfl, rfl⟩
theorem zp_bits_30 {π : zP} (h : π.1 ≤ 5 ∧ π.2.1 ≤ 6) (a b : Int) : zp_bits π a b (zp_n π) < 1073741824 := by
  have h1 := zp_bits_lt π a b (zp_n π)
  have h2 : 2 ^ zp_n π ≤ 2 ^ 30 := Nat.pow_le_pow_right (by decide) (zp_30 h)
  omega
/-- how many doors are wet -/
def zp_wc (π : zP) (a b : Int) : Nat := zb_pop 32 (zp_bits π a b (zp_n π))
theorem zp_wc_le (π : zP) (a b : Int) : zp_wc π a b ≤ 32 := zb_pop_le _ _

theorem zt_pb_8 {M : zw_M} {n : Nat} {τ : zQ} (hT : zT M n τ) : zt_pb τ τ.1 < 256 := by
  have h1 := zt_pb_lt τ τ.1
  have h2 : 2 ^ τ.1 ≤ 2 ^ 8 := Nat.pow_le_pow_right (by decide) hT.1
  omega
set_option maxRecDepth 100000 in
set_option maxHeartbeats 600000 in
theorem mX8_people {l : zw_Lh} {d : Nat} {M : zw_M} {n : Nat} {τ : zQ} (hT : zT M n τ) : zw_C l (d + 4) iX8_people [.ref 8] M (zw_i (zn_I (zb_pop 32 (zt_pb τ τ.1) : Nat)) M) := by
  have h30 := zt_pb_8 hT
  refine zw_of (by decide +kernel) (Nat.le_of_ble_eq_true rfl) ?_
  refine zy_loc (L1 := [.ref 8]) rfl ?_
  refine zx_aload_n dX8_people_0 rfl ?_
  refine zx_callV (y1 := iX8_peopleBits) dX8_people_1 lX8_43 vX8_peopleBits rc_8 (mX8_peopleBits hT) rfl rfl (Nat.le_of_ble_eq_true rfl) ?_
  refine zk_i ?_
  refine zx_callS (y1 := iJ6_bitCount_0f7a4) dX8_people_4 lX8_47 sJ6_bitCount_0f7a4 (mJ6_bitCount (by omega)) rfl rfl (Nat.le_of_ble_eq_true rfl) ?_
  refine zk_i ?_
  refine zx_iret (st := []) dX8_people_7 rfl rfl ?_
  exact ⟨rfl, rfl⟩
end
section
/-! WHAT STAYS: memories that agree but at some cells -/
def zw_fr (S : List Nat) (M M' : zw_M) : Prop := ∀ p, p ∉ S → M'.1 p = M.1 p ∧ M'.2 p = M.2 p
theorem zf_rf {S : List Nat} {M : zw_M} : zw_fr S M M := fun _ _ => ⟨rfl, rfl⟩
theorem zf_tr {S : List Nat} {M M1 M2 : zw_M} (h : zw_fr S M M1) (h2 : zw_fr S M1 M2) : zw_fr S M M2 := fun p hp => ⟨(h2 p hp).1.trans (h p hp).1, (h2 p hp).2.trans (h p hp).2⟩
theorem zf_mono {S S1 : List Nat} {M M1 : zw_M} (h : zw_fr S M M1) (hs : ∀ p ∈ S, p ∈ S1) : zw_fr S1 M M1 := fun p hp => h p (fun q => hp (hs p q))
theorem zf_s {S : List Nat} {M M1 : zw_M} {q k : Nat} {x : Int32} (h : zw_fr S M M1) (hq : q ∈ S) : zw_fr S M (zw_s M1 q k x) := fun p hp => by
  have hne : p ≠ q := fun e => hp (e ▸ hq)
  refine ⟨Eq.trans ?_ (h p hp).1, (h p hp).2⟩
  funext j
  simp [zw_s, hne]
theorem zf_sl {S : List Nat} {M M1 : zw_M} {q k : Nat} {x : Int64} (h : zw_fr S M M1) (hq : q ∈ S) : zw_fr S M (zw_sl M1 q k x) := fun p hp => by
  have hne : p ≠ q := fun e => hp (e ▸ hq)
  refine ⟨(h p hp).1, Eq.trans ?_ (h p hp).2⟩
  funext j
  simp [zw_sl, hne]
theorem zf_sr {S : List Nat} {M M1 : zw_M} {q : Nat} {f : Nat → Int32} (h : zw_fr S M M1) (hq : q ∈ S) : zw_fr S M (zw_sr M1 q f) := fun p hp => by
  have hne : p ≠ q := fun e => hp (e ▸ hq)
  refine ⟨Eq.trans ?_ (h p hp).1, (h p hp).2⟩
  simp [zw_sr, hne]
theorem zI_f {S : List Nat} {M M1 : zw_M} {π : zP} (h : zw_fr S M M1) (hI : zI M π) (hS : ∀ p ∈ [4, 5, 6, 7], p ∉ S) : zI M1 π := by
  have h4 := (h 4 (hS 4 (by decide))).1
  have h5 := (h 5 (hS 5 (by decide))).1
  have h6 := (h 6 (hS 6 (by decide))).1
  have h7 := (h 7 (hS 7 (by decide))).1
  unfold zI at hI ⊢
  rw [h4, h5, h6, h7]
  exact hI
theorem zT_f {S : List Nat} {M M1 : zw_M} {n : Nat} {τ : zQ} (h : zw_fr S M M1) (hT : zT M n τ) (hS : ∀ p ∈ [8, 9, 10, 11], p ∉ S) : zT M1 n τ := by
  have h4 := (h 8 (hS 8 (by decide))).1
  have h5 := (h 9 (hS 9 (by decide))).1
  have h6 := (h 10 (hS 10 (by decide))).1
  have h7 := (h 11 (hS 11 (by decide))).1
  unfold zT at hT ⊢
  rw [h4, h5, h6, h7]
  exact hT
/-! contracts at squares and things that there are -/
section ZIN
variable {l : zw_Lh} {d : Nat} {M : zw_M} {π : zP} {n : Nat} {τ : zQ}
theorem mX1_east_in (hI : zI M π) {s : Nat} (hs : s < zp_n π) : zw_C l (d + 1) iX1_east [.ref 4, .int (zn_I (s : Int))] M (zw_i (zn_I (zp_e π s)) M) := by
  have h30 := zp_30 hI.1
  have := mX1_east (l := l) (d := d) hI (z := (s : Int)) ⟨by omega, by omega⟩
  rwa [zp_at_in hs] at this
theorem mX1_south_in (hI : zI M π) {s : Nat} (hs : s < zp_n π) : zw_C l (d + 1) iX1_south [.ref 4, .int (zn_I (s : Int))] M (zw_i (zn_I (zp_s π s)) M) := by
  have h30 := zp_30 hI.1
  have := mX1_south (l := l) (d := d) hI (z := (s : Int)) ⟨by omega, by omega⟩
  rwa [zp_at_in hs] at this
theorem mX8_weighs_in (hT : zT M n τ) {t : Nat} (ht : t < τ.1) : zw_C l (d + 1) iX8_weighs [.ref 8, .int (zn_I (t : Int))] M (zw_i (zn_I (zt_w τ t)) M) := by
  have h8 := hT.1
  have := mX8_weighs (l := l) (d := d) hT (z := (t : Int)) ⟨by omega, by omega⟩
  rwa [zt_weighs_in ht] at this
theorem mX8_place_in (hT : zT M n τ) {t q : Nat} (ht : t < τ.1) (hq : q < 8) : zw_C l (d + 1) iX8_place [.ref 8, .int (zn_I (t : Int)), .int (zn_I (q : Int))] M (zw_i (zn_I (τ.2.2.2 t q : Nat)) M) := by
  have h8 := hT.1
  have := mX8_place (l := l) (d := d) hT (z := (t : Int)) (q := (q : Int)) ⟨by omega, by omega⟩ ⟨by omega, by omega⟩
  rwa [zt_place_in ht hq] at this
end ZIN
/-! THE DAY -/
/-- how far it leans by the first things -/
def zl_e (π : zP) (τ : zQ) (q : Nat) : Nat → Int
  | 0 => 0
  | t + 1 => zl_e π τ q t + zt_w τ t * zp_e π (τ.2.2.2 t q)
def zl_s (π : zP) (τ : zQ) (q : Nat) : Nat → Int
  | 0 => 0
  | t + 1 => zl_s π τ q t + zt_w τ t * zp_s π (τ.2.2.2 t q)
def zl_E (π : zP) (τ : zQ) (q : Nat) : Int := zl_e π τ q τ.1
def zl_S (π : zP) (τ : zQ) (q : Nat) : Int := zl_s π τ q τ.1
theorem zl_e_rng {M : zw_M} {π : zP} {τ : zQ} (hp : π.1 ≤ 5 ∧ π.2.1 ≤ 6) (hT : zT M (zp_n π) τ) {q : Nat} (hq : q < 8) : ∀ t, t ≤ τ.1 → -(1000 * (t : Int)) ≤ zl_e π τ q t ∧ zl_e π τ q t ≤ 1000 * (t : Int)
  | 0, _ => by simp [zl_e]
  | t + 1, h => by
    have ih := zl_e_rng hp hT hq t (by omega)
    have h1 := zt_w_rng hT (show t < τ.1 by omega)
    have h2 := zp_e_rng hp (hT.2.2.2.2.2.2.2 t (by omega) q hq)
    have h3 := zp_mul_rng (a := zt_w τ t) (B := 198) h2.1 h2.2 (by omega) (by omega)
    rw [zl_e]
    omega
theorem zl_s_rng {M : zw_M} {π : zP} {τ : zQ} (hp : π.1 ≤ 5 ∧ π.2.1 ≤ 6) (hT : zT M (zp_n π) τ) {q : Nat} (hq : q < 8) : ∀ t, t ≤ τ.1 → -(1000 * (t : Int)) ≤ zl_s π τ q t ∧ zl_s π τ q t ≤ 1000 * (t : Int)
  | 0, _ => by simp [zl_s]
  | t + 1, h => by
    have ih := zl_s_rng hp hT hq t (by omega)
    have h1 := zt_w_rng hT (show t < τ.1 by omega)
    have h2 := zp_s_rng hp (hT.2.2.2.2.2.2.2 t (by omega) q hq)
    have h3 := zp_mul_rng (a := zt_w τ t) (e := zp_s π (τ.2.2.2 t q)) (B := 198) (by omega) (by omega) (by omega) (by omega)
    rw [zl_s]
    omega
theorem zl_rng {M : zw_M} {π : zP} {τ : zQ} (hp : π.1 ≤ 5 ∧ π.2.1 ≤ 6) (hT : zT M (zp_n π) τ) {q : Nat} (hq : q < 8) : (-8000 ≤ zl_E π τ q ∧ zl_E π τ q ≤ 8000) ∧ -8000 ≤ zl_S π τ q ∧ zl_S π τ q ≤ 8000 := by
  have h1 := zl_e_rng hp hT hq τ.1 (Nat.le_refl _)
  have h2 := zl_s_rng hp hT hq τ.1 (Nat.le_refl _)
  have h8 := hT.1
  unfold zl_E zl_S
  omega
set_option maxRecDepth 100000 in
set_option maxHeartbeats 600000 in
theorem mX0_leanEast {l : zw_Lh} {d : Nat} {M : zw_M} {π : zP} {τ : zQ} (hI : zI M π) (hT : zT M (zp_n π) τ) {q : Nat} (hq : q < 8) : zw_C l (d + 3) iX0_leanEast [.ref 13, .int (zn_I (q : Int))] M (zw_i (zn_I (zl_E π τ q)) M) := by
  have hp := hI.1
  have h30 := zp_30 hp
  have h8 := hT.1
  refine zw_of (by decide +kernel) (Nat.le_of_ble_eq_true rfl) ?_
  refine zy_loc (L1 := [.ref 13, .int (zn_I (q : Int)), .retAddr 0, .retAddr 0]) rfl ?_
  have loop : ∀ s : Nat, s ≤ τ.1 → zw_X l (d + 3) iX0_leanEast (zw_i (zn_I (zl_E π τ q)) M) 4 [.ref 13, .int (zn_I (q : Int)), .int (zn_I (zl_e π τ q s)), .int (zn_I (s : Int))] [] M := by
    refine zw_loop τ.1 (P := fun s => zw_X l (d + 3) iX0_leanEast (zw_i (zn_I (zl_E π τ q)) M) 4 [.ref 13, .int (zn_I (q : Int)), .int (zn_I (zl_e π τ q s)), .int (zn_I (s : Int))] [] M) (fun s hs ih => ?_)
    refine zx_iload_n dX0_leanEast_4 rfl ?_
    refine zx_aload_n dX0_leanEast_5 rfl ?_
    refine zx_getr dX0_leanEast_6 fX0_22 ?_
    refine zx_callV (y1 := iX8_size) dX0_leanEast_9 lX0_26 vX8_size rc_8 (mX8_size hT) rfl rfl (Nat.le_of_ble_eq_true rfl) ?_
    refine zk_i ?_
    refine zy_icmp_ge (tgt := 49) dX0_leanEast_12 (by decide) (by omega) (fun h_12 => ?_) (fun h_12 => ?_)
    · refine zx_iload_n dX0_leanEast_49 rfl ?_
      refine zx_iret (st := []) dX0_leanEast_50 rfl rfl ?_
      exact zk_I (by rw [show s = τ.1 by omega]; rfl)
    · refine zx_iload_n dX0_leanEast_15 rfl ?_
      refine zx_aload_n dX0_leanEast_16 rfl ?_
      refine zx_getr dX0_leanEast_17 fX0_22 ?_
      refine zx_iload_n dX0_leanEast_20 rfl ?_
      refine zx_callV (y1 := iX8_weighs) dX0_leanEast_21 lX0_32 vX8_weighs rc_8 (mX8_weighs_in hT (t := s) (by omega)) rfl rfl (Nat.le_of_ble_eq_true rfl) ?_
      refine zk_i ?_
      refine zx_aload_n dX0_leanEast_24 rfl ?_
      refine zx_getr dX0_leanEast_25 fX0_18 ?_
      refine zx_aload_n dX0_leanEast_28 rfl ?_
      refine zx_getr dX0_leanEast_29 fX0_22 ?_
      refine zx_iload_n dX0_leanEast_32 rfl ?_
      refine zx_iload_n dX0_leanEast_33 rfl ?_
      refine zx_callV (y1 := iX8_place) dX0_leanEast_34 lX0_36 vX8_place rc_8 (mX8_place_in hT (t := s) (q := q) (by omega) hq) rfl rfl (Nat.le_of_ble_eq_true rfl) ?_
      refine zk_i ?_
      refine zx_callV (y1 := iX1_east) dX0_leanEast_37 lX0_40 vX1_east rc_4 (mX1_east_in hI (hT.2.2.2.2.2.2.2 s (by omega) q hq)) rfl rfl (Nat.le_of_ble_eq_true rfl) ?_
      refine zk_i ?_
      refine zy_imul dX0_leanEast_40 ?_
      refine zy_iadd dX0_leanEast_41 ?_
      refine zx_istore_n dX0_leanEast_42 rfl (Nat.le_of_ble_eq_true rfl) ?_
      refine zy_iinc dX0_leanEast_43 rfl rfl ?_
      refine zx_goto (tgt := 4) dX0_leanEast_46 (by decide) ?_
      exact ih (by omega)
  refine zx_iconst (v := zn_I 0) dX0_leanEast_0 rfl ?_
  refine zx_istore_n dX0_leanEast_1 rfl (Nat.le_of_ble_eq_true rfl) ?_
  refine zx_iconst (v := zn_I 0) dX0_leanEast_2 rfl ?_
  refine zx_istore_n dX0_leanEast_3 rfl (Nat.le_of_ble_eq_true rfl) ?_
  exact loop 0 (by omega)
set_option maxRecDepth 100000 in
set_option maxHeartbeats 600000 in
theorem mX0_leanSouth {l : zw_Lh} {d : Nat} {M : zw_M} {π : zP} {τ : zQ} (hI : zI M π) (hT : zT M (zp_n π) τ) {q : Nat} (hq : q < 8) : zw_C l (d + 3) iX0_leanSouth [.ref 13, .int (zn_I (q : Int))] M (zw_i (zn_I (zl_S π τ q)) M) := by
  have hp := hI.1
  have h30 := zp_30 hp
  have h8 := hT.1
  refine zw_of (by decide +kernel) (Nat.le_of_ble_eq_true rfl) ?_
  refine zy_loc (L1 := [.ref 13, .int (zn_I (q : Int)), .retAddr 0, .retAddr 0]) rfl ?_
  have loop : ∀ s : Nat, s ≤ τ.1 → zw_X l (d + 3) iX0_leanSouth (zw_i (zn_I (zl_S π τ q)) M) 4 [.ref 13, .int (zn_I (q : Int)), .int (zn_I (zl_s π τ q s)), .int (zn_I (s : Int))] [] M := by
    refine zw_loop τ.1 (P := fun s => zw_X l (d + 3) iX0_leanSouth (zw_i (zn_I (zl_S π τ q)) M) 4 [.ref 13, .int (zn_I (q : Int)), .int (zn_I (zl_s π τ q s)), .int (zn_I (s : Int))] [] M) (fun s hs ih => ?_)
    refine zx_iload_n dX0_leanSouth_4 rfl ?_
    refine zx_aload_n dX0_leanSouth_5 rfl ?_
    refine zx_getr dX0_leanSouth_6 fX0_22 ?_
    refine zx_callV (y1 := iX8_size) dX0_leanSouth_9 lX0_26 vX8_size rc_8 (mX8_size hT) rfl rfl (Nat.le_of_ble_eq_true rfl) ?_
    refine zk_i ?_
    refine zy_icmp_ge (tgt := 49) dX0_leanSouth_12 (by decide) (by omega) (fun h_12 => ?_) (fun h_12 => ?_)
    · refine zx_iload_n dX0_leanSouth_49 rfl ?_
      refine zx_iret (st := []) dX0_leanSouth_50 rfl rfl ?_
      exact zk_I (by rw [show s = τ.1 by omega]; rfl)
    · refine zx_iload_n dX0_leanSouth_15 rfl ?_
      refine zx_aload_n dX0_leanSouth_16 rfl ?_
      refine zx_getr dX0_leanSouth_17 fX0_22 ?_
      refine zx_iload_n dX0_leanSouth_20 rfl ?_
      refine zx_callV (y1 := iX8_weighs) dX0_leanSouth_21 lX0_32 vX8_weighs rc_8 (mX8_weighs_in hT (t := s) (by omega)) rfl rfl (Nat.le_of_ble_eq_true rfl) ?_
      refine zk_i ?_
      refine zx_aload_n dX0_leanSouth_24 rfl ?_
      refine zx_getr dX0_leanSouth_25 fX0_18 ?_
      refine zx_aload_n dX0_leanSouth_28 rfl ?_
      refine zx_getr dX0_leanSouth_29 fX0_22 ?_
      refine zx_iload_n dX0_leanSouth_32 rfl ?_
      refine zx_iload_n dX0_leanSouth_33 rfl ?_
      refine zx_callV (y1 := iX8_place) dX0_leanSouth_34 lX0_36 vX8_place rc_8 (mX8_place_in hT (t := s) (q := q) (by omega) hq) rfl rfl (Nat.le_of_ble_eq_true rfl) ?_
      refine zk_i ?_
      refine zx_callV (y1 := iX1_south) dX0_leanSouth_37 lX0_45 vX1_south rc_4 (mX1_south_in hI (hT.2.2.2.2.2.2.2 s (by omega) q hq)) rfl rfl (Nat.le_of_ble_eq_true rfl) ?_
      refine zk_i ?_
      refine zy_imul dX0_leanSouth_40 ?_
      refine zy_iadd dX0_leanSouth_41 ?_
      refine zx_istore_n dX0_leanSouth_42 rfl (Nat.le_of_ble_eq_true rfl) ?_
      refine zy_iinc dX0_leanSouth_43 rfl rfl ?_
      refine zx_goto (tgt := 4) dX0_leanSouth_46 (by decide) ?_
      exact ih (by omega)
  refine zx_iconst (v := zn_I 0) dX0_leanSouth_0 rfl ?_
  refine zx_istore_n dX0_leanSouth_1 rfl (Nat.le_of_ble_eq_true rfl) ?_
  refine zx_iconst (v := zn_I 0) dX0_leanSouth_2 rfl ?_
  refine zx_istore_n dX0_leanSouth_3 rfl (Nat.le_of_ble_eq_true rfl) ?_
  exact loop 0 (by omega)
set_option maxRecDepth 100000 in
set_option maxHeartbeats 600000 in
theorem mX0_wetIn {l : zw_Lh} {d : Nat} {M : zw_M} {π : zP} {τ : zQ} (hI : zI M π) (hT : zT M (zp_n π) τ) {q : Nat} (hq : q < 8) : zw_C l (d + 4) iX0_wetIn [.ref 13, .int (zn_I (q : Int))] M (zw_i (zn_I (zp_bits π (zl_E π τ q) (zl_S π τ q) (zp_n π) : Nat)) M) := by
  have hp := hI.1
  have h30 := zp_30 hp
  have h8 := hT.1
  have hr := zl_rng hp hT hq
  refine zw_of (by decide +kernel) (Nat.le_of_ble_eq_true rfl) ?_
  refine zy_loc (L1 := [.ref 13, .int (zn_I (q : Int))]) rfl ?_
  refine zx_aload_n dX0_wetIn_0 rfl ?_
  refine zx_getr dX0_wetIn_1 fX0_18 ?_
  refine zx_aload_n dX0_wetIn_4 rfl ?_
  refine zx_iload_n dX0_wetIn_5 rfl ?_
  refine zx_callV (y1 := iX0_leanEast) dX0_wetIn_6 lX0_48 vX0_leanEast rc_13 (mX0_leanEast hI hT hq) rfl rfl (Nat.le_of_ble_eq_true rfl) ?_
  refine zk_i ?_
  refine zx_aload_n dX0_wetIn_9 rfl ?_
  refine zx_iload_n dX0_wetIn_10 rfl ?_
  refine zx_callV (y1 := iX0_leanSouth) dX0_wetIn_11 lX0_51 vX0_leanSouth rc_13 (mX0_leanSouth hI hT hq) rfl rfl (Nat.le_of_ble_eq_true rfl) ?_
  refine zk_i ?_
  refine zx_callV (y1 := iX1_wetDoors) dX0_wetIn_14 lX0_54 vX1_wetDoors rc_4 (mX1_wetDoors hI ⟨by omega, by omega⟩ ⟨by omega, by omega⟩) rfl rfl (Nat.le_of_ble_eq_true rfl) ?_
  refine zk_i ?_
  refine zx_iret (st := []) dX0_wetIn_17 rfl rfl ?_
  exact ⟨rfl, rfl⟩
/-- the leans that the day keeps -/
def zd (M : zw_M) (E S : Nat → Int) : Prop := ∀ q, q < 8 → (M.1 14 q = zn_I (E q) ∧ M.1 15 q = zn_I (S q)) ∧ (-1000000 ≤ E q ∧ E q ≤ 1000000) ∧ -1000000 ≤ S q ∧ S q ≤ 1000000
theorem zd_f {S1 : List Nat} {M M1 : zw_M} {E S : Nat → Int} (h : zw_fr S1 M M1) (hd : zd M E S) (hS : ∀ p ∈ [14, 15], p ∉ S1) : zd M1 E S := by
  have h4 := (h 14 (hS 14 (by decide))).1
  have h5 := (h 15 (hS 15 (by decide))).1
  unfold zd at hd ⊢
  rw [h4, h5]
  exact hd


def zc_sum (f : Nat → Nat) : Nat → Nat
  | 0 => 0
  | q + 1 => zc_sum f q + f q
theorem zc_sum_le {f : Nat → Nat} {B : Nat} (h : ∀ q, f q ≤ B) : ∀ n, zc_sum f n ≤ n * B
  | 0 => by simp [zc_sum]
  | n + 1 => by
    have := zc_sum_le h n
    have := h n
    rw [zc_sum, Nat.succ_mul]
    omega
/-- how many doors are wet in all quarters together, with what comes to the leans -/
def zp_day (π : zP) (E S : Nat → Int) (a b : Int) : Nat := zc_sum (fun q => zp_wc π (E q + a) (S q + b)) 8
theorem zp_day_le (π : zP) (E S : Nat → Int) (a b : Int) : zp_day π E S a b ≤ 256 := zc_sum_le (fun q => zp_wc_le π _ _) 8
/-- the first square of the least, -1 ahead of any; the least -/
def zc_b (f : Nat → Nat) : Nat → Int × Int
  | 0 => (-1, 0)
  | s + 1 => if (zc_b f s).1 = -1 ∨ (f s : Int) < (zc_b f s).2 then ((s : Int), (f s : Int)) else zc_b f s
theorem zc_b_rng {f : Nat → Nat} {B : Nat} (h : ∀ q, f q ≤ B) : ∀ s, -1 ≤ (zc_b f s).1 ∧ (zc_b f s).1 < (s : Int) + 1 ∧ 0 ≤ (zc_b f s).2 ∧ (zc_b f s).2 ≤ (B : Int)
  | 0 => by simp [zc_b]
  | s + 1 => by
    have ih := zc_b_rng h s
    have hs := h s
    rw [zc_b]
    split
    · dsimp only; omega
    · omega
def zc_max (f : Nat → Int) : Nat → Int
  | 0 => f 0
  | q + 1 => if zc_max f q < f (q + 1) then f (q + 1) else zc_max f q
theorem zn_max {a b : Int} (h : -2147483648 ≤ a ∧ a < 2147483648 ∧ -2147483648 ≤ b ∧ b < 2147483648) : (if zn_I a < zn_I b then zn_I b else zn_I a) = zn_I (if a < b then b else a) := by
  by_cases q : a < b
  · rw [if_pos q, if_pos ((zn_lt h).mpr q)]
  · rw [if_neg q, if_neg (fun z => q ((zn_lt h).mp z))]

def zp_site (π : zP) (E S : Nat → Int) (w : Int) (s : Nat) : Nat := zp_day π E S (w * zp_e π s) (w * zp_s π s)
theorem zp_w99 {π : zP} (hp : π.1 ≤ 5 ∧ π.2.1 ≤ 6) {s : Nat} (hs : s < zp_n π) {w : Int} (hw : 1 ≤ w ∧ w ≤ 99) : (-1000 ≤ w * zp_e π s ∧ w * zp_e π s ≤ 1000) ∧ -1000 ≤ w * zp_s π s ∧ w * zp_s π s ≤ 1000 := by
  have h1 := zp_e_rng hp hs
  have h2 := zp_s_rng hp hs
  have h3 := zp_mul_rng (a := w) (e := zp_e π s) (B := 99) (by omega) (by omega) (by omega) (by omega)
  have h4 := zp_mul_rng (a := w) (e := zp_s π s) (B := 99) (by omega) (by omega) (by omega) (by omega)
  omega
theorem zp_at_rng {π : zP} {f : Nat → Int} {B : Int} (hB : 0 ≤ B) (h : ∀ s, s < zp_n π → -B ≤ f s ∧ f s ≤ B) (z : Int) : -B ≤ zp_at π f z ∧ zp_at π f z ≤ B := by
  unfold zp_at
  split
  · exact h _ (by omega)
  · omega
theorem zc_max_rng {f : Nat → Int} {B : Int} : ∀ n, (∀ q, q ≤ n → -B ≤ f q ∧ f q ≤ B) → -B ≤ zc_max f n ∧ zc_max f n ≤ B
  | 0, h => h 0 (Nat.le_refl 0)
  | n + 1, h => by
    have ih := zc_max_rng n (fun q hq => h q (by omega))
    have hs := h (n + 1) (Nat.le_refl _)
    rw [zc_max]
    split <;> omega
/-- how far a square dips in the quarter in which it dips most -/
def zp_top (π : zP) (E S : Nat → Int) (z : Int) : Int := zc_max (fun q => zp_at π (fun s => zp_dip π s (E q) (S q)) z) 7
end
section
/-! bytes of a long -/
theorem wb_tb (n : Nat) : (lN n).toBitVec = BitVec.ofNat 64 n := rfl
theorem wb_inj {a b : Int64} (h : a.toBitVec = b.toBitVec) : a = b := Int64.toBitVec_inj.mp h
theorem wb_tn {n : Nat} (h : n < 2 ^ 64) : (lN n).toBitVec.toNat = n := by rw [wb_tb, BitVec.toNat_ofNat, Nat.mod_eq_of_lt h]
theorem wb_of (x : Int64) : ∃ n, n < 2 ^ 64 ∧ x = lN n := ⟨x.toBitVec.toNat, x.toBitVec.isLt, wb_inj (by rw [wb_tb]; simp)⟩
theorem wb_c : ∀ k, k < 64 → ((nI k).toInt64 &&& 63) = lN k := by decide +kernel
theorem wb_cu : ∀ k, k < 64 → ((nI k).toInt64.toUInt64 &&& Int64.toUInt64 63) = UInt64.ofNat k := by decide +kernel
theorem wb_shr {n k : Nat} (hn : n < 2 ^ 64) (hk : k < 64) : ((lN n).toUInt64 >>> ((nI k).toInt64.toUInt64 &&& Int64.toUInt64 63)).toInt64 = lN (n / 2 ^ k) := by
  rw [wb_cu k hk]
  apply wb_inj
  apply BitVec.eq_of_toNat_eq
  show ((lN n).toUInt64 >>> UInt64.ofNat k).toNat = (BitVec.ofNat 64 _).toNat
  have h1 : (UInt64.ofNat k).toNat = k := by
    show (BitVec.ofNat 64 k).toNat = k
    rw [BitVec.toNat_ofNat, Nat.mod_eq_of_lt (by omega)]
  have h2 : (lN n).toUInt64.toNat = n := wb_tn hn
  rw [UInt64.toNat_shiftRight, h1, h2, Nat.mod_eq_of_lt hk, Nat.shiftRight_eq_div_pow, BitVec.toNat_ofNat, Nat.mod_eq_of_lt (Nat.lt_of_le_of_lt (Nat.div_le_self _ _) hn)]
theorem wb_255 {n : Nat} (hn : n < 2 ^ 64) : lN n &&& 255 = lN (n % 256) := by
  apply wb_inj
  rw [Int64.toBitVec_and, wb_tb, wb_tb]
  apply BitVec.eq_of_toNat_eq
  rw [BitVec.toNat_and, BitVec.toNat_ofNat, BitVec.toNat_ofNat, Nat.mod_eq_of_lt hn, Nat.mod_eq_of_lt (show n % 256 < 2 ^ 64 by omega)]
  show n &&& (2 ^ 8 - 1) = _
  rw [Nat.and_two_pow_sub_one_eq_mod]
/-- the byte at a place of w -/
def zg_c (w i : Nat) : Nat := w / 256 ^ i % 256
theorem zg_c_lt (w i : Nat) : zg_c w i < 256 := Nat.mod_lt _ (by decide)
theorem zg_pow (i : Nat) : 2 ^ (8 * i) = 256 ^ i := by rw [Nat.pow_mul]
theorem zg_code {w i : Nat} (hw : w < 2 ^ 64) (hi : i < 8) : ((((lN w).toUInt64 >>> ((zn_I (8 * (i : Int))).toInt64.toUInt64 &&& Int64.toUInt64 63)).toInt64) &&& 255).toInt32 = zn_I (zg_c w i : Nat) := by
  rw [show (8 * (i : Int)) = ((8 * i : Nat) : Int) by omega, ← zn_nat, wb_shr hw (by omega), wb_255 (Nat.lt_of_le_of_lt (Nat.div_le_self _ _) hw), lN_i, zn_nat, zg_pow]
  rfl
/-! how many letters a long tells: none where they may not come so -/
def zg_told (w : Nat) : Nat → Option Nat
  | 0 => some 0
  | i + 1 => match zg_told w i with
    | none => none
    | some t => if 126 < zg_c w i ∨ (zg_c w i ≠ 0 ∧ t < i) then none else some (if zg_c w i ≠ 0 then t + 1 else t)
theorem zg_told_none {w : Nat} : ∀ {i j : Nat}, i ≤ j → zg_told w i = none → zg_told w j = none
  | i, 0, h, e => by
    have : i = 0 := by omega
    subst this
    exact e
  | i, j + 1, h, e => by
    rcases Nat.lt_or_ge i (j + 1) with q | q
    · rw [zg_told, zg_told_none (show i ≤ j by omega) e]
    · have : i = j + 1 := by omega
      subst this
      exact e
theorem zg_told_some {w : Nat} : ∀ {i t : Nat}, zg_told w i = some t → t ≤ i ∧ ∀ j, j < t → 1 ≤ zg_c w j ∧ zg_c w j ≤ 126
  | 0, t, h => by
    cases h
    exact ⟨Nat.le_refl 0, fun j hj => absurd hj (Nat.not_lt_zero j)⟩
  | i + 1, t, h => by
    rw [zg_told] at h
    cases e : zg_told w i with
    | none => rw [e] at h; cases h
    | some u =>
      rw [e] at h
      dsimp only at h
      have ih := zg_told_some e
      split at h
      · cases h
      · next hn =>
        have h2 := Option.some.inj h
        by_cases hc : zg_c w i = 0
        · rw [if_neg (fun q => q hc)] at h2
          subst h2
          exact ⟨by omega, ih.2⟩
        · rw [if_pos hc] at h2
          have hu : u = i := by omega
          subst hu
          subst h2
          refine ⟨Nat.le_refl _, fun j hj => ?_⟩
          by_cases hji : j = u
          · subst hji; omega
          · exact ih.2 j (by omega)
def zg_res (w : Nat) : Int := match zg_told w 8 with
  | none => -102
  | some t => (t : Int)
theorem zg_char {c : Nat} (hc : c < 65536) : vp_nar .char ((zn_I (c : Int)).toUInt32 % 65536).toInt32 = zn_I (c : Int) := by
  rw [pk_vc, pk_char, ← zn_nat, pk_tn (by omega), Nat.mod_eq_of_lt hc]
/-! THE PAGE: how many letters, their codes -/
abbrev zR : Type := Nat × (Nat → Nat)
def zG (M : zw_M) (ρ : zR) : Prop := ρ.1 ≤ 40 ∧ M.1 1 1 = zn_I ρ.1 ∧ (∀ i, i < ρ.1 → M.1 2 i = zn_I (ρ.2 i : Nat)) ∧ (∀ i, i < ρ.1 → 1 ≤ ρ.2 i ∧ ρ.2 i ≤ 126)
theorem zG_f {S : List Nat} {M M1 : zw_M} {ρ : zR} (h : zw_fr S M M1) (hG : zG M ρ) (hS : ∀ p ∈ [1, 2], p ∉ S) : zG M1 ρ := by
  have h4 := (h 1 (hS 1 (by decide))).1
  have h5 := (h 2 (hS 2 (by decide))).1
  unfold zG at hG ⊢
  rw [h4, h5]
  exact hG
/-- the letter at a place, 0 where there is none -/
def zg_at (ρ : zR) (z : Int) : Nat := if 0 ≤ z ∧ z < ρ.1 then ρ.2 z.toNat else 0
theorem zg_at_in {ρ : zR} {i : Nat} (h : i < ρ.1) : zg_at ρ (i : Int) = ρ.2 i := by rw [zg_at, if_pos ⟨by omega, by omega⟩, Int.toNat_natCast]
theorem zg_at_lt {M : zw_M} {ρ : zR} (hG : zG M ρ) (z : Int) : zg_at ρ z ≤ 126 := by
  unfold zg_at
  split
  · exact (hG.2.2.2 _ (by omega)).2
  · omega
/-- which way a letter tells: 1 up, 2 right, 3 down, 4 left, 0 none -/
def zg_way (c : Nat) : Int := if c = 110 then 1 else if c = 101 then 2 else if c = 115 then 3 else if c = 119 then 4 else 0
/-- how many letters of a way there are from the first on, seven at most -/
def zg_wf (ρ : zR) : Nat → Nat
  | 0 => 0
  | i + 1 => if zg_wf ρ i < i then zg_wf ρ i else if i < 7 ∧ zg_way (ρ.2 i) ≠ 0 then i + 1 else i
theorem zg_wf_le (ρ : zR) : ∀ i, zg_wf ρ i ≤ i
  | 0 => Nat.le_refl 0
  | i + 1 => by
    have := zg_wf_le ρ i
    rw [zg_wf]
    split
    · omega
    · split <;> omega
theorem zg_wf_stop {ρ : zR} {i : Nat} (h : zg_wf ρ i = i) (h2 : ¬ (i < 7 ∧ zg_way (ρ.2 i) ≠ 0)) : ∀ j, i < j → zg_wf ρ j = i
  | 0, q => absurd q (Nat.not_lt_zero _)
  | j + 1, q => by
    rw [zg_wf]
    rcases Nat.lt_or_ge i j with r | r
    · rw [zg_wf_stop h h2 j r, if_pos r]
    · have : j = i := by omega
      subst this
      rw [h, if_neg (Nat.lt_irrefl _), if_neg h2]
set_option maxRecDepth 100000 in
set_option maxHeartbeats 600000 in
theorem mX3_length {l : zw_Lh} {d : Nat} {M : zw_M} {ρ : zR} (hG : zG M ρ) : zw_C l d iX3_length [.ref 1] M (zw_i (zn_I ρ.1) M) := by
  obtain ⟨h40, hlen, hch, hcr⟩ := id hG
  refine zw_of (by decide +kernel) (Nat.le_of_ble_eq_true rfl) ?_
  refine zy_loc (L1 := [.ref 1]) rfl ?_
  refine zx_aload_n dX3_length_0 rfl ?_
  refine zy_geti dX3_length_1 fX3_15 (hlen) ?_
  refine zx_iret (st := []) dX3_length_4 rfl rfl ?_
  exact ⟨rfl, rfl⟩
set_option maxRecDepth 100000 in
set_option maxHeartbeats 600000 in
theorem mX3_letter {l : zw_Lh} {d : Nat} {M : zw_M} {ρ : zR} (hG : zG M ρ) {z : Int} (hz : -2147483648 ≤ z ∧ z < 2147483648) : zw_C l d iX3_letter [.ref 1, .int (zn_I z)] M (zw_i (zn_I (zg_at ρ z : Nat)) M) := by
  obtain ⟨h40, hlen, hch, hcr⟩ := id hG
  refine zw_of (by decide +kernel) (Nat.le_of_ble_eq_true rfl) ?_
  refine zy_loc (L1 := [.ref 1, .int (zn_I z)]) rfl ?_
  refine zx_iload_n dX3_letter_0 rfl ?_
  refine zy_if_lt (tgt := 21) dX3_letter_1 (by decide) (by omega) (fun h_1 => ?_) (fun h_1 => ?_)
  · refine zx_iconst (v := zn_I 0) dX3_letter_21 rfl ?_
    refine zx_iret (st := []) dX3_letter_22 rfl rfl ?_
    first | exact zk_I (by unfold zg_at; rw [if_pos (by omega)]) | exact zk_I (by unfold zg_at; rw [if_neg (by omega)]; rfl)
  · refine zx_iload_n dX3_letter_4 rfl ?_
    refine zx_aload_n dX3_letter_5 rfl ?_
    refine zy_geti dX3_letter_6 fX3_15 (hlen) ?_
    refine zy_icmp_ge (tgt := 21) dX3_letter_9 (by decide) (by omega) (fun h_9 => ?_) (fun h_9 => ?_)
    · refine zx_iconst (v := zn_I 0) dX3_letter_21 rfl ?_
      refine zx_iret (st := []) dX3_letter_22 rfl rfl ?_
      first | exact zk_I (by unfold zg_at; rw [if_pos (by omega)]) | exact zk_I (by unfold zg_at; rw [if_neg (by omega)]; rfl)
    · refine zx_aload_n dX3_letter_12 rfl ?_
      refine zx_getr dX3_letter_13 fX3_9 ?_
      refine zx_iload_n dX3_letter_16 rfl ?_
      refine zy_cald (i := z.toNat) dX3_letter_17 rfl (by decide) (by omega) (by omega) ((hch z.toNat (by omega))) ?_
      refine zx_goto (tgt := 22) dX3_letter_18 (by decide) ?_
      refine zx_iret (st := []) dX3_letter_22 rfl rfl ?_
      first | exact zk_I (by unfold zg_at; rw [if_pos (by omega)]) | exact zk_I (by unfold zg_at; rw [if_neg (by omega)]; rfl)
set_option maxRecDepth 100000 in
set_option maxHeartbeats 600000 in
theorem mX3_clear {l : zw_Lh} {d : Nat} {M : zw_M}  : zw_C l d iX3_clear [.ref 1] M (zw_u (zw_s M 1 1 (zn_I 0))) := by
  refine zw_of (by decide +kernel) (Nat.le_of_ble_eq_true rfl) ?_
  refine zy_loc (L1 := [.ref 1]) rfl ?_
  refine zx_aload_n dX3_clear_0 rfl ?_
  refine zx_iconst (v := zn_I 0) dX3_clear_1 rfl ?_
  refine zx_puti dX3_clear_2 fX3_15 ?_
  refine zx_vret (st := []) dX3_clear_5 rfl ?_
  exact ⟨rfl, rfl⟩
set_option maxRecDepth 100000 in
set_option maxHeartbeats 600000 in
theorem mX3_codeAt {l : zw_Lh} {d : Nat} {M : zw_M} {w i : Nat} (hw : w < 2 ^ 64) (hi : i < 8) : zw_C l d iX3_codeAt [.long (lN w), .int (zn_I (i : Int))] M (zw_i (zn_I (zg_c w i : Nat)) M) := by
  refine zw_of (by decide +kernel) (Nat.le_of_ble_eq_true rfl) ?_
  refine zy_loc (L1 := [.long (lN w), .retAddr 0, .int (zn_I (i : Int))]) rfl ?_
  refine zx_lload_n dX3_codeAt_0 rfl ?_
  refine zx_bipush (v := zn_I 8) dX3_codeAt_1 (by decide) ?_
  refine zx_iload_n dX3_codeAt_3 rfl ?_
  refine zy_imul dX3_codeAt_4 ?_
  refine zx_lushr dX3_codeAt_5 ?_
  refine zx_ldc2 dX3_codeAt_6 kX3_27 ?_
  refine zx_land dX3_codeAt_9 ?_
  refine zx_l2i dX3_codeAt_10 ?_
  refine zy_top (zg_code hw hi) ?_
  refine zx_iret (st := []) dX3_codeAt_11 rfl rfl ?_
  exact ⟨rfl, rfl⟩
set_option maxRecDepth 100000 in
set_option maxHeartbeats 600000 in
theorem mX3_lettersTold {l : zw_Lh} {d : Nat} {M : zw_M} {w : Nat} (hw : w < 2 ^ 64) : zw_C l (d + 1) iX3_lettersTold [.long (lN w)] M (zw_i (zn_I (zg_res w)) M) := by
  refine zw_of (by decide +kernel) (Nat.le_of_ble_eq_true rfl) ?_
  refine zy_loc (L1 := [.long (lN w), .retAddr 0, .retAddr 0, .retAddr 0, .retAddr 0, .retAddr 0]) rfl ?_
  have loop : ∀ s : Nat, s ≤ 8 → ∀ (t : Nat) (v4 v5 : Value), zg_told w s = some t → zw_X l (d + 1) iX3_lettersTold (zw_i (zn_I (zg_res w)) M) 4 [.long (lN w), .retAddr 0, .int (zn_I (t : Int)), .int (zn_I (s : Int)), v4, v5] [] M := by
    refine zw_loop 8 (P := fun s => ∀ (t : Nat) (v4 v5 : Value), zg_told w s = some t → zw_X l (d + 1) iX3_lettersTold (zw_i (zn_I (zg_res w)) M) 4 [.long (lN w), .retAddr 0, .int (zn_I (t : Int)), .int (zn_I (s : Int)), v4, v5] [] M) (fun s hs ih t v4 v5 ht => ?_)
    have htl := (zg_told_some ht).1
    refine zx_iload_n dX3_lettersTold_4 rfl ?_
    refine zx_bipush (v := zn_I 8) dX3_lettersTold_5 (by decide) ?_
    refine zy_icmp_ge (tgt := 63) dX3_lettersTold_7 (by decide) (by omega) (fun h_7 => ?_) (fun h_7 => ?_)
    · refine zx_iload_n dX3_lettersTold_63 rfl ?_
      refine zx_iret (st := []) dX3_lettersTold_64 rfl rfl ?_
      exact zk_I (by rw [show s = 8 by omega] at ht; rw [zg_res, ht])
    · refine zx_lload_n dX3_lettersTold_10 rfl ?_
      refine zx_iload_n dX3_lettersTold_11 rfl ?_
      refine zx_callS (y1 := iX3_codeAt) dX3_lettersTold_12 lX3_23 sX3_codeAt (mX3_codeAt hw (i := s) (by omega)) rfl rfl (Nat.le_of_ble_eq_true rfl) ?_
      refine zk_i ?_
      have hc := zg_c_lt w s
      refine zx_istore dX3_lettersTold_15 rfl (Nat.le_of_ble_eq_true rfl) ?_
      refine zx_iload dX3_lettersTold_17 rfl ?_
      refine zy_if_eq (tgt := 31) dX3_lettersTold_19 (by decide) (by omega) (fun h_19 => ?_) (fun h_19 => ?_)
      · refine zx_iconst (v := zn_I 0) dX3_lettersTold_31 rfl ?_
        refine zx_istore dX3_lettersTold_32 rfl (Nat.le_of_ble_eq_true rfl) ?_
        refine zx_iload dX3_lettersTold_34 rfl ?_
        refine zx_bipush (v := zn_I 126) dX3_lettersTold_36 (by decide) ?_
        refine zy_icmp_gt (tgt := 46) dX3_lettersTold_38 (by decide) (by omega) (fun h_38 => ?_) (fun h_38 => ?_)
        · refine zx_bipush (v := zn_I (-102)) dX3_lettersTold_46 (by decide) ?_
          refine zx_iret (st := []) dX3_lettersTold_48 rfl rfl ?_
          have hstep : zg_told w (s + 1) = (if 126 < zg_c w s ∨ (zg_c w s ≠ 0 ∧ t < s) then none else some (if zg_c w s ≠ 0 then t + 1 else t)) := by rw [zg_told, ht]
          rw [if_pos (by omega)] at hstep
          exact zk_I (by rw [zg_res, zg_told_none (show s + 1 ≤ 8 by omega) hstep])
        · refine zx_iload dX3_lettersTold_41 rfl ?_
          refine zy_if_eq (tgt := 49) dX3_lettersTold_43 (by decide) (by omega) (fun h_43 => ?_) (fun h_43 => ?_)
          · refine zx_iload dX3_lettersTold_49 rfl ?_
            refine zy_if_eq (tgt := 57) dX3_lettersTold_51 (by decide) (by omega) (fun h_51 => ?_) (fun h_51 => ?_)
            · refine zy_iinc dX3_lettersTold_57 rfl rfl ?_
              refine zx_goto (tgt := 4) dX3_lettersTold_60 (by decide) ?_
              have hstep : zg_told w (s + 1) = (if 126 < zg_c w s ∨ (zg_c w s ≠ 0 ∧ t < s) then none else some (if zg_c w s ≠ 0 then t + 1 else t)) := by rw [zg_told, ht]
              rw [if_neg (by omega)] at hstep
              first
                | (rw [if_pos (by omega)] at hstep; exact ih (by omega) (t + 1) _ _ hstep)
                | (rw [if_neg (by omega)] at hstep; exact ih (by omega) t _ _ hstep)
            · refine zy_iinc dX3_lettersTold_54 rfl rfl ?_
              refine zy_iinc dX3_lettersTold_57 rfl rfl ?_
              refine zx_goto (tgt := 4) dX3_lettersTold_60 (by decide) ?_
              have hstep : zg_told w (s + 1) = (if 126 < zg_c w s ∨ (zg_c w s ≠ 0 ∧ t < s) then none else some (if zg_c w s ≠ 0 then t + 1 else t)) := by rw [zg_told, ht]
              rw [if_neg (by omega)] at hstep
              first
                | (rw [if_pos (by omega)] at hstep; exact ih (by omega) (t + 1) _ _ hstep)
                | (rw [if_neg (by omega)] at hstep; exact ih (by omega) t _ _ hstep)
          · refine zx_bipush (v := zn_I (-102)) dX3_lettersTold_46 (by decide) ?_
            refine zx_iret (st := []) dX3_lettersTold_48 rfl rfl ?_
            have hstep : zg_told w (s + 1) = (if 126 < zg_c w s ∨ (zg_c w s ≠ 0 ∧ t < s) then none else some (if zg_c w s ≠ 0 then t + 1 else t)) := by rw [zg_told, ht]
            rw [if_pos (by omega)] at hstep
            exact zk_I (by rw [zg_res, zg_told_none (show s + 1 ≤ 8 by omega) hstep])
      · refine zx_iload_n dX3_lettersTold_22 rfl ?_
        refine zx_iload_n dX3_lettersTold_23 rfl ?_
        refine zy_icmp_ge (tgt := 31) dX3_lettersTold_24 (by decide) (by omega) (fun h_24 => ?_) (fun h_24 => ?_)
        · refine zx_iconst (v := zn_I 0) dX3_lettersTold_31 rfl ?_
          refine zx_istore dX3_lettersTold_32 rfl (Nat.le_of_ble_eq_true rfl) ?_
          refine zx_iload dX3_lettersTold_34 rfl ?_
          refine zx_bipush (v := zn_I 126) dX3_lettersTold_36 (by decide) ?_
          refine zy_icmp_gt (tgt := 46) dX3_lettersTold_38 (by decide) (by omega) (fun h_38 => ?_) (fun h_38 => ?_)
          · refine zx_bipush (v := zn_I (-102)) dX3_lettersTold_46 (by decide) ?_
            refine zx_iret (st := []) dX3_lettersTold_48 rfl rfl ?_
            have hstep : zg_told w (s + 1) = (if 126 < zg_c w s ∨ (zg_c w s ≠ 0 ∧ t < s) then none else some (if zg_c w s ≠ 0 then t + 1 else t)) := by rw [zg_told, ht]
            rw [if_pos (by omega)] at hstep
            exact zk_I (by rw [zg_res, zg_told_none (show s + 1 ≤ 8 by omega) hstep])
          · refine zx_iload dX3_lettersTold_41 rfl ?_
            refine zy_if_eq (tgt := 49) dX3_lettersTold_43 (by decide) (by omega) (fun h_43 => ?_) (fun h_43 => ?_)
            · refine zx_iload dX3_lettersTold_49 rfl ?_
              refine zy_if_eq (tgt := 57) dX3_lettersTold_51 (by decide) (by omega) (fun h_51 => ?_) (fun h_51 => ?_)
              · refine zy_iinc dX3_lettersTold_57 rfl rfl ?_
                refine zx_goto (tgt := 4) dX3_lettersTold_60 (by decide) ?_
                have hstep : zg_told w (s + 1) = (if 126 < zg_c w s ∨ (zg_c w s ≠ 0 ∧ t < s) then none else some (if zg_c w s ≠ 0 then t + 1 else t)) := by rw [zg_told, ht]
                rw [if_neg (by omega)] at hstep
                first
                  | (rw [if_pos (by omega)] at hstep; exact ih (by omega) (t + 1) _ _ hstep)
                  | (rw [if_neg (by omega)] at hstep; exact ih (by omega) t _ _ hstep)
              · refine zy_iinc dX3_lettersTold_54 rfl rfl ?_
                refine zy_iinc dX3_lettersTold_57 rfl rfl ?_
                refine zx_goto (tgt := 4) dX3_lettersTold_60 (by decide) ?_
                have hstep : zg_told w (s + 1) = (if 126 < zg_c w s ∨ (zg_c w s ≠ 0 ∧ t < s) then none else some (if zg_c w s ≠ 0 then t + 1 else t)) := by rw [zg_told, ht]
                rw [if_neg (by omega)] at hstep
                first
                  | (rw [if_pos (by omega)] at hstep; exact ih (by omega) (t + 1) _ _ hstep)
                  | (rw [if_neg (by omega)] at hstep; exact ih (by omega) t _ _ hstep)
            · refine zx_bipush (v := zn_I (-102)) dX3_lettersTold_46 (by decide) ?_
              refine zx_iret (st := []) dX3_lettersTold_48 rfl rfl ?_
              have hstep : zg_told w (s + 1) = (if 126 < zg_c w s ∨ (zg_c w s ≠ 0 ∧ t < s) then none else some (if zg_c w s ≠ 0 then t + 1 else t)) := by rw [zg_told, ht]
              rw [if_pos (by omega)] at hstep
              exact zk_I (by rw [zg_res, zg_told_none (show s + 1 ≤ 8 by omega) hstep])
        · refine zx_iconst (v := zn_I 1) dX3_lettersTold_27 rfl ?_
          refine zx_goto (tgt := 32) dX3_lettersTold_28 (by decide) ?_
          refine zx_istore dX3_lettersTold_32 rfl (Nat.le_of_ble_eq_true rfl) ?_
          refine zx_iload dX3_lettersTold_34 rfl ?_
          refine zx_bipush (v := zn_I 126) dX3_lettersTold_36 (by decide) ?_
          refine zy_icmp_gt (tgt := 46) dX3_lettersTold_38 (by decide) (by omega) (fun h_38 => ?_) (fun h_38 => ?_)
          · refine zx_bipush (v := zn_I (-102)) dX3_lettersTold_46 (by decide) ?_
            refine zx_iret (st := []) dX3_lettersTold_48 rfl rfl ?_
            have hstep : zg_told w (s + 1) = (if 126 < zg_c w s ∨ (zg_c w s ≠ 0 ∧ t < s) then none else some (if zg_c w s ≠ 0 then t + 1 else t)) := by rw [zg_told, ht]
            rw [if_pos (by omega)] at hstep
            exact zk_I (by rw [zg_res, zg_told_none (show s + 1 ≤ 8 by omega) hstep])
          · refine zx_iload dX3_lettersTold_41 rfl ?_
            refine zy_if_eq (tgt := 49) dX3_lettersTold_43 (by decide) (by omega) (fun h_43 => ?_) (fun h_43 => ?_)
            · refine zx_iload dX3_lettersTold_49 rfl ?_
              refine zy_if_eq (tgt := 57) dX3_lettersTold_51 (by decide) (by omega) (fun h_51 => ?_) (fun h_51 => ?_)
              · refine zy_iinc dX3_lettersTold_57 rfl rfl ?_
                refine zx_goto (tgt := 4) dX3_lettersTold_60 (by decide) ?_
                have hstep : zg_told w (s + 1) = (if 126 < zg_c w s ∨ (zg_c w s ≠ 0 ∧ t < s) then none else some (if zg_c w s ≠ 0 then t + 1 else t)) := by rw [zg_told, ht]
                rw [if_neg (by omega)] at hstep
                first
                  | (rw [if_pos (by omega)] at hstep; exact ih (by omega) (t + 1) _ _ hstep)
                  | (rw [if_neg (by omega)] at hstep; exact ih (by omega) t _ _ hstep)
              · refine zy_iinc dX3_lettersTold_54 rfl rfl ?_
                refine zy_iinc dX3_lettersTold_57 rfl rfl ?_
                refine zx_goto (tgt := 4) dX3_lettersTold_60 (by decide) ?_
                have hstep : zg_told w (s + 1) = (if 126 < zg_c w s ∨ (zg_c w s ≠ 0 ∧ t < s) then none else some (if zg_c w s ≠ 0 then t + 1 else t)) := by rw [zg_told, ht]
                rw [if_neg (by omega)] at hstep
                first
                  | (rw [if_pos (by omega)] at hstep; exact ih (by omega) (t + 1) _ _ hstep)
                  | (rw [if_neg (by omega)] at hstep; exact ih (by omega) t _ _ hstep)
            · refine zx_bipush (v := zn_I (-102)) dX3_lettersTold_46 (by decide) ?_
              refine zx_iret (st := []) dX3_lettersTold_48 rfl rfl ?_
              have hstep : zg_told w (s + 1) = (if 126 < zg_c w s ∨ (zg_c w s ≠ 0 ∧ t < s) then none else some (if zg_c w s ≠ 0 then t + 1 else t)) := by rw [zg_told, ht]
              rw [if_pos (by omega)] at hstep
              exact zk_I (by rw [zg_res, zg_told_none (show s + 1 ≤ 8 by omega) hstep])
  refine zx_iconst (v := zn_I 0) dX3_lettersTold_0 rfl ?_
  refine zx_istore_n dX3_lettersTold_1 rfl (Nat.le_of_ble_eq_true rfl) ?_
  refine zx_iconst (v := zn_I 0) dX3_lettersTold_2 rfl ?_
  refine zx_istore_n dX3_lettersTold_3 rfl (Nat.le_of_ble_eq_true rfl) ?_
  exact loop 0 (by omega) 0 _ _ rfl
def zg_put (ρ : zR) (w t : Nat) : zR := (ρ.1 + t, fun i => if i < ρ.1 then ρ.2 i else zg_c w (i - ρ.1))
/-- what letters(w) answers, and the page behind it -/
def zg_addA (ρ : zR) (w : Nat) : Int := match zg_told w 8 with
  | none => -102
  | some t => if 40 < ρ.1 + t then -104 else ((ρ.1 + t : Nat) : Int)
def zg_addR (ρ : zR) (w : Nat) : zR := match zg_told w 8 with
  | none => ρ
  | some t => if 40 < ρ.1 + t then ρ else zg_put ρ w t
set_option maxRecDepth 100000 in
set_option maxHeartbeats 600000 in
theorem mX3_add {l : zw_Lh} {d : Nat} {M : zw_M} {ρ : zR} (hG : zG M ρ) {w : Nat} (hw : w < 2 ^ 64) : zw_C l (d + 2) iX3_add [.ref 1, .long (lN w)] M (fun v M1 => v = some (.int (zn_I (zg_addA ρ w))) ∧ zw_fr [1, 2] M M1 ∧ zG M1 (zg_addR ρ w)) := by
  obtain ⟨h40, hlen, hch, hcr⟩ := id hG
  have hrr : -102 ≤ zg_res w ∧ zg_res w ≤ 8 := by
    unfold zg_res
    cases e : zg_told w 8 with
    | none => exact ⟨by decide, by decide⟩
    | some t => have := (zg_told_some e).1; dsimp only; omega
  refine zw_of (by decide +kernel) (Nat.le_of_ble_eq_true rfl) ?_
  refine zy_loc (L1 := [.ref 1, .long (lN w), .retAddr 0, .retAddr 0, .retAddr 0]) rfl ?_
  refine zx_lload_n dX3_add_0 rfl ?_
  refine zx_callS (y1 := iX3_lettersTold) dX3_add_1 lX3_19 sX3_lettersTold (mX3_lettersTold hw) rfl rfl (Nat.le_of_ble_eq_true rfl) ?_
  refine zk_i ?_
  refine zx_istore_n dX3_add_4 rfl (Nat.le_of_ble_eq_true rfl) ?_
  refine zx_iload_n dX3_add_5 rfl ?_
  refine zx_bipush (v := zn_I (-102)) dX3_add_6 (by decide) ?_
  refine zy_icmp_ne (tgt := 14) dX3_add_8 (by decide) (by omega) (fun h_8 => ?_) (fun h_8 => ?_)
  · obtain ⟨t, ht⟩ : ∃ t, zg_told w 8 = some t := by
      cases e : zg_told w 8 with
      | none => exact absurd (by rw [zg_res, e]) h_8
      | some t => exact ⟨t, rfl⟩
    obtain ⟨ht8, htc⟩ := zg_told_some ht
    refine zy_loc (L1 := [.ref 1, .long (lN w), .retAddr 0, .int (zn_I (t : Int)), .retAddr 0]) (by rw [zg_res, ht]; rfl) ?_
    refine zx_aload_n dX3_add_14 rfl ?_
    refine zy_geti dX3_add_15 fX3_15 (hlen) ?_
    refine zx_iload_n dX3_add_18 rfl ?_
    refine zy_iadd dX3_add_19 ?_
    refine zx_bipush (v := zn_I 40) dX3_add_20 (by decide) ?_
    refine zy_icmp_le (tgt := 28) dX3_add_22 (by decide) (by omega) (fun h_22 => ?_) (fun h_22 => ?_)
    · have loop : ∀ s : Nat, s ≤ t → ∀ M1 : zw_M, zw_fr [2] M M1 → (∀ i, i < ρ.1 + s → M1.1 2 i = zn_I ((zg_put ρ w t).2 i : Nat)) → zw_X l (d + 2) iX3_add (fun v M1 => v = some (.int (zn_I (zg_addA ρ w))) ∧ zw_fr [1, 2] M M1 ∧ zG M1 (zg_addR ρ w)) 31 [.ref 1, .long (lN w), .retAddr 0, .int (zn_I (t : Int)), .int (zn_I (s : Int))] [] M1 := by
        refine zw_loop t (P := fun s => ∀ M1 : zw_M, zw_fr [2] M M1 → (∀ i, i < ρ.1 + s → M1.1 2 i = zn_I ((zg_put ρ w t).2 i : Nat)) → zw_X l (d + 2) iX3_add (fun v M1 => v = some (.int (zn_I (zg_addA ρ w))) ∧ zw_fr [1, 2] M M1 ∧ zG M1 (zg_addR ρ w)) 31 [.ref 1, .long (lN w), .retAddr 0, .int (zn_I (t : Int)), .int (zn_I (s : Int))] [] M1) (fun s hs ih M1 hf hq => ?_)
        have hlen1 : M1.1 1 1 = zn_I ρ.1 := by rw [(hf 1 (by decide)).1]; exact hlen
        refine zx_iload dX3_add_31 rfl ?_
        refine zx_iload_n dX3_add_33 rfl ?_
        refine zy_icmp_ge (tgt := 62) dX3_add_34 (by decide) (by omega) (fun h_34 => ?_) (fun h_34 => ?_)
        · refine zx_aload_n dX3_add_62 rfl ?_
          refine zx_dup dX3_add_63 rfl ?_
          refine zy_geti dX3_add_64 fX3_15 (hlen1) ?_
          refine zx_iload_n dX3_add_67 rfl ?_
          refine zy_iadd dX3_add_68 ?_
          refine zx_puti dX3_add_69 fX3_15 ?_
          refine zx_aload_n dX3_add_72 rfl ?_
          refine zy_geti dX3_add_73 fX3_15 ((show _ = zn_I ((ρ.1 : Int) + (t : Int)) from by simp [zw_s])) ?_
          refine zx_iret (st := []) dX3_add_76 rfl rfl ?_
          have es : s = t := by omega
          subst es
          refine ⟨?_, zf_s (zf_mono hf (by decide)) (by decide), ?_⟩
          · rw [zg_addA, ht]
            dsimp only
            rw [if_neg (by omega)]
            rfl
          · rw [zg_addR, ht]
            dsimp only
            rw [if_neg (by omega)]
            refine ⟨by show ρ.1 + s ≤ 40; omega, by simp [zw_s, zg_put], fun i hi => ?_, fun i hi => ?_⟩
            · have := hq i hi
              simpa [zw_s] using this
            · have hi2 : i < ρ.1 + s := hi
              show 1 ≤ (if i < ρ.1 then ρ.2 i else zg_c w (i - ρ.1)) ∧ (if i < ρ.1 then ρ.2 i else zg_c w (i - ρ.1)) ≤ 126
              by_cases e : i < ρ.1
              · rw [if_pos e]; exact hcr i e
              · rw [if_neg e]; exact htc _ (by omega)
        · refine zx_aload_n dX3_add_37 rfl ?_
          refine zx_getr dX3_add_38 fX3_9 ?_
          refine zx_aload_n dX3_add_41 rfl ?_
          refine zy_geti dX3_add_42 fX3_15 (hlen1) ?_
          refine zx_iload dX3_add_45 rfl ?_
          refine zy_iadd dX3_add_47 ?_
          refine zx_lload_n dX3_add_48 rfl ?_
          refine zx_iload dX3_add_49 rfl ?_
          refine zx_callS (y1 := iX3_codeAt) dX3_add_51 lX3_23 sX3_codeAt (mX3_codeAt hw (i := s) (by omega)) rfl rfl (Nat.le_of_ble_eq_true rfl) ?_
          refine zk_i ?_
          refine zx_i2c dX3_add_54 ?_
          refine zy_cast (i := ρ.1 + s) dX3_add_55 rfl (by decide) (by omega) (by omega) ?_
          rw [zg_char (by have := zg_c_lt w s; omega)]
          refine zy_iinc dX3_add_56 rfl rfl ?_
          refine zx_goto (tgt := 31) dX3_add_59 (by decide) ?_
          refine ih (by omega) _ (zf_s hf (by decide)) (fun i hi => ?_)
          by_cases e : i = ρ.1 + s
          · subst e; simp [zw_s, zg_put, show ¬ (ρ.1 + s < ρ.1) by omega]
          · have := hq i (by omega)
            simp [zw_s, e, this]
      refine zx_iconst (v := zn_I 0) dX3_add_28 rfl ?_
      refine zx_istore dX3_add_29 rfl (Nat.le_of_ble_eq_true rfl) ?_
      exact loop 0 (by omega) M zf_rf (fun i hi => by
        have hi2 : i < ρ.1 := by omega
        show _ = zn_I ((if i < ρ.1 then ρ.2 i else zg_c w (i - ρ.1) : Nat) : Int)
        rw [if_pos hi2]
        exact hch i hi2)
    · refine zx_bipush (v := zn_I (-104)) dX3_add_25 (by decide) ?_
      refine zx_iret (st := []) dX3_add_27 rfl rfl ?_
      refine ⟨?_, zf_rf, ?_⟩
      · rw [zg_addA, ht]; dsimp only; rw [if_pos (by omega)]
      · rw [zg_addR, ht]; dsimp only; rw [if_pos (by omega)]; exact hG
  · refine zx_bipush (v := zn_I (-102)) dX3_add_11 (by decide) ?_
    refine zx_iret (st := []) dX3_add_13 rfl rfl ?_
    refine ⟨?_, zf_rf, ?_⟩
    · rw [zg_addA]
      cases e : zg_told w 8 with
      | none => rfl
      | some t => rw [zg_res, e] at h_8; have : (t : Int) = -102 := h_8; omega
    · rw [zg_addR]
      cases e : zg_told w 8 with
      | none => exact hG
      | some t => rw [zg_res, e] at h_8; have : (t : Int) = -102 := h_8; omega
set_option maxRecDepth 100000 in
set_option maxHeartbeats 600000 in
theorem mX3_wayAt {l : zw_Lh} {d : Nat} {M : zw_M} {ρ : zR} (hG : zG M ρ) {z : Int} (hz : -2147483648 ≤ z ∧ z < 2147483648) : zw_C l (d + 1) iX3_wayAt [.ref 1, .int (zn_I z)] M (zw_i (zn_I (zg_way (zg_at ρ z))) M) := by
  obtain ⟨h40, hlen, hch, hcr⟩ := id hG
  have hal := zg_at_lt hG z
  refine zw_of (by decide +kernel) (Nat.le_of_ble_eq_true rfl) ?_
  refine zy_loc (L1 := [.ref 1, .int (zn_I z)]) rfl ?_
  refine zx_aload_n dX3_wayAt_0 rfl ?_
  refine zx_iload_n dX3_wayAt_1 rfl ?_
  refine zx_callV (y1 := iX3_letter) dX3_wayAt_2 lX3_37 vX3_letter rc_1 (mX3_letter hG hz) rfl rfl (Nat.le_of_ble_eq_true rfl) ?_
  refine zk_i ?_
  rcases (show zg_at ρ z = 101 ∨ zg_at ρ z = 110 ∨ zg_at ρ z = 115 ∨ zg_at ρ z = 119 ∨ (zg_at ρ z ≠ 101 ∧ zg_at ρ z ≠ 110 ∧ zg_at ρ z ≠ 115 ∧ zg_at ρ z ≠ 119) by omega) with h_5 | h_5 | h_5 | h_5 | h_5
  · refine zx_lookup (off := 45) (tgt := 50) dX3_wayAt_5 (by decide) (by rw [zn_toInt ⟨by omega, by omega⟩]; show Op.lookupswitch.offset [(101, 45), (110, 43), (115, 47), (119, 49)] (51) _ = _; simp only [Op.lookupswitch.offset_cons, Op.lookupswitch.offset_nil]; (repeat' split) <;> omega) (by decide) ?_
    refine zx_iconst (v := zn_I 2) dX3_wayAt_50 rfl ?_
    refine zx_iret (st := []) dX3_wayAt_51 rfl rfl ?_
    exact zk_I (by unfold zg_way; (repeat' split) <;> omega)
  · refine zx_lookup (off := 43) (tgt := 48) dX3_wayAt_5 (by decide) (by rw [zn_toInt ⟨by omega, by omega⟩]; show Op.lookupswitch.offset [(101, 45), (110, 43), (115, 47), (119, 49)] (51) _ = _; simp only [Op.lookupswitch.offset_cons, Op.lookupswitch.offset_nil]; (repeat' split) <;> omega) (by decide) ?_
    refine zx_iconst (v := zn_I 1) dX3_wayAt_48 rfl ?_
    refine zx_iret (st := []) dX3_wayAt_49 rfl rfl ?_
    exact zk_I (by unfold zg_way; (repeat' split) <;> omega)
  · refine zx_lookup (off := 47) (tgt := 52) dX3_wayAt_5 (by decide) (by rw [zn_toInt ⟨by omega, by omega⟩]; show Op.lookupswitch.offset [(101, 45), (110, 43), (115, 47), (119, 49)] (51) _ = _; simp only [Op.lookupswitch.offset_cons, Op.lookupswitch.offset_nil]; (repeat' split) <;> omega) (by decide) ?_
    refine zx_iconst (v := zn_I 3) dX3_wayAt_52 rfl ?_
    refine zx_iret (st := []) dX3_wayAt_53 rfl rfl ?_
    exact zk_I (by unfold zg_way; (repeat' split) <;> omega)
  · refine zx_lookup (off := 49) (tgt := 54) dX3_wayAt_5 (by decide) (by rw [zn_toInt ⟨by omega, by omega⟩]; show Op.lookupswitch.offset [(101, 45), (110, 43), (115, 47), (119, 49)] (51) _ = _; simp only [Op.lookupswitch.offset_cons, Op.lookupswitch.offset_nil]; (repeat' split) <;> omega) (by decide) ?_
    refine zx_iconst (v := zn_I 4) dX3_wayAt_54 rfl ?_
    refine zx_iret (st := []) dX3_wayAt_55 rfl rfl ?_
    exact zk_I (by unfold zg_way; (repeat' split) <;> omega)
  · refine zx_lookup (off := 51) (tgt := 56) dX3_wayAt_5 (by decide) (by rw [zn_toInt ⟨by omega, by omega⟩]; show Op.lookupswitch.offset [(101, 45), (110, 43), (115, 47), (119, 49)] (51) _ = _; simp only [Op.lookupswitch.offset_cons, Op.lookupswitch.offset_nil]; (repeat' split) <;> omega) (by decide) ?_
    refine zx_iconst (v := zn_I 0) dX3_wayAt_56 rfl ?_
    refine zx_iret (st := []) dX3_wayAt_57 rfl rfl ?_
    exact zk_I (by unfold zg_way; (repeat' split) <;> omega)
theorem zg_way_rng (c : Nat) : 0 ≤ zg_way c ∧ zg_way c ≤ 4 := by
  unfold zg_way
  (repeat' split) <;> omega
set_option maxRecDepth 100000 in
set_option maxHeartbeats 600000 in
theorem mX3_wayFault {l : zw_Lh} {d : Nat} {M : zw_M} {ρ : zR} (hG : zG M ρ) : zw_C l (d + 2) iX3_wayFault [.ref 1] M (zw_i (zn_I (zg_wf ρ ρ.1 : Nat)) M) := by
  obtain ⟨h40, hlen, hch, hcr⟩ := id hG
  refine zw_of (by decide +kernel) (Nat.le_of_ble_eq_true rfl) ?_
  refine zy_loc (L1 := [.ref 1, .retAddr 0]) rfl ?_
  have loop : ∀ s : Nat, s ≤ ρ.1 → zg_wf ρ s = s → zw_X l (d + 2) iX3_wayFault (zw_i (zn_I (zg_wf ρ ρ.1 : Nat)) M) 2 [.ref 1, .int (zn_I (s : Int))] [] M := by
    refine zw_loop ρ.1 (P := fun s => zg_wf ρ s = s → zw_X l (d + 2) iX3_wayFault (zw_i (zn_I (zg_wf ρ ρ.1 : Nat)) M) 2 [.ref 1, .int (zn_I (s : Int))] [] M) (fun s hs ih hw => ?_)
    refine zx_iload_n dX3_wayFault_2 rfl ?_
    refine zx_aload_n dX3_wayFault_3 rfl ?_
    refine zy_geti dX3_wayFault_4 fX3_15 (hlen) ?_
    refine zy_icmp_ge (tgt := 32) dX3_wayFault_7 (by decide) (by omega) (fun h_7 => ?_) (fun h_7 => ?_)
    · refine zx_aload_n dX3_wayFault_32 rfl ?_
      refine zy_geti dX3_wayFault_33 fX3_15 (hlen) ?_
      refine zx_iret (st := []) dX3_wayFault_36 rfl rfl ?_
      exact zk_I (by rw [show ρ.1 = s by omega, hw])
    · refine zx_iload_n dX3_wayFault_10 rfl ?_
      refine zx_bipush (v := zn_I 7) dX3_wayFault_11 (by decide) ?_
      refine zy_icmp_ge (tgt := 24) dX3_wayFault_13 (by decide) (by omega) (fun h_13 => ?_) (fun h_13 => ?_)
      · refine zx_iload_n dX3_wayFault_24 rfl ?_
        refine zx_iret (st := []) dX3_wayFault_25 rfl rfl ?_
        exact zk_I (by rw [zg_wf_stop hw (by omega) ρ.1 (by omega)])
      · refine zx_aload_n dX3_wayFault_16 rfl ?_
        refine zx_iload_n dX3_wayFault_17 rfl ?_
        refine zx_callV (y1 := iX3_wayAt) dX3_wayFault_18 lX3_33 vX3_wayAt rc_1 (mX3_wayAt hG (z := (s : Int)) (by omega)) rfl rfl (Nat.le_of_ble_eq_true rfl) ?_
        refine zk_i ?_
        rw [zg_at_in (show s < ρ.1 by omega)]
        have hwr := zg_way_rng (ρ.2 s)
        refine zy_if_ne (tgt := 26) dX3_wayFault_21 (by decide) (by omega) (fun h_21 => ?_) (fun h_21 => ?_)
        · refine zy_iinc dX3_wayFault_26 rfl rfl ?_
          refine zx_goto (tgt := 2) dX3_wayFault_29 (by decide) ?_
          exact ih (by omega) (by rw [zg_wf, if_neg (by omega), if_pos (by omega)])
        · refine zx_iload_n dX3_wayFault_24 rfl ?_
          refine zx_iret (st := []) dX3_wayFault_25 rfl rfl ?_
          exact zk_I (by rw [zg_wf_stop hw (by omega) ρ.1 (by omega)])
  refine zx_iconst (v := zn_I 0) dX3_wayFault_0 rfl ?_
  refine zx_istore_n dX3_wayFault_1 rfl (Nat.le_of_ble_eq_true rfl) ?_
  exact loop 0 (by omega) rfl
end
section
theorem zn_Bn {p : Prop} [Decidable p] : narrow .boolean (.int (zn_B p)) = .int (zn_B p) := by
  unfold zn_B
  split <;> rfl
/-! THE PLAN'S TEXT: rows, columns, how many in this row; none: the letter may not come -/
abbrev zA : Type := Nat × Nat × Nat
def zq_take (σ : zA) (c : Nat) : Option zA :=
  if c = 47 then (if ((σ.1 = 1 ∧ 2 ≤ σ.2.2) ∨ (σ.1 ≠ 1 ∧ σ.2.2 = σ.2.1)) ∧ σ.1 < 5 then some (σ.1 + 1, σ.2.2, 0) else none)
  else if (c = 46 ∨ (49 ≤ c ∧ c ≤ 57)) ∧ ((σ.1 = 1 ∧ σ.2.2 < 6) ∨ (σ.1 ≠ 1 ∧ σ.2.2 < σ.2.1)) then some (σ.1, σ.2.1, σ.2.2 + 1) else none
def zq_ok (σ : zA) : Prop := 1 ≤ σ.1 ∧ σ.1 ≤ 5 ∧ σ.2.1 ≤ 6 ∧ σ.2.2 ≤ 6
theorem zq_take_ok {σ σ' : zA} {c : Nat} (h : zq_ok σ) (e : zq_take σ c = some σ') : zq_ok σ' := by
  unfold zq_ok at *
  unfold zq_take at e
  split at e
  · split at e
    · cases e; dsimp only; omega
    · cases e
  · split at e
    · cases e; dsimp only; omega
    · cases e
/-- how many letters are taken, and what stands then -/
def zq_go (ρ : zR) : Nat → Nat × zA
  | 0 => (0, (1, 0, 0))
  | i + 1 => if (zq_go ρ i).1 < i then zq_go ρ i else match zq_take (zq_go ρ i).2 (ρ.2 i) with
    | none => zq_go ρ i
    | some σ => (i + 1, σ)
theorem zq_go_le (ρ : zR) : ∀ i, (zq_go ρ i).1 ≤ i
  | 0 => Nat.le_refl 0
  | i + 1 => by
    have := zq_go_le ρ i
    rw [zq_go]
    split
    · omega
    · split
      · omega
      · exact Nat.le_refl _
theorem zq_go_ok (ρ : zR) : ∀ i, zq_ok (zq_go ρ i).2
  | 0 => by simp [zq_go, zq_ok]
  | i + 1 => by
    have ih := zq_go_ok ρ i
    rw [zq_go]
    split
    · exact ih
    · split
      · exact ih
      · next e => exact zq_take_ok ih e
theorem zq_go_stop {ρ : zR} {i : Nat} (h : (zq_go ρ i).1 = i) (h2 : zq_take (zq_go ρ i).2 (ρ.2 i) = none) : ∀ j, i ≤ j → zq_go ρ j = zq_go ρ i
  | 0, q => by
    have : i = 0 := by omega
    subst this
    rfl
  | j + 1, q => by
    rcases Nat.lt_or_ge i (j + 1) with r | r
    · have ih := zq_go_stop h h2 j (by omega)
      rw [zq_go, ih]
      rcases Nat.lt_or_ge i j with r2 | r2
      · rw [if_pos (by omega)]
      · have : j = i := by omega
        subst this
        rw [h, if_neg (Nat.lt_irrefl _), h2]
    · have : i = j + 1 := by omega
      subst this
      rfl
theorem zq_go_next {ρ : zR} {i : Nat} {σ : zA} (h : (zq_go ρ i).1 = i) (h2 : zq_take (zq_go ρ i).2 (ρ.2 i) = some σ) : zq_go ρ (i + 1) = (i + 1, σ) := by
  rw [zq_go, if_neg (by omega), h2]
/-- the plan's text is whole -/
abbrev zq_whole (ρ : zR) : Prop := (zq_go ρ ρ.1).1 = ρ.1 ∧ 2 ≤ (zq_go ρ ρ.1).2.1 ∧ (zq_go ρ ρ.1).2.2.2 = (zq_go ρ ρ.1).2.2.1
def zq (M : zw_M) (σ : zA) : Prop := M.1 3 0 = zn_I σ.1 ∧ M.1 3 1 = zn_I σ.2.1 ∧ M.1 3 2 = zn_I σ.2.2
set_option maxRecDepth 100000 in
set_option maxHeartbeats 600000 in
theorem mX4_rows {l : zw_Lh} {d : Nat} {M : zw_M} {σ : zA} (hq : zq M σ) (hok : zq_ok σ) : zw_C l d iX4_rows [.ref 3] M (zw_i (zn_I σ.1) M) := by
  refine zw_of (by decide +kernel) (Nat.le_of_ble_eq_true rfl) ?_
  refine zy_loc (L1 := [.ref 3]) rfl ?_
  refine zx_aload_n dX4_rows_0 rfl ?_
  refine zy_geti dX4_rows_1 fX4_9 (hq.1) ?_
  refine zx_iret (st := []) dX4_rows_4 rfl rfl ?_
  exact ⟨rfl, rfl⟩
set_option maxRecDepth 100000 in
set_option maxHeartbeats 600000 in
theorem mX4_columns {l : zw_Lh} {d : Nat} {M : zw_M} {σ : zA} (hq : zq M σ) (hok : zq_ok σ) : zw_C l d iX4_columns [.ref 3] M (zw_i (zn_I σ.2.1) M) := by
  refine zw_of (by decide +kernel) (Nat.le_of_ble_eq_true rfl) ?_
  refine zy_loc (L1 := [.ref 3]) rfl ?_
  refine zx_aload_n dX4_columns_0 rfl ?_
  refine zy_geti dX4_columns_1 fX4_15 (hq.2.1) ?_
  refine zx_iret (st := []) dX4_columns_4 rfl rfl ?_
  exact ⟨rfl, rfl⟩
set_option maxRecDepth 100000 in
set_option maxHeartbeats 600000 in
theorem mX4_endsRow {l : zw_Lh} {d : Nat} {M : zw_M} {σ : zA} (hq : zq M σ) (hok : zq_ok σ) : zw_C l d iX4_endsRow [.ref 3] M (fun v M1 => v = some (.int (zn_B ((zq_take σ 47).isSome = true))) ∧ zw_fr [3] M M1 ∧ zq M1 ((zq_take σ 47).getD σ)) := by
  obtain ⟨k1, k2, k3, k4⟩ := id hok
  refine zw_of (by decide +kernel) (Nat.le_of_ble_eq_true rfl) ?_
  refine zy_loc (L1 := [.ref 3, .retAddr 0]) rfl ?_
  refine zx_aload_n dX4_endsRow_0 rfl ?_
  refine zy_geti dX4_endsRow_1 fX4_9 (hq.1) ?_
  refine zx_iconst (v := zn_I 1) dX4_endsRow_4 rfl ?_
  refine zy_icmp_ne (tgt := 24) dX4_endsRow_5 (by decide) (by omega) (fun h_5 => ?_) (fun h_5 => ?_)
  · refine zx_aload_n dX4_endsRow_24 rfl ?_
    refine zy_geti dX4_endsRow_25 fX4_28 (hq.2.2) ?_
    refine zx_aload_n dX4_endsRow_28 rfl ?_
    refine zy_geti dX4_endsRow_29 fX4_15 (hq.2.1) ?_
    refine zy_icmp_ne (tgt := 39) dX4_endsRow_32 (by decide) (by omega) (fun h_32 => ?_) (fun h_32 => ?_)
    · refine zx_iconst (v := zn_I 0) dX4_endsRow_39 rfl ?_
      refine zx_istore_n dX4_endsRow_40 rfl (Nat.le_of_ble_eq_true rfl) ?_
      refine zx_iload_n dX4_endsRow_41 rfl ?_
      refine zy_if_eq (tgt := 53) dX4_endsRow_42 (by decide) (by omega) (fun h_42 => ?_) (fun h_42 => ?_)
      · refine zx_iconst (v := zn_I 0) dX4_endsRow_53 rfl ?_
        refine zx_iret (st := []) dX4_endsRow_54 rfl rfl ?_
        have e : zq_take σ 47 = none := by unfold zq_take; (repeat' split) <;> first | rfl | (exfalso; omega)
        rw [e]
        exact ⟨by rw [zn_B, if_neg (by simp)], zf_rf, hq⟩
      · refine zx_aload_n dX4_endsRow_45 rfl ?_
        refine zy_geti dX4_endsRow_46 fX4_9 (hq.1) ?_
        refine zx_iconst (v := zn_I 5) dX4_endsRow_49 rfl ?_
        refine zy_icmp_lt (tgt := 55) dX4_endsRow_50 (by decide) (by omega) (fun h_50 => ?_) (fun h_50 => ?_)
        · refine zx_aload_n dX4_endsRow_55 rfl ?_
          refine zx_aload_n dX4_endsRow_56 rfl ?_
          refine zy_geti dX4_endsRow_57 fX4_28 (hq.2.2) ?_
          refine zx_puti dX4_endsRow_60 fX4_15 ?_
          refine zx_aload_n dX4_endsRow_63 rfl ?_
          refine zx_dup dX4_endsRow_64 rfl ?_
          refine zy_geti dX4_endsRow_65 fX4_9 (hq.1) ?_
          refine zx_iconst (v := zn_I 1) dX4_endsRow_68 rfl ?_
          refine zy_iadd dX4_endsRow_69 ?_
          refine zx_puti dX4_endsRow_70 fX4_9 ?_
          refine zx_aload_n dX4_endsRow_73 rfl ?_
          refine zx_iconst (v := zn_I 0) dX4_endsRow_74 rfl ?_
          refine zx_puti dX4_endsRow_75 fX4_28 ?_
          refine zx_iconst (v := zn_I 1) dX4_endsRow_78 rfl ?_
          refine zx_iret (st := []) dX4_endsRow_79 rfl rfl ?_
          have e : zq_take σ 47 = some (σ.1 + 1, σ.2.2, 0) := by unfold zq_take; (repeat' split) <;> first | rfl | (exfalso; omega)
          rw [e]
          refine ⟨by rw [zn_B, if_pos (by simp)], ?_, ?_⟩
          · (repeat' apply zf_s) <;> first | exact zf_rf | decide
          · refine ⟨?_, ?_, ?_⟩ <;> simp [zw_s, hq.1, hq.2.1, hq.2.2]
        · refine zx_iconst (v := zn_I 0) dX4_endsRow_53 rfl ?_
          refine zx_iret (st := []) dX4_endsRow_54 rfl rfl ?_
          have e : zq_take σ 47 = none := by unfold zq_take; (repeat' split) <;> first | rfl | (exfalso; omega)
          rw [e]
          exact ⟨by rw [zn_B, if_neg (by simp)], zf_rf, hq⟩
    · refine zx_iconst (v := zn_I 1) dX4_endsRow_35 rfl ?_
      refine zx_goto (tgt := 40) dX4_endsRow_36 (by decide) ?_
      refine zx_istore_n dX4_endsRow_40 rfl (Nat.le_of_ble_eq_true rfl) ?_
      refine zx_iload_n dX4_endsRow_41 rfl ?_
      refine zy_if_eq (tgt := 53) dX4_endsRow_42 (by decide) (by omega) (fun h_42 => ?_) (fun h_42 => ?_)
      · refine zx_iconst (v := zn_I 0) dX4_endsRow_53 rfl ?_
        refine zx_iret (st := []) dX4_endsRow_54 rfl rfl ?_
        have e : zq_take σ 47 = none := by unfold zq_take; (repeat' split) <;> first | rfl | (exfalso; omega)
        rw [e]
        exact ⟨by rw [zn_B, if_neg (by simp)], zf_rf, hq⟩
      · refine zx_aload_n dX4_endsRow_45 rfl ?_
        refine zy_geti dX4_endsRow_46 fX4_9 (hq.1) ?_
        refine zx_iconst (v := zn_I 5) dX4_endsRow_49 rfl ?_
        refine zy_icmp_lt (tgt := 55) dX4_endsRow_50 (by decide) (by omega) (fun h_50 => ?_) (fun h_50 => ?_)
        · refine zx_aload_n dX4_endsRow_55 rfl ?_
          refine zx_aload_n dX4_endsRow_56 rfl ?_
          refine zy_geti dX4_endsRow_57 fX4_28 (hq.2.2) ?_
          refine zx_puti dX4_endsRow_60 fX4_15 ?_
          refine zx_aload_n dX4_endsRow_63 rfl ?_
          refine zx_dup dX4_endsRow_64 rfl ?_
          refine zy_geti dX4_endsRow_65 fX4_9 (hq.1) ?_
          refine zx_iconst (v := zn_I 1) dX4_endsRow_68 rfl ?_
          refine zy_iadd dX4_endsRow_69 ?_
          refine zx_puti dX4_endsRow_70 fX4_9 ?_
          refine zx_aload_n dX4_endsRow_73 rfl ?_
          refine zx_iconst (v := zn_I 0) dX4_endsRow_74 rfl ?_
          refine zx_puti dX4_endsRow_75 fX4_28 ?_
          refine zx_iconst (v := zn_I 1) dX4_endsRow_78 rfl ?_
          refine zx_iret (st := []) dX4_endsRow_79 rfl rfl ?_
          have e : zq_take σ 47 = some (σ.1 + 1, σ.2.2, 0) := by unfold zq_take; (repeat' split) <;> first | rfl | (exfalso; omega)
          rw [e]
          refine ⟨by rw [zn_B, if_pos (by simp)], ?_, ?_⟩
          · (repeat' apply zf_s) <;> first | exact zf_rf | decide
          · refine ⟨?_, ?_, ?_⟩ <;> simp [zw_s, hq.1, hq.2.1, hq.2.2]
        · refine zx_iconst (v := zn_I 0) dX4_endsRow_53 rfl ?_
          refine zx_iret (st := []) dX4_endsRow_54 rfl rfl ?_
          have e : zq_take σ 47 = none := by unfold zq_take; (repeat' split) <;> first | rfl | (exfalso; omega)
          rw [e]
          exact ⟨by rw [zn_B, if_neg (by simp)], zf_rf, hq⟩
  · refine zx_aload_n dX4_endsRow_8 rfl ?_
    refine zy_geti dX4_endsRow_9 fX4_28 (hq.2.2) ?_
    refine zx_iconst (v := zn_I 2) dX4_endsRow_12 rfl ?_
    refine zy_icmp_lt (tgt := 20) dX4_endsRow_13 (by decide) (by omega) (fun h_13 => ?_) (fun h_13 => ?_)
    · refine zx_iconst (v := zn_I 0) dX4_endsRow_20 rfl ?_
      refine zx_goto (tgt := 40) dX4_endsRow_21 (by decide) ?_
      refine zx_istore_n dX4_endsRow_40 rfl (Nat.le_of_ble_eq_true rfl) ?_
      refine zx_iload_n dX4_endsRow_41 rfl ?_
      refine zy_if_eq (tgt := 53) dX4_endsRow_42 (by decide) (by omega) (fun h_42 => ?_) (fun h_42 => ?_)
      · refine zx_iconst (v := zn_I 0) dX4_endsRow_53 rfl ?_
        refine zx_iret (st := []) dX4_endsRow_54 rfl rfl ?_
        have e : zq_take σ 47 = none := by unfold zq_take; (repeat' split) <;> first | rfl | (exfalso; omega)
        rw [e]
        exact ⟨by rw [zn_B, if_neg (by simp)], zf_rf, hq⟩
      · refine zx_aload_n dX4_endsRow_45 rfl ?_
        refine zy_geti dX4_endsRow_46 fX4_9 (hq.1) ?_
        refine zx_iconst (v := zn_I 5) dX4_endsRow_49 rfl ?_
        refine zy_icmp_lt (tgt := 55) dX4_endsRow_50 (by decide) (by omega) (fun h_50 => ?_) (fun h_50 => ?_)
        · refine zx_aload_n dX4_endsRow_55 rfl ?_
          refine zx_aload_n dX4_endsRow_56 rfl ?_
          refine zy_geti dX4_endsRow_57 fX4_28 (hq.2.2) ?_
          refine zx_puti dX4_endsRow_60 fX4_15 ?_
          refine zx_aload_n dX4_endsRow_63 rfl ?_
          refine zx_dup dX4_endsRow_64 rfl ?_
          refine zy_geti dX4_endsRow_65 fX4_9 (hq.1) ?_
          refine zx_iconst (v := zn_I 1) dX4_endsRow_68 rfl ?_
          refine zy_iadd dX4_endsRow_69 ?_
          refine zx_puti dX4_endsRow_70 fX4_9 ?_
          refine zx_aload_n dX4_endsRow_73 rfl ?_
          refine zx_iconst (v := zn_I 0) dX4_endsRow_74 rfl ?_
          refine zx_puti dX4_endsRow_75 fX4_28 ?_
          refine zx_iconst (v := zn_I 1) dX4_endsRow_78 rfl ?_
          refine zx_iret (st := []) dX4_endsRow_79 rfl rfl ?_
          have e : zq_take σ 47 = some (σ.1 + 1, σ.2.2, 0) := by unfold zq_take; (repeat' split) <;> first | rfl | (exfalso; omega)
          rw [e]
          refine ⟨by rw [zn_B, if_pos (by simp)], ?_, ?_⟩
          · (repeat' apply zf_s) <;> first | exact zf_rf | decide
          · refine ⟨?_, ?_, ?_⟩ <;> simp [zw_s, hq.1, hq.2.1, hq.2.2]
        · refine zx_iconst (v := zn_I 0) dX4_endsRow_53 rfl ?_
          refine zx_iret (st := []) dX4_endsRow_54 rfl rfl ?_
          have e : zq_take σ 47 = none := by unfold zq_take; (repeat' split) <;> first | rfl | (exfalso; omega)
          rw [e]
          exact ⟨by rw [zn_B, if_neg (by simp)], zf_rf, hq⟩
    · refine zx_iconst (v := zn_I 1) dX4_endsRow_16 rfl ?_
      refine zx_goto (tgt := 40) dX4_endsRow_17 (by decide) ?_
      refine zx_istore_n dX4_endsRow_40 rfl (Nat.le_of_ble_eq_true rfl) ?_
      refine zx_iload_n dX4_endsRow_41 rfl ?_
      refine zy_if_eq (tgt := 53) dX4_endsRow_42 (by decide) (by omega) (fun h_42 => ?_) (fun h_42 => ?_)
      · refine zx_iconst (v := zn_I 0) dX4_endsRow_53 rfl ?_
        refine zx_iret (st := []) dX4_endsRow_54 rfl rfl ?_
        have e : zq_take σ 47 = none := by unfold zq_take; (repeat' split) <;> first | rfl | (exfalso; omega)
        rw [e]
        exact ⟨by rw [zn_B, if_neg (by simp)], zf_rf, hq⟩
      · refine zx_aload_n dX4_endsRow_45 rfl ?_
        refine zy_geti dX4_endsRow_46 fX4_9 (hq.1) ?_
        refine zx_iconst (v := zn_I 5) dX4_endsRow_49 rfl ?_
        refine zy_icmp_lt (tgt := 55) dX4_endsRow_50 (by decide) (by omega) (fun h_50 => ?_) (fun h_50 => ?_)
        · refine zx_aload_n dX4_endsRow_55 rfl ?_
          refine zx_aload_n dX4_endsRow_56 rfl ?_
          refine zy_geti dX4_endsRow_57 fX4_28 (hq.2.2) ?_
          refine zx_puti dX4_endsRow_60 fX4_15 ?_
          refine zx_aload_n dX4_endsRow_63 rfl ?_
          refine zx_dup dX4_endsRow_64 rfl ?_
          refine zy_geti dX4_endsRow_65 fX4_9 (hq.1) ?_
          refine zx_iconst (v := zn_I 1) dX4_endsRow_68 rfl ?_
          refine zy_iadd dX4_endsRow_69 ?_
          refine zx_puti dX4_endsRow_70 fX4_9 ?_
          refine zx_aload_n dX4_endsRow_73 rfl ?_
          refine zx_iconst (v := zn_I 0) dX4_endsRow_74 rfl ?_
          refine zx_puti dX4_endsRow_75 fX4_28 ?_
          refine zx_iconst (v := zn_I 1) dX4_endsRow_78 rfl ?_
          refine zx_iret (st := []) dX4_endsRow_79 rfl rfl ?_
          have e : zq_take σ 47 = some (σ.1 + 1, σ.2.2, 0) := by unfold zq_take; (repeat' split) <;> first | rfl | (exfalso; omega)
          rw [e]
          refine ⟨by rw [zn_B, if_pos (by simp)], ?_, ?_⟩
          · (repeat' apply zf_s) <;> first | exact zf_rf | decide
          · refine ⟨?_, ?_, ?_⟩ <;> simp [zw_s, hq.1, hq.2.1, hq.2.2]
        · refine zx_iconst (v := zn_I 0) dX4_endsRow_53 rfl ?_
          refine zx_iret (st := []) dX4_endsRow_54 rfl rfl ?_
          have e : zq_take σ 47 = none := by unfold zq_take; (repeat' split) <;> first | rfl | (exfalso; omega)
          rw [e]
          exact ⟨by rw [zn_B, if_neg (by simp)], zf_rf, hq⟩
set_option maxRecDepth 100000 in
set_option maxHeartbeats 600000 in
theorem mX4_takes {l : zw_Lh} {d : Nat} {M : zw_M} {σ : zA} (hq : zq M σ) (hok : zq_ok σ) {c : Nat} (hc : c ≤ 126) : zw_C l (d + 1) iX4_takes [.ref 3, .int (zn_I (c : Int))] M (fun v M1 => v = some (.int (zn_B ((zq_take σ c).isSome = true))) ∧ zw_fr [3] M M1 ∧ zq M1 ((zq_take σ c).getD σ)) := by
  obtain ⟨k1, k2, k3, k4⟩ := id hok
  refine zw_of (by decide +kernel) (Nat.le_of_ble_eq_true rfl) ?_
  refine zy_loc (L1 := [.ref 3, .int (zn_I (c : Int)), .retAddr 0, .retAddr 0]) rfl ?_
  have J : c ≠ 47 → zw_X l (d + 1) iX4_takes (fun v M1 => v = some (.int (zn_B ((zq_take σ c).isSome = true))) ∧ zw_fr [3] M M1 ∧ zq M1 ((zq_take σ c).getD σ)) 34 [.ref 3, .int (zn_I (c : Int)), .retAddr 0, .retAddr 0] [.int (zn_B (c = 46 ∨ (49 ≤ c ∧ c ≤ 57)))] M := by
    intro hc47
    refine zx_istore_n dX4_takes_34 rfl (Nat.le_of_ble_eq_true rfl) ?_
    refine zx_aload_n dX4_takes_35 rfl ?_
    refine zy_geti dX4_takes_36 fX4_9 (hq.1) ?_
    refine zx_iconst (v := zn_I 1) dX4_takes_39 rfl ?_
    refine zy_icmp_ne (tgt := 48) dX4_takes_40 (by decide) (by omega) (fun h_40 => ?_) (fun h_40 => ?_)
    · refine zx_aload_n dX4_takes_48 rfl ?_
      refine zy_geti dX4_takes_49 fX4_15 (hq.2.1) ?_
      refine zx_istore_n dX4_takes_52 rfl (Nat.le_of_ble_eq_true rfl) ?_
      refine zx_iload_n dX4_takes_53 rfl ?_
      refine zy_ifB_eq (tgt := 65) dX4_takes_54 (by decide) (fun h_54 => ?_) (fun h_54 => ?_)
      · refine zx_iconst (v := zn_I 0) dX4_takes_65 rfl ?_
        refine zx_iret (st := []) dX4_takes_66 rfl rfl ?_
        have e : zq_take σ c = none := by unfold zq_take; (repeat' split) <;> first | rfl | (exfalso; omega)
        rw [e]
        exact ⟨by rw [zn_B, if_neg (by simp)], zf_rf, hq⟩
      · refine zx_aload_n dX4_takes_57 rfl ?_
        refine zy_geti dX4_takes_58 fX4_28 (hq.2.2) ?_
        refine zx_iload_n dX4_takes_61 rfl ?_
        refine zy_icmp_lt (tgt := 67) dX4_takes_62 (by decide) (by omega) (fun h_62 => ?_) (fun h_62 => ?_)
        · refine zx_aload_n dX4_takes_67 rfl ?_
          refine zx_dup dX4_takes_68 rfl ?_
          refine zy_geti dX4_takes_69 fX4_28 (hq.2.2) ?_
          refine zx_iconst (v := zn_I 1) dX4_takes_72 rfl ?_
          refine zy_iadd dX4_takes_73 ?_
          refine zx_puti dX4_takes_74 fX4_28 ?_
          refine zx_iconst (v := zn_I 1) dX4_takes_77 rfl ?_
          refine zx_iret (st := []) dX4_takes_78 rfl rfl ?_
          have e : zq_take σ c = some (σ.1, σ.2.1, σ.2.2 + 1) := by unfold zq_take; (repeat' split) <;> first | rfl | (exfalso; omega)
          rw [e]
          refine ⟨by rw [zn_B, if_pos (by simp)], ?_, ?_⟩
          · (repeat' apply zf_s) <;> first | exact zf_rf | decide
          · refine ⟨?_, ?_, ?_⟩ <;> simp [zw_s, hq.1, hq.2.1, hq.2.2]
        · refine zx_iconst (v := zn_I 0) dX4_takes_65 rfl ?_
          refine zx_iret (st := []) dX4_takes_66 rfl rfl ?_
          have e : zq_take σ c = none := by unfold zq_take; (repeat' split) <;> first | rfl | (exfalso; omega)
          rw [e]
          exact ⟨by rw [zn_B, if_neg (by simp)], zf_rf, hq⟩
    · refine zx_bipush (v := zn_I 6) dX4_takes_43 (by decide) ?_
      refine zx_goto (tgt := 52) dX4_takes_45 (by decide) ?_
      refine zx_istore_n dX4_takes_52 rfl (Nat.le_of_ble_eq_true rfl) ?_
      refine zx_iload_n dX4_takes_53 rfl ?_
      refine zy_ifB_eq (tgt := 65) dX4_takes_54 (by decide) (fun h_54 => ?_) (fun h_54 => ?_)
      · refine zx_iconst (v := zn_I 0) dX4_takes_65 rfl ?_
        refine zx_iret (st := []) dX4_takes_66 rfl rfl ?_
        have e : zq_take σ c = none := by unfold zq_take; (repeat' split) <;> first | rfl | (exfalso; omega)
        rw [e]
        exact ⟨by rw [zn_B, if_neg (by simp)], zf_rf, hq⟩
      · refine zx_aload_n dX4_takes_57 rfl ?_
        refine zy_geti dX4_takes_58 fX4_28 (hq.2.2) ?_
        refine zx_iload_n dX4_takes_61 rfl ?_
        refine zy_icmp_lt (tgt := 67) dX4_takes_62 (by decide) (by omega) (fun h_62 => ?_) (fun h_62 => ?_)
        · refine zx_aload_n dX4_takes_67 rfl ?_
          refine zx_dup dX4_takes_68 rfl ?_
          refine zy_geti dX4_takes_69 fX4_28 (hq.2.2) ?_
          refine zx_iconst (v := zn_I 1) dX4_takes_72 rfl ?_
          refine zy_iadd dX4_takes_73 ?_
          refine zx_puti dX4_takes_74 fX4_28 ?_
          refine zx_iconst (v := zn_I 1) dX4_takes_77 rfl ?_
          refine zx_iret (st := []) dX4_takes_78 rfl rfl ?_
          have e : zq_take σ c = some (σ.1, σ.2.1, σ.2.2 + 1) := by unfold zq_take; (repeat' split) <;> first | rfl | (exfalso; omega)
          rw [e]
          refine ⟨by rw [zn_B, if_pos (by simp)], ?_, ?_⟩
          · (repeat' apply zf_s) <;> first | exact zf_rf | decide
          · refine ⟨?_, ?_, ?_⟩ <;> simp [zw_s, hq.1, hq.2.1, hq.2.2]
        · refine zx_iconst (v := zn_I 0) dX4_takes_65 rfl ?_
          refine zx_iret (st := []) dX4_takes_66 rfl rfl ?_
          have e : zq_take σ c = none := by unfold zq_take; (repeat' split) <;> first | rfl | (exfalso; omega)
          rw [e]
          exact ⟨by rw [zn_B, if_neg (by simp)], zf_rf, hq⟩
  refine zx_iload_n dX4_takes_0 rfl ?_
  refine zx_bipush (v := zn_I 47) dX4_takes_1 (by decide) ?_
  refine zy_icmp_ne (tgt := 11) dX4_takes_3 (by decide) (by omega) (fun h_3 => ?_) (fun h_3 => ?_)
  · refine zx_iload_n dX4_takes_11 rfl ?_
    refine zx_bipush (v := zn_I 46) dX4_takes_12 (by decide) ?_
    refine zy_icmp_eq (tgt := 29) dX4_takes_14 (by decide) (by omega) (fun h_14 => ?_) (fun h_14 => ?_)
    · refine zx_iconst (v := zn_I 1) dX4_takes_29 rfl ?_
      refine zx_goto (tgt := 34) dX4_takes_30 (by decide) ?_
      first
        | exact zy_top (zn_Bt (by omega)) (J (by omega))
        | exact zy_top (zn_Bf (by omega)) (J (by omega))
    · refine zx_iload_n dX4_takes_17 rfl ?_
      refine zx_bipush (v := zn_I 49) dX4_takes_18 (by decide) ?_
      refine zy_icmp_lt (tgt := 33) dX4_takes_20 (by decide) (by omega) (fun h_20 => ?_) (fun h_20 => ?_)
      · refine zx_iconst (v := zn_I 0) dX4_takes_33 rfl ?_
        first
          | exact zy_top (zn_Bt (by omega)) (J (by omega))
          | exact zy_top (zn_Bf (by omega)) (J (by omega))
      · refine zx_iload_n dX4_takes_23 rfl ?_
        refine zx_bipush (v := zn_I 57) dX4_takes_24 (by decide) ?_
        refine zy_icmp_gt (tgt := 33) dX4_takes_26 (by decide) (by omega) (fun h_26 => ?_) (fun h_26 => ?_)
        · refine zx_iconst (v := zn_I 0) dX4_takes_33 rfl ?_
          first
            | exact zy_top (zn_Bt (by omega)) (J (by omega))
            | exact zy_top (zn_Bf (by omega)) (J (by omega))
        · refine zx_iconst (v := zn_I 1) dX4_takes_29 rfl ?_
          refine zx_goto (tgt := 34) dX4_takes_30 (by decide) ?_
          first
            | exact zy_top (zn_Bt (by omega)) (J (by omega))
            | exact zy_top (zn_Bf (by omega)) (J (by omega))
  · refine zx_aload_n dX4_takes_6 rfl ?_
    refine zx_callV (y1 := iX4_endsRow) dX4_takes_7 lX4_39 vX4_endsRow rc_3 (mX4_endsRow hq hok) rfl rfl (Nat.le_of_ble_eq_true rfl) ?_
    intro v M1 he
    obtain ⟨rfl, hf, hq1⟩ := he
    refine zx_iret (st := []) dX4_takes_10 rfl zn_Bn ?_
    have hc2 : c = 47 := by omega
    subst hc2
    exact ⟨rfl, hf, hq1⟩
set_option maxRecDepth 100000 in
set_option maxHeartbeats 600000 in
theorem mX4_faultIn {l : zw_Lh} {d : Nat} {M : zw_M} {ρ : zR} (hG : zG M ρ) : zw_C l (d + 3) iX4_faultIn [.ref 3, .ref 1] M (fun v M1 => v = some (.int (zn_I (zq_go ρ ρ.1).1)) ∧ zw_fr [3] M M1 ∧ zq M1 (zq_go ρ ρ.1).2) := by
  have h40 := hG.1
  refine zw_of (by decide +kernel) (Nat.le_of_ble_eq_true rfl) ?_
  refine zy_loc (L1 := [.ref 3, .ref 1, .retAddr 0]) rfl ?_
  have loop : ∀ s : Nat, s ≤ ρ.1 → ∀ M1 : zw_M, zw_fr [3] M M1 → zq M1 (zq_go ρ s).2 → (zq_go ρ s).1 = s → zw_X l (d + 3) iX4_faultIn (fun v M1 => v = some (.int (zn_I (zq_go ρ ρ.1).1)) ∧ zw_fr [3] M M1 ∧ zq M1 (zq_go ρ ρ.1).2) 17 [.ref 3, .ref 1, .int (zn_I (s : Int))] [] M1 := by
    refine zw_loop ρ.1 (P := fun s => ∀ M1 : zw_M, zw_fr [3] M M1 → zq M1 (zq_go ρ s).2 → (zq_go ρ s).1 = s → zw_X l (d + 3) iX4_faultIn (fun v M1 => v = some (.int (zn_I (zq_go ρ ρ.1).1)) ∧ zw_fr [3] M M1 ∧ zq M1 (zq_go ρ ρ.1).2) 17 [.ref 3, .ref 1, .int (zn_I (s : Int))] [] M1) (fun s hs ih M1 hf hq hgo => ?_)
    have hG1 := zG_f hf hG (by decide)
    refine zx_iload_n dX4_faultIn_17 rfl ?_
    refine zx_aload_n dX4_faultIn_18 rfl ?_
    refine zx_callV (y1 := iX3_length) dX4_faultIn_19 lX4_22 vX3_length rc_1 (mX3_length hG1) rfl rfl (Nat.le_of_ble_eq_true rfl) ?_
    refine zk_i ?_
    refine zy_icmp_ge (tgt := 45) dX4_faultIn_22 (by decide) (by omega) (fun h_22 => ?_) (fun h_22 => ?_)
    · refine zx_aload_n dX4_faultIn_45 rfl ?_
      refine zx_callV (y1 := iX3_length) dX4_faultIn_46 lX4_22 vX3_length rc_1 (mX3_length hG1) rfl rfl (Nat.le_of_ble_eq_true rfl) ?_
      refine zk_i ?_
      refine zx_iret (st := []) dX4_faultIn_49 rfl rfl ?_
      have es : ρ.1 = s := by omega
      rw [es, hgo]
      exact ⟨rfl, hf, hq⟩
    · refine zx_aload_n dX4_faultIn_25 rfl ?_
      refine zx_aload_n dX4_faultIn_26 rfl ?_
      refine zx_iload_n dX4_faultIn_27 rfl ?_
      refine zx_callV (y1 := iX3_letter) dX4_faultIn_28 lX4_31 vX3_letter rc_1 (mX3_letter hG1 (z := (s : Int)) (by omega)) rfl rfl (Nat.le_of_ble_eq_true rfl) ?_
      refine zk_i ?_
      rw [zg_at_in (show s < ρ.1 by omega)]
      refine zx_callV (y1 := iX4_takes) dX4_faultIn_31 lX4_35 vX4_takes rc_3 (mX4_takes hq (zq_go_ok ρ s) (c := ρ.2 s) (by have := (hG.2.2.2 s (by omega)).2; omega)) rfl rfl (Nat.le_of_ble_eq_true rfl) ?_
      intro v M2 he
      obtain ⟨rfl, hf2, hq2⟩ := he
      refine zy_ifB_ne (tgt := 39) dX4_faultIn_34 (by decide) (fun h_34 => ?_) (fun h_34 => ?_)
      · refine zy_iinc dX4_faultIn_39 rfl rfl ?_
        refine zx_goto (tgt := 17) dX4_faultIn_42 (by decide) ?_
        obtain ⟨σ, e⟩ := Option.isSome_iff_exists.mp h_34
        rw [e] at hq2
        have en := zq_go_next hgo e
        exact ih (by omega) _ (zf_tr hf hf2) (by rw [en]; exact hq2) (by rw [en])
      · refine zx_iload_n dX4_faultIn_37 rfl ?_
        refine zx_iret (st := []) dX4_faultIn_38 rfl rfl ?_
        have e : zq_take (zq_go ρ s).2 (ρ.2 s) = none := by
          cases e : zq_take (zq_go ρ s).2 (ρ.2 s) with
          | none => rfl
          | some _ => exact absurd (by rw [e]; rfl) h_34
        rw [e] at hq2
        rw [zq_go_stop hgo e ρ.1 (by omega), hgo]
        exact ⟨rfl, zf_tr hf hf2, hq2⟩
  refine zx_aload_n dX4_faultIn_0 rfl ?_
  refine zx_iconst (v := zn_I 1) dX4_faultIn_1 rfl ?_
  refine zx_puti dX4_faultIn_2 fX4_9 ?_
  refine zx_aload_n dX4_faultIn_5 rfl ?_
  refine zx_iconst (v := zn_I 0) dX4_faultIn_6 rfl ?_
  refine zx_puti dX4_faultIn_7 fX4_15 ?_
  refine zx_aload_n dX4_faultIn_10 rfl ?_
  refine zx_iconst (v := zn_I 0) dX4_faultIn_11 rfl ?_
  refine zx_puti dX4_faultIn_12 fX4_28 ?_
  refine zx_iconst (v := zn_I 0) dX4_faultIn_15 rfl ?_
  refine zx_istore_n dX4_faultIn_16 rfl (Nat.le_of_ble_eq_true rfl) ?_
  exact loop 0 (by omega) _ (zf_s (zf_s (zf_s zf_rf (by decide)) (by decide)) (by decide)) ⟨by simp [zw_s, zq_go], by simp [zw_s, zq_go], by simp [zw_s, zq_go]⟩ rfl
set_option maxRecDepth 100000 in
set_option maxHeartbeats 600000 in
theorem mX4_isWhole {l : zw_Lh} {d : Nat} {M : zw_M} {ρ : zR} (hG : zG M ρ) : zw_C l (d + 4) iX4_isWhole [.ref 3, .ref 1] M (fun v M1 => v = some (.int (zn_B (zq_whole ρ))) ∧ zw_fr [3] M M1 ∧ zq M1 (zq_go ρ ρ.1).2) := by
  have h40 := hG.1
  have hgl := zq_go_le ρ ρ.1
  obtain ⟨k1, k2, k3, k4⟩ := zq_go_ok ρ ρ.1
  refine zw_of (by decide +kernel) (Nat.le_of_ble_eq_true rfl) ?_
  refine zy_loc (L1 := [.ref 3, .ref 1]) rfl ?_
  refine zx_aload_n dX4_isWhole_0 rfl ?_
  refine zx_aload_n dX4_isWhole_1 rfl ?_
  refine zx_callV (y1 := iX4_faultIn) dX4_isWhole_2 lX4_18 vX4_faultIn rc_3 (mX4_faultIn hG) rfl rfl (Nat.le_of_ble_eq_true rfl) ?_
  intro v M1 he
  obtain ⟨rfl, hf, hq⟩ := he
  have hG1 := zG_f hf hG (by decide)
  refine zx_aload_n dX4_isWhole_5 rfl ?_
  refine zx_callV (y1 := iX3_length) dX4_isWhole_6 lX4_22 vX3_length rc_1 (mX3_length hG1) rfl rfl (Nat.le_of_ble_eq_true rfl) ?_
  refine zk_i ?_
  refine zy_icmp_ne (tgt := 35) dX4_isWhole_9 (by decide) (by omega) (fun h_9 => ?_) (fun h_9 => ?_)
  · refine zx_iconst (v := zn_I 0) dX4_isWhole_35 rfl ?_
    refine zx_iret (st := []) dX4_isWhole_36 rfl rfl ?_
    first | exact ⟨by rw [zn_B, if_pos (by omega)], hf, hq⟩ | exact ⟨by rw [zn_B, if_neg (by omega)], hf, hq⟩
  · refine zx_aload_n dX4_isWhole_12 rfl ?_
    refine zy_geti dX4_isWhole_13 fX4_9 (hq.1) ?_
    refine zx_iconst (v := zn_I 2) dX4_isWhole_16 rfl ?_
    refine zy_icmp_lt (tgt := 35) dX4_isWhole_17 (by decide) (by omega) (fun h_17 => ?_) (fun h_17 => ?_)
    · refine zx_iconst (v := zn_I 0) dX4_isWhole_35 rfl ?_
      refine zx_iret (st := []) dX4_isWhole_36 rfl rfl ?_
      first | exact ⟨by rw [zn_B, if_pos (by omega)], hf, hq⟩ | exact ⟨by rw [zn_B, if_neg (by omega)], hf, hq⟩
    · refine zx_aload_n dX4_isWhole_20 rfl ?_
      refine zy_geti dX4_isWhole_21 fX4_28 (hq.2.2) ?_
      refine zx_aload_n dX4_isWhole_24 rfl ?_
      refine zy_geti dX4_isWhole_25 fX4_15 (hq.2.1) ?_
      refine zy_icmp_ne (tgt := 35) dX4_isWhole_28 (by decide) (by omega) (fun h_28 => ?_) (fun h_28 => ?_)
      · refine zx_iconst (v := zn_I 0) dX4_isWhole_35 rfl ?_
        refine zx_iret (st := []) dX4_isWhole_36 rfl rfl ?_
        first | exact ⟨by rw [zn_B, if_pos (by omega)], hf, hq⟩ | exact ⟨by rw [zn_B, if_neg (by omega)], hf, hq⟩
      · refine zx_iconst (v := zn_I 1) dX4_isWhole_31 rfl ?_
        refine zx_goto (tgt := 36) dX4_isWhole_32 (by decide) ?_
        refine zx_iret (st := []) dX4_isWhole_36 rfl rfl ?_
        first | exact ⟨by rw [zn_B, if_pos (by omega)], hf, hq⟩ | exact ⟨by rw [zn_B, if_neg (by omega)], hf, hq⟩
end
section
/-! THE PLAN IS READ: its squares by its letters -/
theorem zq_all {ρ : zR} : ∀ {j : Nat}, (zq_go ρ j).1 = j → ∀ i, i ≤ j → (zq_go ρ i).1 = i
  | 0, h, i, hi => by
    have : i = 0 := by omega
    subst this
    exact h
  | j + 1, h, i, hi => by
    rcases Nat.lt_or_ge i (j + 1) with r | r
    · have hl := zq_go_le ρ j
      have hj : (zq_go ρ j).1 = j := by
        rw [zq_go] at h
        split at h
        · omega
        · split at h
          · omega
          · omega
      exact zq_all hj i (by omega)
    · have : i = j + 1 := by omega
      subst this
      exact h
theorem zq_step {ρ : zR} {i : Nat} (h : (zq_go ρ (i + 1)).1 = i + 1) : zq_take (zq_go ρ i).2 (ρ.2 i) = some (zq_go ρ (i + 1)).2 := by
  have hl := zq_go_le ρ i
  rw [zq_go] at h ⊢
  split at h
  · omega
  · next q =>
    rw [if_neg q]
    split at h
    · omega
    · next e => rw [e]
def zr_k (ρ : zR) : Nat → Nat
  | 0 => 0
  | i + 1 => if ρ.2 i = 47 then zr_k ρ i else zr_k ρ i + 1
def zr_g (c : Nat) : Int := if c = 46 then 0 else (c : Int) - 48
def zr_H (ρ : zR) : Nat → Nat → Int
  | 0 => fun _ => 0
  | i + 1 => if ρ.2 i = 47 then zr_H ρ i else fun s => if s = zr_k ρ i then zr_g (ρ.2 i) else zr_H ρ i s
theorem zr_H_keep {ρ : zR} {i s : Nat} (hs : s < zr_k ρ i) : ∀ j, i ≤ j → zr_H ρ j s = zr_H ρ i s ∧ zr_k ρ i ≤ zr_k ρ j
  | 0, h => by
    have : i = 0 := by omega
    subst this
    exact ⟨rfl, Nat.le_refl _⟩
  | j + 1, h => by
    rcases Nat.lt_or_ge i (j + 1) with r | r
    · have ih := zr_H_keep hs j (by omega)
      rw [zr_H, zr_k]
      by_cases q : ρ.2 j = 47
      · rw [if_pos q, if_pos q]; exact ih
      · rw [if_neg q, if_neg q]
        refine ⟨?_, by omega⟩
        rw [if_neg (by omega)]
        exact ih.1
    · have : i = j + 1 := by omega
      subst this
      exact ⟨rfl, Nat.le_refl _⟩
theorem zr_H_at {ρ : zR} {i : Nat} (h : ρ.2 i ≠ 47) {n : Nat} (hn : i < n) : zr_H ρ n (zr_k ρ i) = zr_g (ρ.2 i) := by
  have hk : zr_k ρ (i + 1) = zr_k ρ i + 1 := by rw [zr_k, if_neg h]
  rw [(zr_H_keep (i := i + 1) (s := zr_k ρ i) (by omega) n (by omega)).1, zr_H, if_neg h, if_pos rfl]
/-- what holds all along a whole text of wide w -/
theorem zq_back {ρ : zR} (hw : zq_whole ρ) : ∀ i, i ≤ ρ.1 → (2 ≤ (zq_go ρ i).2.1 → (zq_go ρ i).2.2.1 = (zq_go ρ ρ.1).2.2.1) ∧ ((zq_go ρ i).2.1 = 1 → (zq_go ρ i).2.2.2 ≤ (zq_go ρ ρ.1).2.2.1) := by
  refine zw_loop ρ.1 (fun i hi ih => ?_)
  rcases Nat.lt_or_ge i ρ.1 with r | r
  · have ih := ih r
    have e := zq_step (zq_all hw.1 (i + 1) (by omega))
    have hok := zq_go_ok ρ i
    unfold zq_ok at hok
    unfold zq_take at e
    split at e
    · split at e
      · have e2 := Option.some.inj e
        rw [← e2] at ih
        dsimp only at ih
        omega
      · cases e
    · split at e
      · have e2 := Option.some.inj e
        rw [← e2] at ih
        dsimp only at ih
        omega
      · cases e
  · have : i = ρ.1 := by omega
    subst this
    exact ⟨fun _ => rfl, fun q => by have := hw.2; omega⟩
/-- a letter of a whole text: a row's end, or a square -/
theorem zq_case {ρ : zR} (hw : zq_whole ρ) {i : Nat} (hi : i < ρ.1) :
    (ρ.2 i = 47 ∧ (zq_go ρ (i + 1)).2.1 = (zq_go ρ i).2.1 + 1 ∧ (zq_go ρ (i + 1)).2.2.2 = 0 ∧ (zq_go ρ i).2.2.2 = (zq_go ρ ρ.1).2.2.1) ∨
    ((ρ.2 i = 46 ∨ (49 ≤ ρ.2 i ∧ ρ.2 i ≤ 57)) ∧ (zq_go ρ (i + 1)).2.1 = (zq_go ρ i).2.1 ∧ (zq_go ρ (i + 1)).2.2.2 = (zq_go ρ i).2.2.2 + 1 ∧ (zq_go ρ i).2.2.2 < (zq_go ρ ρ.1).2.2.1) := by
  have e := zq_step (zq_all hw.1 (i + 1) (by omega))
  have hok := zq_go_ok ρ i
  have b0 := zq_back hw i (by omega)
  have b1 := zq_back hw (i + 1) (by omega)
  unfold zq_ok at hok
  unfold zq_take at e
  split at e
  · split at e
    · have e2 := Option.some.inj e
      rw [← e2] at b1 ⊢
      dsimp only at b1 ⊢
      left
      omega
    · cases e
  · split at e
    · have e2 := Option.some.inj e
      rw [← e2] at b1 ⊢
      dsimp only at b1 ⊢
      right
      omega
    · cases e
theorem zr_k_at {ρ : zR} (hw : zq_whole ρ) : ∀ i, i ≤ ρ.1 → zr_k ρ i = ((zq_go ρ i).2.1 - 1) * (zq_go ρ ρ.1).2.2.1 + (zq_go ρ i).2.2.2
  | 0, _ => by simp [zr_k, zq_go]
  | i + 1, h => by
    have ih := zr_k_at hw i (by omega)
    have hok := zq_go_ok ρ i
    unfold zq_ok at hok
    rw [zr_k]
    rcases zq_case hw (show i < ρ.1 by omega) with ⟨c1, c2, c3, c4⟩ | ⟨c1, c2, c3, c4⟩
    · rw [if_pos c1, c2, c3, ih, c4]
      obtain ⟨a, ha⟩ : ∃ a, (zq_go ρ i).2.1 = a + 1 := ⟨(zq_go ρ i).2.1 - 1, by omega⟩
      rw [ha, Nat.add_sub_cancel, Nat.add_sub_cancel, Nat.succ_mul]
      omega
    · rw [if_neg (by omega), c2, c3, ih]
      omega
theorem zr_g_rng {c : Nat} (h : c = 46 ∨ (49 ≤ c ∧ c ≤ 57)) : 0 ≤ zr_g c ∧ zr_g c ≤ 9 := by
  unfold zr_g
  split <;> omega
/-- the plan that a whole text tells -/
def zr_P (ρ : zR) : zP := ((zq_go ρ ρ.1).2.1, (zq_go ρ ρ.1).2.2.1, zr_H ρ ρ.1)
theorem zr_P_n {ρ : zR} (hw : zq_whole ρ) : zr_k ρ ρ.1 = zp_n (zr_P ρ) := by
  have h := zr_k_at hw ρ.1 (Nat.le_refl _)
  have hok := zq_go_ok ρ ρ.1
  unfold zq_ok at hok
  rw [h, hw.2.2]
  obtain ⟨a, ha⟩ : ∃ a, (zq_go ρ ρ.1).2.1 = a + 1 := ⟨(zq_go ρ ρ.1).2.1 - 1, by omega⟩
  unfold zp_n zr_P
  dsimp only
  rw [ha, Nat.add_sub_cancel, Nat.succ_mul]
/-- the island as far as it is read -/
def zIk (M : zw_M) (π : zP) (k : Nat) : Prop :=
  (π.1 ≤ 5 ∧ π.2.1 ≤ 6) ∧ M.1 4 3 = zn_I π.1 ∧ M.1 4 4 = zn_I π.2.1 ∧ M.1 4 5 = zn_I k ∧ M.1 4 6 = zn_I (zp_d π k) ∧ (∀ s, s < k → M.1 5 s = zn_I (π.2.2 s)) ∧ (∀ s, s < k → M.1 6 s = zn_I (zp_e π s)) ∧ (∀ s, s < k → M.1 7 s = zn_I (zp_s π s)) ∧ (∀ s, s < k → 0 ≤ π.2.2 s ∧ π.2.2 s ≤ 9)
theorem zp_d_le (π : zP) : ∀ k, zp_d π k ≤ k
  | 0 => Nat.le_refl 0
  | k + 1 => by
    have := zp_d_le π k
    rw [zp_d]
    split <;> omega
set_option maxRecDepth 100000 in
set_option maxHeartbeats 600000 in
theorem mX1_addSquare {l : zw_Lh} {d : Nat} {M : zw_M} {π : zP} {k a b : Nat} {h : Int} (hI : zIk M π k) (hh : h = π.2.2 k) (hh9 : 0 ≤ h ∧ h ≤ 9) (hk : k = a * π.2.1 + b) (hb : b < π.2.1) (hk30 : k < 30) (ha : a < 100) : zw_C l (d + 1) iX1_addSquare [.ref 4, .int (zn_I h), .int (zn_I (a : Int)), .int (zn_I (b : Int))] M (fun v M1 => v = none ∧ zw_fr [4, 5, 6, 7] M M1 ∧ zIk M1 π (k + 1)) := by
  obtain ⟨hp, hr, hw, hk5, hdo, hH, hE, hS, hB⟩ := id hI
  have hdl := zp_d_le π k
  have hmod : k % π.2.1 = b := by rw [hk, Nat.mul_comm, Nat.mul_add_mod, Nat.mod_eq_of_lt hb]
  have hdiv : k / π.2.1 = a := by rw [hk, Nat.mul_comm, Nat.mul_add_div (by omega), Nat.div_eq_of_lt hb, Nat.add_zero]
  have hee : zp_e π k = 2 * (b : Int) - ((π.2.1 : Int) - 1) := by rw [zp_e, hmod]
  have hss : zp_s π k = 2 * (a : Int) - ((π.1 : Int) - 1) := by rw [zp_s, hdiv]
  refine zw_of (by decide +kernel) (Nat.le_of_ble_eq_true rfl) ?_
  refine zy_loc (L1 := [.ref 4, .int (zn_I h), .int (zn_I (a : Int)), .int (zn_I (b : Int))]) rfl ?_
  refine zx_aload_n dX1_addSquare_0 rfl ?_
  refine zy_geti dX1_addSquare_1 fX1_28 ((show _ = zn_I (k : Int) from by simp [zw_s, hk5])) ?_
  refine zx_bipush (v := zn_I 30) dX1_addSquare_4 (by decide) ?_
  refine zy_icmp_lt (tgt := 10) dX1_addSquare_6 (by decide) (by omega) (fun h_6 => ?_) (fun h_6 => ?_)
  · refine zx_aload_n dX1_addSquare_10 rfl ?_
    refine zx_getr dX1_addSquare_11 fX1_9 ?_
    refine zx_aload_n dX1_addSquare_14 rfl ?_
    refine zy_geti dX1_addSquare_15 fX1_28 ((show _ = zn_I (k : Int) from by simp [zw_s, hk5])) ?_
    refine zx_iload_n dX1_addSquare_18 rfl ?_
    refine zy_iast dX1_addSquare_19 rfl (by decide) rfl (by omega) ?_
    refine zx_aload_n dX1_addSquare_20 rfl ?_
    refine zx_getr dX1_addSquare_21 fX1_15 ?_
    refine zx_aload_n dX1_addSquare_24 rfl ?_
    refine zy_geti dX1_addSquare_25 fX1_28 ((show _ = zn_I (k : Int) from by simp [zw_s, hk5])) ?_
    refine zx_iload_n dX1_addSquare_28 rfl ?_
    refine zx_aload_n dX1_addSquare_29 rfl ?_
    refine zy_geti dX1_addSquare_30 fX1_25 ((show _ = zn_I (π.2.1 : Int) from by simp [zw_s, hw])) ?_
    refine zx_callS (y1 := iX1_fromCentre) dX1_addSquare_33 lX1_48 sX1_fromCentre (mX1_fromCentre) rfl rfl (Nat.le_of_ble_eq_true rfl) ?_
    refine zk_i ?_
    refine zy_iast dX1_addSquare_36 rfl (by decide) rfl (by omega) ?_
    refine zx_aload_n dX1_addSquare_37 rfl ?_
    refine zx_getr dX1_addSquare_38 fX1_18 ?_
    refine zx_aload_n dX1_addSquare_41 rfl ?_
    refine zy_geti dX1_addSquare_42 fX1_28 ((show _ = zn_I (k : Int) from by simp [zw_s, hk5])) ?_
    refine zx_iload_n dX1_addSquare_45 rfl ?_
    refine zx_aload_n dX1_addSquare_46 rfl ?_
    refine zy_geti dX1_addSquare_47 fX1_21 ((show _ = zn_I (π.1 : Int) from by simp [zw_s, hr])) ?_
    refine zx_callS (y1 := iX1_fromCentre) dX1_addSquare_50 lX1_48 sX1_fromCentre (mX1_fromCentre) rfl rfl (Nat.le_of_ble_eq_true rfl) ?_
    refine zk_i ?_
    refine zy_iast dX1_addSquare_53 rfl (by decide) rfl (by omega) ?_
    refine zx_aload_n dX1_addSquare_54 rfl ?_
    refine zx_dup dX1_addSquare_55 rfl ?_
    refine zy_geti dX1_addSquare_56 fX1_28 ((show _ = zn_I (k : Int) from by simp [zw_s, hk5])) ?_
    refine zx_iconst (v := zn_I 1) dX1_addSquare_59 rfl ?_
    refine zy_iadd dX1_addSquare_60 ?_
    refine zx_puti dX1_addSquare_61 fX1_28 ?_
    refine zx_iload_n dX1_addSquare_64 rfl ?_
    refine zy_if_le (tgt := 78) dX1_addSquare_65 (by decide) (by omega) (fun h_65 => ?_) (fun h_65 => ?_)
    · refine zx_vret (st := []) dX1_addSquare_78 rfl ?_
      refine ⟨rfl, ?_, hp, by simp [zw_s, hr], by simp [zw_s, hw], by simp [zw_s], ?_, fun s hs => ?_, fun s hs => ?_, fun s hs => ?_, fun s hs => ?_⟩
      · (repeat' apply zf_s) <;> first | exact zf_rf | decide
      · rw [show zp_d π (k + 1) = zp_d π k by rw [zp_d, if_neg (by omega), Nat.add_zero]]
        simp [zw_s, hdo]
      · by_cases e : s = k
        · subst e; simp [zw_s, hh]
        · have := hH s (by omega); simp [zw_s, e, this]
      · by_cases e : s = k
        · subst e; simp [zw_s, hee]
        · have := hE s (by omega); simp [zw_s, e, this]
      · by_cases e : s = k
        · subst e; simp [zw_s, hss]
        · have := hS s (by omega); simp [zw_s, e, this]
      · by_cases e : s = k
        · subst e; omega
        · exact hB s (by omega)
    · refine zx_aload_n dX1_addSquare_68 rfl ?_
      refine zx_dup dX1_addSquare_69 rfl ?_
      refine zy_geti dX1_addSquare_70 fX1_31 ((show _ = zn_I (zp_d π k : Int) from by simp [zw_s, hdo])) ?_
      refine zx_iconst (v := zn_I 1) dX1_addSquare_73 rfl ?_
      refine zy_iadd dX1_addSquare_74 ?_
      refine zx_puti dX1_addSquare_75 fX1_31 ?_
      refine zx_vret (st := []) dX1_addSquare_78 rfl ?_
      refine ⟨rfl, ?_, hp, by simp [zw_s, hr], by simp [zw_s, hw], by simp [zw_s], ?_, fun s hs => ?_, fun s hs => ?_, fun s hs => ?_, fun s hs => ?_⟩
      · (repeat' apply zf_s) <;> first | exact zf_rf | decide
      · rw [show zp_d π (k + 1) = zp_d π k + 1 by rw [zp_d, if_pos (by omega)]]
        simp [zw_s, hdo]
      · by_cases e : s = k
        · subst e; simp [zw_s, hh]
        · have := hH s (by omega); simp [zw_s, e, this]
      · by_cases e : s = k
        · subst e; simp [zw_s, hee]
        · have := hE s (by omega); simp [zw_s, e, this]
      · by_cases e : s = k
        · subst e; simp [zw_s, hss]
        · have := hS s (by omega); simp [zw_s, e, this]
      · by_cases e : s = k
        · subst e; omega
        · exact hB s (by omega)
  · refine zx_vret (st := []) dX1_addSquare_9 rfl ?_
    exact absurd h_6 (by omega)
set_option maxRecDepth 100000 in
set_option maxHeartbeats 600000 in
theorem mX1_read {l : zw_Lh} {d : Nat} {M : zw_M} {ρ : zR} (hG : zG M ρ) (hwh : zq_whole ρ) : zw_C l (d + 2) iX1_read [.ref 4, .ref 1, .int (zn_I (zr_P ρ).1), .int (zn_I (zr_P ρ).2.1)] M (fun v M1 => v = none ∧ zw_fr [4, 5, 6, 7] M M1 ∧ zI M1 (zr_P ρ)) := by
  have h40 := hG.1
  have hok := zq_go_ok ρ ρ.1
  unfold zq_ok at hok
  refine zw_of (by decide +kernel) (Nat.le_of_ble_eq_true rfl) ?_
  refine zy_loc (L1 := [.ref 4, .ref 1, .int (zn_I (zr_P ρ).1), .int (zn_I (zr_P ρ).2.1), .retAddr 0, .retAddr 0, .retAddr 0, .retAddr 0]) rfl ?_
  have loop : ∀ s : Nat, s ≤ ρ.1 → ∀ (M1 : zw_M) (a b : Nat) (v7 : Value), zw_fr [4, 5, 6, 7] M M1 → zIk M1 (zr_P ρ) (zr_k ρ s) → a + 1 = (zq_go ρ s).2.1 → b = (zq_go ρ s).2.2.2 → zw_X l (d + 2) iX1_read (fun v M1 => v = none ∧ zw_fr [4, 5, 6, 7] M M1 ∧ zI M1 (zr_P ρ)) 29 [.ref 4, .ref 1, .int (zn_I (zr_P ρ).1), .int (zn_I (zr_P ρ).2.1), .int (zn_I (a : Int)), .int (zn_I (b : Int)), .int (zn_I (s : Int)), v7] [] M1 := by
    refine zw_loop ρ.1 (P := fun s => ∀ (M1 : zw_M) (a b : Nat) (v7 : Value), zw_fr [4, 5, 6, 7] M M1 → zIk M1 (zr_P ρ) (zr_k ρ s) → a + 1 = (zq_go ρ s).2.1 → b = (zq_go ρ s).2.2.2 → zw_X l (d + 2) iX1_read (fun v M1 => v = none ∧ zw_fr [4, 5, 6, 7] M M1 ∧ zI M1 (zr_P ρ)) 29 [.ref 4, .ref 1, .int (zn_I (zr_P ρ).1), .int (zn_I (zr_P ρ).2.1), .int (zn_I (a : Int)), .int (zn_I (b : Int)), .int (zn_I (s : Int)), v7] [] M1) (fun s hs ih M1 a b v7 hf hI1 ha hb => ?_)
    have hG1 := zG_f hf hG (by decide)
    have hoks := zq_go_ok ρ s
    unfold zq_ok at hoks
    have hka : zr_k ρ s = a * (zr_P ρ).2.1 + b := by rw [zr_k_at hwh s hs, ← ha, ← hb]; rfl
    have hka2 : zr_k ρ s = a * (zq_go ρ ρ.1).2.2.1 + b := hka
    have hcl := fun q : s < ρ.1 => hG1.2.2.2 s q
    have hcs := fun q : s < ρ.1 => zq_case hwh q
    refine zx_iload dX1_read_29 rfl ?_
    refine zx_aload_n dX1_read_31 rfl ?_
    refine zx_callV (y1 := iX3_length) dX1_read_32 lX1_34 vX3_length rc_1 (mX3_length hG1) rfl rfl (Nat.le_of_ble_eq_true rfl) ?_
    refine zk_i ?_
    refine zy_icmp_ge (tgt := 95) dX1_read_35 (by decide) (by omega) (fun h_35 => ?_) (fun h_35 => ?_)
    · refine zx_vret (st := []) dX1_read_95 rfl ?_
      have es : s = ρ.1 := by omega
      subst es
      refine ⟨rfl, hf, ?_⟩
      rw [zr_P_n hwh] at hI1
      exact hI1
    · refine zx_aload_n dX1_read_38 rfl ?_
      refine zx_iload dX1_read_39 rfl ?_
      refine zx_callV (y1 := iX3_letter) dX1_read_41 lX1_40 vX3_letter rc_1 (mX3_letter hG1 (z := (s : Int)) (by omega)) rfl rfl (Nat.le_of_ble_eq_true rfl) ?_
      refine zk_i ?_
      rw [zg_at_in (show s < ρ.1 by omega)]
      have hc1 := hcl (by omega)
      have hc2 := hcs (by omega)
      refine zx_istore dX1_read_44 rfl (Nat.le_of_ble_eq_true rfl) ?_
      refine zx_iload dX1_read_46 rfl ?_
      refine zx_bipush (v := zn_I 47) dX1_read_48 (by decide) ?_
      refine zy_icmp_ne (tgt := 62) dX1_read_50 (by decide) (by omega) (fun h_50 => ?_) (fun h_50 => ?_)
      · refine zx_aload_n dX1_read_62 rfl ?_
        refine zx_iload dX1_read_63 rfl ?_
        refine zx_bipush (v := zn_I 46) dX1_read_65 (by decide) ?_
        refine zy_icmp_ne (tgt := 74) dX1_read_67 (by decide) (by omega) (fun h_67 => ?_) (fun h_67 => ?_)
        · refine zx_iload dX1_read_74 rfl ?_
          refine zx_bipush (v := zn_I 48) dX1_read_76 (by decide) ?_
          refine zy_isub dX1_read_78 ?_
          refine zx_iload dX1_read_79 rfl ?_
          refine zx_iload dX1_read_81 rfl ?_
          refine zx_callV (y1 := iX1_addSquare) dX1_read_83 lX1_44 vX1_addSquare rc_4 (mX1_addSquare (k := zr_k ρ s) (a := a) (b := b) hI1 (by show _ = zr_H ρ ρ.1 (zr_k ρ s); rw [zr_H_at (by omega) (show s < ρ.1 by omega), zr_g]; first | rw [if_pos (by omega)] | rw [if_neg (by omega)]) (by omega) hka (by show b < (zq_go ρ ρ.1).2.2.1; omega) (by have := Nat.mul_le_mul_right ((zq_go ρ ρ.1).2.2.1) (show a ≤ 4 by omega); omega) (by omega)) rfl rfl (Nat.le_of_ble_eq_true rfl) ?_
          intro v M2 he
          obtain ⟨rfl, hf2, hI2⟩ := he
          refine zy_iinc dX1_read_86 rfl rfl ?_
          refine zy_iinc dX1_read_89 rfl rfl ?_
          refine zx_goto (tgt := 29) dX1_read_92 (by decide) ?_
          exact ih (by omega) _ a (b + 1) _ (zf_tr hf hf2) (by rw [zr_k, if_neg (by omega)]; exact hI2) (by omega) (by omega)
        · refine zx_iconst (v := zn_I 0) dX1_read_70 rfl ?_
          refine zx_goto (tgt := 79) dX1_read_71 (by decide) ?_
          refine zx_iload dX1_read_79 rfl ?_
          refine zx_iload dX1_read_81 rfl ?_
          refine zx_callV (y1 := iX1_addSquare) dX1_read_83 lX1_44 vX1_addSquare rc_4 (mX1_addSquare (k := zr_k ρ s) (a := a) (b := b) hI1 (by show _ = zr_H ρ ρ.1 (zr_k ρ s); rw [zr_H_at (by omega) (show s < ρ.1 by omega), zr_g]; first | rw [if_pos (by omega)] | rw [if_neg (by omega)]) (by omega) hka (by show b < (zq_go ρ ρ.1).2.2.1; omega) (by have := Nat.mul_le_mul_right ((zq_go ρ ρ.1).2.2.1) (show a ≤ 4 by omega); omega) (by omega)) rfl rfl (Nat.le_of_ble_eq_true rfl) ?_
          intro v M2 he
          obtain ⟨rfl, hf2, hI2⟩ := he
          refine zy_iinc dX1_read_86 rfl rfl ?_
          refine zy_iinc dX1_read_89 rfl rfl ?_
          refine zx_goto (tgt := 29) dX1_read_92 (by decide) ?_
          exact ih (by omega) _ a (b + 1) _ (zf_tr hf hf2) (by rw [zr_k, if_neg (by omega)]; exact hI2) (by omega) (by omega)
      · refine zy_iinc dX1_read_53 rfl rfl ?_
        refine zx_iconst (v := zn_I 0) dX1_read_56 rfl ?_
        refine zx_istore dX1_read_57 rfl (Nat.le_of_ble_eq_true rfl) ?_
        refine zx_goto (tgt := 89) dX1_read_59 (by decide) ?_
        refine zy_iinc dX1_read_89 rfl rfl ?_
        refine zx_goto (tgt := 29) dX1_read_92 (by decide) ?_
        exact ih (by omega) _ (a + 1) 0 _ hf (by rw [zr_k, if_pos (by omega)]; exact hI1) (by omega) (by omega)
  refine zx_aload_n dX1_read_0 rfl ?_
  refine zx_iload_n dX1_read_1 rfl ?_
  refine zx_puti dX1_read_2 fX1_21 ?_
  refine zx_aload_n dX1_read_5 rfl ?_
  refine zx_iload_n dX1_read_6 rfl ?_
  refine zx_puti dX1_read_7 fX1_25 ?_
  refine zx_aload_n dX1_read_10 rfl ?_
  refine zx_iconst (v := zn_I 0) dX1_read_11 rfl ?_
  refine zx_puti dX1_read_12 fX1_28 ?_
  refine zx_aload_n dX1_read_15 rfl ?_
  refine zx_iconst (v := zn_I 0) dX1_read_16 rfl ?_
  refine zx_puti dX1_read_17 fX1_31 ?_
  refine zx_iconst (v := zn_I 0) dX1_read_20 rfl ?_
  refine zx_istore dX1_read_21 rfl (Nat.le_of_ble_eq_true rfl) ?_
  refine zx_iconst (v := zn_I 0) dX1_read_23 rfl ?_
  refine zx_istore dX1_read_24 rfl (Nat.le_of_ble_eq_true rfl) ?_
  refine zx_iconst (v := zn_I 0) dX1_read_26 rfl ?_
  refine zx_istore dX1_read_27 rfl (Nat.le_of_ble_eq_true rfl) ?_
  refine loop 0 (by omega) _ 0 0 _ (by (repeat' apply zf_s) <;> first | exact zf_rf | decide) ?_ (by simp [zq_go]) (by simp [zq_go])
  refine ⟨⟨by show (zq_go ρ ρ.1).2.1 ≤ 5; omega, by show (zq_go ρ ρ.1).2.2.1 ≤ 6; omega⟩, by simp [zw_s], by simp [zw_s], by simp [zw_s, zr_k], by simp [zw_s, zp_d, zr_k], ?_, ?_, ?_, ?_⟩ <;> (intro s hs; exact absurd hs (by simp [zr_k]))
end
section
/-! LATE: the sets of people who could still have been where they were -/
theorem zb_or2 (a b : Nat) : zn_I (a : Int) ||| zn_I (b : Int) = zn_I ((a ||| b : Nat) : Int) := by
  rw [← zn_nat, ← zn_nat, ← zn_nat]
  apply Int32.toBitVec_inj.1
  show BitVec.ofNat 32 a ||| BitVec.ofNat 32 b = BitVec.ofNat 32 (a ||| b)
  apply BitVec.eq_of_getLsbD_eq
  intro i hi
  simp [hi]
theorem zb_tb (n j : Nat) : n &&& 2 ^ j = 0 ↔ n.testBit j = false := by
  constructor
  · intro e
    have h1 : (n &&& 2 ^ j).testBit j = n.testBit j := by rw [Nat.testBit_and, Nat.testBit_two_pow]; simp
    rw [e] at h1
    simpa using h1.symm
  · intro h
    apply Nat.eq_of_testBit_eq
    intro i
    rw [Nat.testBit_and, Nat.testBit_two_pow, Nat.zero_testBit]
    by_cases e : j = i
    · subst e; simp [h]
    · simp [e]
/-- what is changed by who is late -/
def zl_ce (π : zP) (τ : zQ) (q t : Nat) : Int := if t < τ.1 then zt_w τ t * (zp_e π (τ.2.2.2 t (q - 1)) - zp_e π (τ.2.2.2 t q)) else 0
def zl_cs (π : zP) (τ : zQ) (q t : Nat) : Int := if t < τ.1 then zt_w τ t * (zp_s π (τ.2.2.2 t (q - 1)) - zp_s π (τ.2.2.2 t q)) else 0
def zl_add (f : Nat → Int) (set : Nat) : Nat → Int
  | 0 => 0
  | t + 1 => zl_add f set t + (if set.testBit t = true then f t else 0)
theorem zl_add_rng {f : Nat → Int} {set : Nat} (h : ∀ t : Nat, t < 8 → -2000 ≤ f t ∧ f t ≤ 2000) : ∀ t : Nat, t ≤ 8 → -(2000 * (t : Int)) ≤ zl_add f set t ∧ zl_add f set t ≤ 2000 * (t : Int)
  | 0, _ => by simp [zl_add]
  | t + 1, q => by
    have ih := zl_add_rng (set := set) h t (by omega)
    have := h t (by omega)
    rw [zl_add]
    split <;> omega
theorem zl_c_rng {M : zw_M} {π : zP} {τ : zQ} (hp : π.1 ≤ 5 ∧ π.2.1 ≤ 6) (hT : zT M (zp_n π) τ) {q : Nat} (hq : 1 ≤ q ∧ q < 8) (t : Nat) : (-2000 ≤ zl_ce π τ q t ∧ zl_ce π τ q t ≤ 2000) ∧ -2000 ≤ zl_cs π τ q t ∧ zl_cs π τ q t ≤ 2000 := by
  unfold zl_ce zl_cs
  split
  · next h =>
    have h1 := zt_w_rng hT h
    have ho := hT.2.2.2.2.2.2.2 t h q (by omega)
    have hs := hT.2.2.2.2.2.2.2 t h (q - 1) (by omega)
    have g2 := zp_e_rng hp ho
    have g3 := zp_s_rng hp ho
    have g4 := zp_e_rng hp hs
    have g5 := zp_s_rng hp hs
    have k1 := zp_mul_rng (a := zt_w τ t) (e := zp_e π (τ.2.2.2 t q)) (B := 198) (by omega) (by omega) (by omega) (by omega)
    have k2 := zp_mul_rng (a := zt_w τ t) (e := zp_s π (τ.2.2.2 t q)) (B := 198) (by omega) (by omega) (by omega) (by omega)
    have k3 := zp_mul_rng (a := zt_w τ t) (e := zp_e π (τ.2.2.2 t (q - 1))) (B := 198) (by omega) (by omega) (by omega) (by omega)
    have k4 := zp_mul_rng (a := zt_w τ t) (e := zp_s π (τ.2.2.2 t (q - 1))) (B := 198) (by omega) (by omega) (by omega) (by omega)
    rw [Int.mul_sub, Int.mul_sub]
    omega
  · omega
/-- which doors are wet, if a set is late -/
def zl_if (π : zP) (τ : zQ) (q set : Nat) : Nat := zp_bits π (zl_E π τ q + zl_add (zl_ce π τ q) set 8) (zl_S π τ q + zl_add (zl_cs π τ q) set 8) (zp_n π)
/-- a set that counts -/
def zl_ok (π : zP) (τ : zQ) (q : Nat) (doors : Int) (set : Nat) : Bool := decide (zn_I (set : Int) &&& (zn_I (zt_pb τ τ.1 : Nat) ^^^ zn_I (-1)) = 0) && decide ((zl_if π τ q set : Int) = doors)
def zl_go (f : Nat → Bool) (pb : Nat) : Nat → Nat × Nat × Nat
  | 0 => (0, pb, 0)
  | s + 1 => if f s = true then ((zl_go f pb s).1 + 1, (zl_go f pb s).2.1 &&& s, (zl_go f pb s).2.2 ||| s) else zl_go f pb s
theorem zl_go_rng {f : Nat → Bool} {pb : Nat} (hpb : pb < 256) : ∀ s, s ≤ 256 → (zl_go f pb s).1 ≤ s ∧ (zl_go f pb s).2.1 < 256 ∧ (zl_go f pb s).2.2 < 256
  | 0, _ => by simp [zl_go, hpb]
  | s + 1, h => by
    have ih := zl_go_rng (f := f) hpb s (by omega)
    rw [zl_go]
    split
    · refine ⟨by dsimp only; omega, ?_, ?_⟩
      · exact Nat.lt_of_le_of_lt Nat.and_le_left ih.2.1
      · exact Nat.or_lt_two_pow (n := 8) ih.2.2 (by omega)
    · omega
/-- LATE of a quarter and doors: how many sets, who is in all, who is in some -/
def zl_late (π : zP) (τ : zQ) (q : Nat) (doors : Int) : Nat × Nat × Nat := zl_go (zl_ok π τ q doors) (zt_pb τ τ.1) (zt_pb τ τ.1 + 1)
def zl_ans (π : zP) (τ : zQ) (q : Nat) (doors : Int) (j : Nat) : Nat := if j = 0 then (zl_late π τ q doors).1 else if j = 1 then (if (zl_late π τ q doors).1 = 0 then 0 else (zl_late π τ q doors).2.1) else (zl_late π τ q doors).2.2
set_option maxRecDepth 100000 in
set_option maxHeartbeats 600000 in
theorem mX2_found {l : zw_Lh} {d : Nat} {M : zw_M} {f : Nat → Int32} (hf : ∀ j, j < 3 → M.1 28 j = f j) {j : Nat} (hj : j < 3) : zw_C l d iX2_found [.ref 27, .int (zn_I (j : Int))] M (zw_i (f j) M) := by
  refine zw_of (by decide +kernel) (Nat.le_of_ble_eq_true rfl) ?_
  refine zy_loc (L1 := [.ref 27, .int (zn_I (j : Int))]) rfl ?_
  refine zx_iload_n dX2_found_0 rfl ?_
  refine zy_if_lt (tgt := 18) dX2_found_1 (by decide) (by omega) (fun h_1 => ?_) (fun h_1 => ?_)
  · exact absurd h_1 (by omega)
  · refine zx_iload_n dX2_found_4 rfl ?_
    refine zx_iconst (v := zn_I 3) dX2_found_5 rfl ?_
    refine zy_icmp_ge (tgt := 18) dX2_found_6 (by decide) (by omega) (fun h_6 => ?_) (fun h_6 => ?_)
    · exact absurd h_6 (by omega)
    · refine zx_aload_n dX2_found_9 rfl ?_
      refine zx_getr dX2_found_10 fX2_11 ?_
      refine zx_iload_n dX2_found_13 rfl ?_
      refine zy_iald dX2_found_14 rfl (by decide) rfl (by omega) ((hf j hj)) ?_
      refine zx_goto (tgt := 19) dX2_found_15 (by decide) ?_
      refine zx_iret (st := []) dX2_found_19 rfl rfl ?_
      exact ⟨rfl, rfl⟩
set_option maxRecDepth 100000 in
set_option maxHeartbeats 600000 in
theorem mX2_measureChanges {l : zw_Lh} {d : Nat} {M : zw_M} {π : zP} {τ : zQ} (hI : zI M π) (hT : zT M (zp_n π) τ) {q : Nat} (hq : 1 ≤ q ∧ q < 8) : zw_C l (d + 2) iX2_measureChanges [.ref 27, .int (zn_I (q : Int))] M (fun v M1 => v = none ∧ zw_fr [29, 30] M M1 ∧ ∀ t, t < 8 → M1.1 29 t = zn_I (zl_ce π τ q t) ∧ M1.1 30 t = zn_I (zl_cs π τ q t)) := by
  have hp := hI.1
  have h30 := zp_30 hp
  have h8 := hT.1
  refine zw_of (by decide +kernel) (Nat.le_of_ble_eq_true rfl) ?_
  refine zy_loc (L1 := [.ref 27, .int (zn_I (q : Int)), .retAddr 0, .retAddr 0, .retAddr 0, .retAddr 0]) rfl ?_
  have loop : ∀ s : Nat, s ≤ 8 → ∀ (M1 : zw_M) (v3 v4 v5 : Value), zw_fr [29, 30] M M1 → (∀ t, t < s → M1.1 29 t = zn_I (zl_ce π τ q t) ∧ M1.1 30 t = zn_I (zl_cs π τ q t)) → zw_X l (d + 2) iX2_measureChanges (fun v M1 => v = none ∧ zw_fr [29, 30] M M1 ∧ ∀ t, t < 8 → M1.1 29 t = zn_I (zl_ce π τ q t) ∧ M1.1 30 t = zn_I (zl_cs π τ q t)) 2 [.ref 27, .int (zn_I (q : Int)), .int (zn_I (s : Int)), v3, v4, v5] [] M1 := by
    refine zw_loop 8 (P := fun s => ∀ (M1 : zw_M) (v3 v4 v5 : Value), zw_fr [29, 30] M M1 → (∀ t, t < s → M1.1 29 t = zn_I (zl_ce π τ q t) ∧ M1.1 30 t = zn_I (zl_cs π τ q t)) → zw_X l (d + 2) iX2_measureChanges (fun v M1 => v = none ∧ zw_fr [29, 30] M M1 ∧ ∀ t, t < 8 → M1.1 29 t = zn_I (zl_ce π τ q t) ∧ M1.1 30 t = zn_I (zl_cs π τ q t)) 2 [.ref 27, .int (zn_I (q : Int)), .int (zn_I (s : Int)), v3, v4, v5] [] M1) (fun s hs ih M1 v3 v4 v5 hf hc => ?_)
    have hI1 := zI_f hf hI (by decide)
    have hT1 := zT_f hf hT (by decide)
    have pl1 : -1 ≤ zt_place τ (s : Int) (q : Int) ∧ zt_place τ (s : Int) (q : Int) < 30 := by
      unfold zt_place
      split
      · have := hT.2.2.2.2.2.2.2 (s : Int).toNat (by omega) (q : Int).toNat (by omega); omega
      · omega
    have pl2 : -1 ≤ zt_place τ (s : Int) ((q : Int) - 1) ∧ zt_place τ (s : Int) ((q : Int) - 1) < 30 := by
      unfold zt_place
      split
      · have := hT.2.2.2.2.2.2.2 (s : Int).toNat (by omega) ((q : Int) - 1).toNat (by omega); omega
      · omega
    have ee : zt_weighs τ (s : Int) * (zp_at π (zp_e π) (zt_place τ (s : Int) ((q : Int) - 1)) - zp_at π (zp_e π) (zt_place τ (s : Int) (q : Int))) = zl_ce π τ q s ∧ zt_weighs τ (s : Int) * (zp_at π (zp_s π) (zt_place τ (s : Int) ((q : Int) - 1)) - zp_at π (zp_s π) (zt_place τ (s : Int) (q : Int))) = zl_cs π τ q s := by
      unfold zl_ce zl_cs
      rcases Nat.lt_or_ge s τ.1 with r | r
      · have e1 : (q : Int) - 1 = ((q - 1 : Nat) : Int) := by omega
        rw [e1, zt_weighs_in r, zt_place_in r hq.2, zt_place_in r (show q - 1 < 8 by omega), zp_at_in (hT.2.2.2.2.2.2.2 s r q hq.2), zp_at_in (hT.2.2.2.2.2.2.2 s r (q - 1) (by omega)), zp_at_in (hT.2.2.2.2.2.2.2 s r q hq.2), zp_at_in (hT.2.2.2.2.2.2.2 s r (q - 1) (by omega)), if_pos r, if_pos r]
        exact ⟨rfl, rfl⟩
      · rw [zt_weighs_out r, if_neg (by omega), if_neg (by omega)]
        simp
    refine zx_iload_n dX2_measureChanges_2 rfl ?_
    refine zx_bipush (v := zn_I 8) dX2_measureChanges_3 (by decide) ?_
    refine zy_icmp_ge (tgt := 101) dX2_measureChanges_5 (by decide) (by omega) (fun h_5 => ?_) (fun h_5 => ?_)
    · refine zx_vret (st := []) dX2_measureChanges_101 rfl ?_
      exact ⟨rfl, hf, fun t ht => hc t (by omega)⟩
    · refine zx_aload_n dX2_measureChanges_8 rfl ?_
      refine zx_getr dX2_measureChanges_9 fX2_25 ?_
      refine zx_iload_n dX2_measureChanges_12 rfl ?_
      refine zx_iload_n dX2_measureChanges_13 rfl ?_
      refine zx_callV (y1 := iX8_place) dX2_measureChanges_14 lX2_56 vX8_place rc_8 (mX8_place hT1 (z := (s : Int)) (q := (q : Int)) (by omega) (by omega)) rfl rfl (Nat.le_of_ble_eq_true rfl) ?_
      refine zk_i ?_
      refine zx_istore_n dX2_measureChanges_17 rfl (Nat.le_of_ble_eq_true rfl) ?_
      refine zx_aload_n dX2_measureChanges_18 rfl ?_
      refine zx_getr dX2_measureChanges_19 fX2_25 ?_
      refine zx_iload_n dX2_measureChanges_22 rfl ?_
      refine zx_iload_n dX2_measureChanges_23 rfl ?_
      refine zx_iconst (v := zn_I 1) dX2_measureChanges_24 rfl ?_
      refine zy_isub dX2_measureChanges_25 ?_
      refine zx_callV (y1 := iX8_place) dX2_measureChanges_26 lX2_56 vX8_place rc_8 (mX8_place hT1 (z := (s : Int)) (q := (q : Int) - 1) (by omega) (by omega)) rfl rfl (Nat.le_of_ble_eq_true rfl) ?_
      refine zk_i ?_
      refine zx_istore dX2_measureChanges_29 rfl (Nat.le_of_ble_eq_true rfl) ?_
      refine zx_aload_n dX2_measureChanges_31 rfl ?_
      refine zx_getr dX2_measureChanges_32 fX2_25 ?_
      refine zx_iload_n dX2_measureChanges_35 rfl ?_
      refine zx_callV (y1 := iX8_weighs) dX2_measureChanges_36 lX2_60 vX8_weighs rc_8 (mX8_weighs hT1 (z := (s : Int)) (by omega)) rfl rfl (Nat.le_of_ble_eq_true rfl) ?_
      refine zk_i ?_
      refine zx_istore dX2_measureChanges_39 rfl (Nat.le_of_ble_eq_true rfl) ?_
      refine zx_aload_n dX2_measureChanges_41 rfl ?_
      refine zx_getr dX2_measureChanges_42 fX2_15 ?_
      refine zx_iload_n dX2_measureChanges_45 rfl ?_
      refine zx_iload dX2_measureChanges_46 rfl ?_
      refine zx_aload_n dX2_measureChanges_48 rfl ?_
      refine zx_getr dX2_measureChanges_49 fX2_21 ?_
      refine zx_iload dX2_measureChanges_52 rfl ?_
      refine zx_callV (y1 := iX1_east) dX2_measureChanges_54 lX2_63 vX1_east rc_4 (mX1_east hI1 (by omega)) rfl rfl (Nat.le_of_ble_eq_true rfl) ?_
      refine zk_i ?_
      refine zx_aload_n dX2_measureChanges_57 rfl ?_
      refine zx_getr dX2_measureChanges_58 fX2_21 ?_
      refine zx_iload_n dX2_measureChanges_61 rfl ?_
      refine zx_callV (y1 := iX1_east) dX2_measureChanges_62 lX2_63 vX1_east rc_4 (mX1_east hI1 (by omega)) rfl rfl (Nat.le_of_ble_eq_true rfl) ?_
      refine zk_i ?_
      refine zy_isub dX2_measureChanges_65 ?_
      refine zy_imul dX2_measureChanges_66 ?_
      rw [ee.1]
      refine zy_iast dX2_measureChanges_67 rfl (by decide) rfl (by omega) ?_
      refine zx_aload_n dX2_measureChanges_68 rfl ?_
      refine zx_getr dX2_measureChanges_69 fX2_18 ?_
      refine zx_iload_n dX2_measureChanges_72 rfl ?_
      refine zx_iload dX2_measureChanges_73 rfl ?_
      refine zx_aload_n dX2_measureChanges_75 rfl ?_
      refine zx_getr dX2_measureChanges_76 fX2_21 ?_
      refine zx_iload dX2_measureChanges_79 rfl ?_
      refine zx_callV (y1 := iX1_south) dX2_measureChanges_81 lX2_68 vX1_south rc_4 (mX1_south (zI_f (zf_s hf (by decide)) hI (by decide)) (by omega)) rfl rfl (Nat.le_of_ble_eq_true rfl) ?_
      refine zk_i ?_
      refine zx_aload_n dX2_measureChanges_84 rfl ?_
      refine zx_getr dX2_measureChanges_85 fX2_21 ?_
      refine zx_iload_n dX2_measureChanges_88 rfl ?_
      refine zx_callV (y1 := iX1_south) dX2_measureChanges_89 lX2_68 vX1_south rc_4 (mX1_south (zI_f (zf_s hf (by decide)) hI (by decide)) (by omega)) rfl rfl (Nat.le_of_ble_eq_true rfl) ?_
      refine zk_i ?_
      refine zy_isub dX2_measureChanges_92 ?_
      refine zy_imul dX2_measureChanges_93 ?_
      rw [ee.2]
      refine zy_iast dX2_measureChanges_94 rfl (by decide) rfl (by omega) ?_
      refine zy_iinc dX2_measureChanges_95 rfl rfl ?_
      refine zx_goto (tgt := 2) dX2_measureChanges_98 (by decide) ?_
      refine ih (by omega) _ _ _ _ (zf_s (zf_s hf (by decide)) (by decide)) (fun t ht => ?_)
      by_cases e : t = s
      · subst e; refine ⟨?_, ?_⟩ <;> simp [zw_s]
      · have := hc t (by omega)
        refine ⟨?_, ?_⟩ <;> simp [zw_s, e, this.1, this.2]
  refine zx_iconst (v := zn_I 0) dX2_measureChanges_0 rfl ?_
  refine zx_istore_n dX2_measureChanges_1 rfl (Nat.le_of_ble_eq_true rfl) ?_
  exact loop 0 (by omega) M _ _ _ zf_rf (fun t ht => absurd ht (by omega))
set_option maxRecDepth 100000 in
set_option maxHeartbeats 600000 in
theorem mX2_wetDoorsIfLate {l : zw_Lh} {d : Nat} {M : zw_M} {π : zP} (hI : zI M π) {f g : Nat → Int} (hc : ∀ t, t < 8 → (M.1 29 t = zn_I (f t) ∧ M.1 30 t = zn_I (g t)) ∧ (-2000 ≤ f t ∧ f t ≤ 2000) ∧ -2000 ≤ g t ∧ g t ≤ 2000) {set : Nat} (hset : set < 256) {E S : Int} (hE : -100000 ≤ E ∧ E ≤ 100000) (hS : -100000 ≤ S ∧ S ≤ 100000) : zw_C l (d + 1) iX2_wetDoorsIfLate [.ref 27, .int (zn_I (set : Int)), .int (zn_I E), .int (zn_I S)] M (zw_i (zn_I (zp_bits π (E + zl_add f set 8) (S + zl_add g set 8) (zp_n π) : Nat)) M) := by
  have r1 := zl_add_rng (set := set) (fun t ht => (hc t ht).2.1) 8 (Nat.le_refl 8)
  have r2 := zl_add_rng (set := set) (fun t ht => (hc t ht).2.2) 8 (Nat.le_refl 8)
  refine zw_of (by decide +kernel) (Nat.le_of_ble_eq_true rfl) ?_
  refine zy_loc (L1 := [.ref 27, .int (zn_I (set : Int)), .int (zn_I E), .int (zn_I S), .retAddr 0, .retAddr 0, .retAddr 0]) rfl ?_
  have loop : ∀ t : Nat, t ≤ 8 → zw_X l (d + 1) iX2_wetDoorsIfLate (zw_i (zn_I (zp_bits π (E + zl_add f set 8) (S + zl_add g set 8) (zp_n π) : Nat)) M) 9 [.ref 27, .int (zn_I (set : Int)), .int (zn_I E), .int (zn_I S), .int (zn_I (E + zl_add f set t)), .int (zn_I (S + zl_add g set t)), .int (zn_I (t : Int))] [] M := by
    refine zw_loop 8 (P := fun t => zw_X l (d + 1) iX2_wetDoorsIfLate (zw_i (zn_I (zp_bits π (E + zl_add f set 8) (S + zl_add g set 8) (zp_n π) : Nat)) M) 9 [.ref 27, .int (zn_I (set : Int)), .int (zn_I E), .int (zn_I S), .int (zn_I (E + zl_add f set t)), .int (zn_I (S + zl_add g set t)), .int (zn_I (t : Int))] [] M) (fun t ht ih => ?_)
    refine zx_iload dX2_wetDoorsIfLate_9 rfl ?_
    refine zx_bipush (v := zn_I 8) dX2_wetDoorsIfLate_11 (by decide) ?_
    refine zy_icmp_ge (tgt := 55) dX2_wetDoorsIfLate_13 (by decide) (by omega) (fun h_13 => ?_) (fun h_13 => ?_)
    · have et : t = 8 := by omega
      subst et
      refine zx_aload_n dX2_wetDoorsIfLate_55 rfl ?_
      refine zx_getr dX2_wetDoorsIfLate_56 fX2_21 ?_
      refine zx_iload dX2_wetDoorsIfLate_59 rfl ?_
      refine zx_iload dX2_wetDoorsIfLate_61 rfl ?_
      refine zx_callV (y1 := iX1_wetDoors) dX2_wetDoorsIfLate_63 lX2_71 vX1_wetDoors rc_4 (mX1_wetDoors hI (by omega) (by omega)) rfl rfl (Nat.le_of_ble_eq_true rfl) ?_
      refine zk_i ?_
      refine zx_iret (st := []) dX2_wetDoorsIfLate_66 rfl rfl ?_
      exact ⟨rfl, rfl⟩
    · refine zx_iload_n dX2_wetDoorsIfLate_16 rfl ?_
      refine zx_iconst (v := zn_I 1) dX2_wetDoorsIfLate_17 rfl ?_
      refine zx_iload dX2_wetDoorsIfLate_18 rfl ?_
      refine zx_ishl dX2_wetDoorsIfLate_20 ?_
      refine zy_top (show _ = zn_I ((2 ^ t : Nat) : Int) from by rw [zb_one t (by omega), zn_nat]) ?_
      refine zx_iand dX2_wetDoorsIfLate_21 ?_
      refine zy_top (zb_and _ _) ?_
      have hml : set &&& 2 ^ t ≤ 2 ^ t := Nat.and_le_right
      have h26 : 2 ^ t ≤ 2 ^ 8 := Nat.pow_le_pow_right (by decide) (by omega)
      have htb := zb_tb set t
      refine zy_if_eq (tgt := 49) dX2_wetDoorsIfLate_22 (by decide) (by omega) (fun h_22 => ?_) (fun h_22 => ?_)
      · refine zy_iinc dX2_wetDoorsIfLate_49 rfl rfl ?_
        refine zx_goto (tgt := 9) dX2_wetDoorsIfLate_52 (by decide) ?_
        have e1 : zl_add f set (t + 1) = zl_add f set t := by rw [zl_add, if_neg (by rw [htb.mp (by omega)]; decide), Int.add_zero]
        have e2 : zl_add g set (t + 1) = zl_add g set t := by rw [zl_add, if_neg (by rw [htb.mp (by omega)]; decide), Int.add_zero]
        have h9 := ih (by omega)
        rw [e1, e2] at h9
        exact h9
      · refine zx_iload dX2_wetDoorsIfLate_25 rfl ?_
        refine zx_aload_n dX2_wetDoorsIfLate_27 rfl ?_
        refine zx_getr dX2_wetDoorsIfLate_28 fX2_15 ?_
        refine zx_iload dX2_wetDoorsIfLate_31 rfl ?_
        refine zy_iald dX2_wetDoorsIfLate_33 rfl (by decide) rfl (by omega) ((hc t (by omega)).1.1) ?_
        refine zy_iadd dX2_wetDoorsIfLate_34 ?_
        refine zx_istore dX2_wetDoorsIfLate_35 rfl (Nat.le_of_ble_eq_true rfl) ?_
        refine zx_iload dX2_wetDoorsIfLate_37 rfl ?_
        refine zx_aload_n dX2_wetDoorsIfLate_39 rfl ?_
        refine zx_getr dX2_wetDoorsIfLate_40 fX2_18 ?_
        refine zx_iload dX2_wetDoorsIfLate_43 rfl ?_
        refine zy_iald dX2_wetDoorsIfLate_45 rfl (by decide) rfl (by omega) ((hc t (by omega)).1.2) ?_
        refine zy_iadd dX2_wetDoorsIfLate_46 ?_
        refine zx_istore dX2_wetDoorsIfLate_47 rfl (Nat.le_of_ble_eq_true rfl) ?_
        refine zy_iinc dX2_wetDoorsIfLate_49 rfl rfl ?_
        refine zx_goto (tgt := 9) dX2_wetDoorsIfLate_52 (by decide) ?_
        have htt : set.testBit t = true := by
          cases e : set.testBit t with
          | true => rfl
          | false => exact absurd (htb.mpr e) (by omega)
        have e1 : E + zl_add f set (t + 1) = E + zl_add f set t + f t := by rw [zl_add, if_pos htt, Int.add_assoc]
        have e2 : S + zl_add g set (t + 1) = S + zl_add g set t + g t := by rw [zl_add, if_pos htt, Int.add_assoc]
        have h9 := ih (by omega)
        rw [e1, e2] at h9
        exact h9
  refine zx_iload_n dX2_wetDoorsIfLate_0 rfl ?_
  refine zx_istore dX2_wetDoorsIfLate_1 rfl (Nat.le_of_ble_eq_true rfl) ?_
  refine zx_iload_n dX2_wetDoorsIfLate_3 rfl ?_
  refine zx_istore dX2_wetDoorsIfLate_4 rfl (Nat.le_of_ble_eq_true rfl) ?_
  refine zx_iconst (v := zn_I 0) dX2_wetDoorsIfLate_6 rfl ?_
  refine zx_istore dX2_wetDoorsIfLate_7 rfl (Nat.le_of_ble_eq_true rfl) ?_
  have h9 := loop 0 (by omega)
  rw [show E + zl_add f set 0 = E from Int.add_zero E, show S + zl_add g set 0 = S from Int.add_zero S] at h9
  exact h9
set_option maxRecDepth 100000 in
set_option maxHeartbeats 600000 in
theorem mX2_search {l : zw_Lh} {d : Nat} {M : zw_M} {π : zP} {τ : zQ} (hI : zI M π) (hT : zT M (zp_n π) τ) {q : Nat} (hq : 1 ≤ q ∧ q < 8) {doors : Int} (hdo : 0 ≤ doors ∧ doors < 1073741824) : zw_C l (d + 4) iX2_search [.ref 27, .int (zn_I (q : Int)), .int (zn_I doors)] M (fun v M1 => v = none ∧ zw_fr [28, 29, 30] M M1 ∧ ∀ j, j < 3 → M1.1 28 j = zn_I (zl_ans π τ q doors j : Nat)) := by
  have hp := hI.1
  have h30 := zp_30 hp
  have h8 := hT.1
  refine zw_of (by decide +kernel) (Nat.le_of_ble_eq_true rfl) ?_
  refine zy_loc (L1 := [.ref 27, .int (zn_I (q : Int)), .int (zn_I doors), .retAddr 0, .retAddr 0, .retAddr 0, .retAddr 0, .retAddr 0, .retAddr 0, .retAddr 0]) rfl ?_
  refine zx_aload_n dX2_search_0 rfl ?_
  refine zx_iload_n dX2_search_1 rfl ?_
  refine zx_callV (y1 := iX2_measureChanges) dX2_search_2 lX2_33 vX2_measureChanges rc_27 (mX2_measureChanges hI hT hq) rfl rfl (Nat.le_of_ble_eq_true rfl) ?_
  intro v M1 he
  obtain ⟨rfl, hf, hc⟩ := he
  have hI1 := zI_f hf hI (by decide)
  have hT1 := zT_f hf hT (by decide)
  have hpb := zt_pb_8 hT
  have hlr := zl_rng hp hT hq.2
  have loop : ∀ s : Nat, s ≤ zt_pb τ τ.1 + 1 → zw_X l (d + 4) iX2_search (fun v M1 => v = none ∧ zw_fr [28, 29, 30] M M1 ∧ ∀ j, j < 3 → M1.1 28 j = zn_I (zl_ans π τ q doors j : Nat)) 45 [.ref 27, .int (zn_I (q : Int)), .int (zn_I doors), .int (zn_I (zt_pb τ τ.1 : Nat)), .int (zn_I (zl_E π τ q)), .int (zn_I (zl_S π τ q)), .int (zn_I ((zl_go (zl_ok π τ q doors) (zt_pb τ τ.1) s).1 : Nat)), .int (zn_I ((zl_go (zl_ok π τ q doors) (zt_pb τ τ.1) s).2.1 : Nat)), .int (zn_I ((zl_go (zl_ok π τ q doors) (zt_pb τ τ.1) s).2.2 : Nat)), .int (zn_I (s : Int))] [] M1 := by
    refine zw_loop (zt_pb τ τ.1 + 1) (P := fun s => zw_X l (d + 4) iX2_search (fun v M1 => v = none ∧ zw_fr [28, 29, 30] M M1 ∧ ∀ j, j < 3 → M1.1 28 j = zn_I (zl_ans π τ q doors j : Nat)) 45 [.ref 27, .int (zn_I (q : Int)), .int (zn_I doors), .int (zn_I (zt_pb τ τ.1 : Nat)), .int (zn_I (zl_E π τ q)), .int (zn_I (zl_S π τ q)), .int (zn_I ((zl_go (zl_ok π τ q doors) (zt_pb τ τ.1) s).1 : Nat)), .int (zn_I ((zl_go (zl_ok π τ q doors) (zt_pb τ τ.1) s).2.1 : Nat)), .int (zn_I ((zl_go (zl_ok π τ q doors) (zt_pb τ τ.1) s).2.2 : Nat)), .int (zn_I (s : Int))] [] M1) (fun s hs ih => ?_)
    have hgr := zl_go_rng (f := zl_ok π τ q doors) hpb s (by omega)
    refine zx_iload dX2_search_45 rfl ?_
    refine zx_iload_n dX2_search_47 rfl ?_
    refine zy_icmp_gt (tgt := 97) dX2_search_48 (by decide) (by omega) (fun h_48 => ?_) (fun h_48 => ?_)
    · have es : s = zt_pb τ τ.1 + 1 := by omega
      subst es
      refine zx_aload_n dX2_search_97 rfl ?_
      refine zx_getr dX2_search_98 fX2_11 ?_
      refine zx_iconst (v := zn_I 0) dX2_search_101 rfl ?_
      refine zx_iload dX2_search_102 rfl ?_
      refine zy_iast (i := 0) dX2_search_104 rfl (by decide) (by omega) (by omega) ?_
      refine zx_aload_n dX2_search_105 rfl ?_
      refine zx_getr dX2_search_106 fX2_11 ?_
      refine zx_iconst (v := zn_I 1) dX2_search_109 rfl ?_
      refine zx_iload dX2_search_110 rfl ?_
      refine zy_if_ne (tgt := 119) dX2_search_112 (by decide) (by omega) (fun h_112 => ?_) (fun h_112 => ?_)
      · refine zx_iload dX2_search_119 rfl ?_
        refine zy_iast (i := 1) dX2_search_121 rfl (by decide) (by omega) (by omega) ?_
        refine zx_aload_n dX2_search_122 rfl ?_
        refine zx_getr dX2_search_123 fX2_11 ?_
        refine zx_iconst (v := zn_I 2) dX2_search_126 rfl ?_
        refine zx_iload dX2_search_127 rfl ?_
        refine zy_iast (i := 2) dX2_search_129 rfl (by decide) (by omega) (by omega) ?_
        refine zx_vret (st := []) dX2_search_130 rfl ?_
        refine ⟨rfl, zf_s (zf_s (zf_s (zf_mono hf (by decide)) (by decide)) (by decide)) (by decide), fun j hj => ?_⟩
        have hn : ¬ (zl_late π τ q doors).1 = 0 := by unfold zl_late; omega
        rcases (show j = 0 ∨ j = 1 ∨ j = 2 by omega) with e | e | e <;> subst e <;> simp [zw_s, zl_ans, hn] <;> rfl
      · refine zx_iconst (v := zn_I 0) dX2_search_115 rfl ?_
        refine zx_goto (tgt := 121) dX2_search_116 (by decide) ?_
        refine zy_iast (i := 1) dX2_search_121 rfl (by decide) (by omega) (by omega) ?_
        refine zx_aload_n dX2_search_122 rfl ?_
        refine zx_getr dX2_search_123 fX2_11 ?_
        refine zx_iconst (v := zn_I 2) dX2_search_126 rfl ?_
        refine zx_iload dX2_search_127 rfl ?_
        refine zy_iast (i := 2) dX2_search_129 rfl (by decide) (by omega) (by omega) ?_
        refine zx_vret (st := []) dX2_search_130 rfl ?_
        refine ⟨rfl, zf_s (zf_s (zf_s (zf_mono hf (by decide)) (by decide)) (by decide)) (by decide), fun j hj => ?_⟩
        have hn : (zl_late π τ q doors).1 = 0 := by unfold zl_late; omega
        rcases (show j = 0 ∨ j = 1 ∨ j = 2 by omega) with e | e | e
        · subst e; simp [zw_s, zl_ans]; rfl
        · subst e; simp [zw_s, zl_ans, hn]
        · subst e; simp [zw_s, zl_ans]; rfl
    · refine zx_iload dX2_search_51 rfl ?_
      refine zx_iload_n dX2_search_53 rfl ?_
      refine zx_iconst (v := zn_I (-1)) dX2_search_54 rfl ?_
      refine zx_ixor dX2_search_55 ?_
      refine zx_iand dX2_search_56 ?_
      refine zx_if_ne (tgt := 91) dX2_search_57 (by decide) (fun h_57 => ?_) (fun h_57 => ?_)
      · refine zy_iinc dX2_search_91 rfl rfl ?_
        refine zx_goto (tgt := 45) dX2_search_94 (by decide) ?_
        have hok : zl_ok π τ q doors s = false := by unfold zl_ok; rw [decide_eq_false h_57]; rfl
        have h9 := ih (by omega)
        rw [zl_go, if_neg (by rw [hok]; decide)] at h9
        exact h9
      · refine zx_aload_n dX2_search_60 rfl ?_
        refine zx_iload dX2_search_61 rfl ?_
        refine zx_iload dX2_search_63 rfl ?_
        refine zx_iload dX2_search_65 rfl ?_
        refine zx_callV (y1 := iX2_wetDoorsIfLate) dX2_search_67 lX2_52 vX2_wetDoorsIfLate rc_27 (mX2_wetDoorsIfLate hI1 (f := zl_ce π τ q) (g := zl_cs π τ q) (fun t ht => ⟨hc t ht, zl_c_rng hp hT hq t⟩) (set := s) (by omega) (by omega) (by omega)) rfl rfl (Nat.le_of_ble_eq_true rfl) ?_
        refine zk_i ?_
        refine zx_iload_n dX2_search_70 rfl ?_
        refine zy_icmp_ne (tgt := 91) dX2_search_71 (by decide) (by have := zp_bits_30 hp (zl_E π τ q + zl_add (zl_ce π τ q) s 8) (zl_S π τ q + zl_add (zl_cs π τ q) s 8); omega) (fun h_71 => ?_) (fun h_71 => ?_)
        · refine zy_iinc dX2_search_91 rfl rfl ?_
          refine zx_goto (tgt := 45) dX2_search_94 (by decide) ?_
          have hok : zl_ok π τ q doors s = false := by unfold zl_ok; rw [decide_eq_false (p := (zl_if π τ q s : Int) = doors) h_71, Bool.and_false]
          have h9 := ih (by omega)
          rw [zl_go, if_neg (by rw [hok]; decide)] at h9
          exact h9
        · refine zy_iinc dX2_search_74 rfl rfl ?_
          refine zx_iload dX2_search_77 rfl ?_
          refine zx_iload dX2_search_79 rfl ?_
          refine zx_iand dX2_search_81 ?_
          refine zy_top (zb_and _ _) ?_
          refine zx_istore dX2_search_82 rfl (Nat.le_of_ble_eq_true rfl) ?_
          refine zx_iload dX2_search_84 rfl ?_
          refine zx_iload dX2_search_86 rfl ?_
          refine zx_ior dX2_search_88 ?_
          refine zy_top (zb_or2 _ _) ?_
          refine zx_istore dX2_search_89 rfl (Nat.le_of_ble_eq_true rfl) ?_
          refine zy_iinc dX2_search_91 rfl rfl ?_
          refine zx_goto (tgt := 45) dX2_search_94 (by decide) ?_
          have hok : zl_ok π τ q doors s = true := by unfold zl_ok; rw [decide_eq_true h_57, decide_eq_true (p := (zl_if π τ q s : Int) = doors) h_71]; rfl
          have h9 := ih (by omega)
          rw [zl_go, if_pos hok] at h9
          exact h9
  refine zx_aload_n dX2_search_5 rfl ?_
  refine zx_getr dX2_search_6 fX2_25 ?_
  refine zx_callV (y1 := iX8_peopleBits) dX2_search_9 lX2_37 vX8_peopleBits rc_8 (mX8_peopleBits hT1) rfl rfl (Nat.le_of_ble_eq_true rfl) ?_
  refine zk_i ?_
  refine zx_istore_n dX2_search_12 rfl (Nat.le_of_ble_eq_true rfl) ?_
  refine zx_aload_n dX2_search_13 rfl ?_
  refine zx_getr dX2_search_14 fX2_29 ?_
  refine zx_iload_n dX2_search_17 rfl ?_
  refine zx_callV (y1 := iX0_leanEast) dX2_search_18 lX2_43 vX0_leanEast rc_13 (mX0_leanEast hI1 hT1 hq.2) rfl rfl (Nat.le_of_ble_eq_true rfl) ?_
  refine zk_i ?_
  refine zx_istore dX2_search_21 rfl (Nat.le_of_ble_eq_true rfl) ?_
  refine zx_aload_n dX2_search_23 rfl ?_
  refine zx_getr dX2_search_24 fX2_29 ?_
  refine zx_iload_n dX2_search_27 rfl ?_
  refine zx_callV (y1 := iX0_leanSouth) dX2_search_28 lX2_49 vX0_leanSouth rc_13 (mX0_leanSouth hI1 hT1 hq.2) rfl rfl (Nat.le_of_ble_eq_true rfl) ?_
  refine zk_i ?_
  refine zx_istore dX2_search_31 rfl (Nat.le_of_ble_eq_true rfl) ?_
  refine zx_iconst (v := zn_I 0) dX2_search_33 rfl ?_
  refine zx_istore dX2_search_34 rfl (Nat.le_of_ble_eq_true rfl) ?_
  refine zx_iload_n dX2_search_36 rfl ?_
  refine zx_istore dX2_search_37 rfl (Nat.le_of_ble_eq_true rfl) ?_
  refine zx_iconst (v := zn_I 0) dX2_search_39 rfl ?_
  refine zx_istore dX2_search_40 rfl (Nat.le_of_ble_eq_true rfl) ?_
  refine zx_iconst (v := zn_I 0) dX2_search_42 rfl ?_
  refine zx_istore dX2_search_43 rfl (Nat.le_of_ble_eq_true rfl) ?_
  exact loop 0 (by omega)
end
section
/-! the people of the things -/
theorem ze_getD {p : List Nat} {x i : Nat} (h : i < p.length) : (p ++ [x]).getD i 0 = p.getD i 0 := by
  simp [List.getD, List.getElem?_append_left h]
def zt_pl (τ : zQ) : Nat → List Nat
  | 0 => []
  | t + 1 => if zt_per τ t then zt_pl τ t ++ [t] else zt_pl τ t
theorem zt_pl_mem {τ : zQ} : ∀ {t x : Nat}, x ∈ zt_pl τ t → x < t ∧ zt_per τ x
  | 0, x, h => by simp [zt_pl] at h
  | t + 1, x, h => by
    rw [zt_pl] at h
    split at h
    · next hp =>
      rcases List.mem_append.mp h with q | q
      · have := zt_pl_mem q; exact ⟨by omega, this.2⟩
      · rw [List.mem_singleton.mp q]; exact ⟨by omega, hp⟩
    · have := zt_pl_mem h; exact ⟨by omega, this.2⟩
theorem zt_pl_keep {τ : zQ} {t : Nat} : ∀ {u : Nat}, t ≤ u → (zt_pl τ t).length ≤ (zt_pl τ u).length ∧ ∀ i, i < (zt_pl τ t).length → (zt_pl τ u).getD i 0 = (zt_pl τ t).getD i 0
  | 0, h => by
    have : t = 0 := by omega
    subst this
    exact ⟨Nat.le_refl _, fun _ _ => rfl⟩
  | u + 1, h => by
    rcases Nat.lt_or_ge t (u + 1) with r | r
    · have ih := zt_pl_keep (τ := τ) (t := t) (u := u) (by omega)
      rw [zt_pl]
      split
      · refine ⟨by rw [List.length_append]; omega, fun i hi => ?_⟩
        rw [ze_getD (by omega)]
        exact ih.2 i hi
      · exact ih
    · have : t = u + 1 := by omega
      subst this
      exact ⟨Nat.le_refl _, fun _ _ => rfl⟩
theorem zt_pl_pop {τ : zQ} : ∀ t, t ≤ 8 → zb_pop 32 (zt_pb τ t) = (zt_pl τ t).length
  | 0, _ => by simp [zt_pb, zt_pl, zb_pop_0]
  | t + 1, h => by
    have ih := zt_pl_pop (τ := τ) t (by omega)
    rw [zt_pb, zt_pl]
    split
    · rw [zb_pop_put t 32 _ (zt_pb_lt τ t) (by omega), ih, List.length_append]
      rfl
    · rw [Nat.add_zero, ih]
def zt_m (τ : zQ) : Nat := (zt_pl τ τ.1).length
end
section
/-! THE LEAVES THAT WRITE: things moved, added, kept, put back; which bits tell squares -/
/-- one thing stands elsewhere -/
def zt_mv (τ : zQ) (t : Nat) (f : Nat → Nat) : zQ := (τ.1, τ.2.1, τ.2.2.1, fun u => if u = t then f else τ.2.2.2 u)
/-- one thing more -/
def zt_new (τ : zQ) (k w : Int) (s : Nat) : zQ := (τ.1 + 1, fun u => if u = τ.1 then k else τ.2.1 u, fun u => if u = τ.1 then w else τ.2.2.1 u, fun u => if u = τ.1 then fun _ => s else τ.2.2.2 u)
theorem zT_mv {M M1 : zw_M} {n : Nat} {τ : zQ} (hT : zT M n τ) {t : Nat} {f : Nat → Nat} (hf : zw_fr [11] M M1) (h1 : ∀ q, q < 8 → M1.1 11 (t * 8 + q) = zn_I (f q : Nat)) (h2 : ∀ k, (k < t * 8 ∨ t * 8 + 8 ≤ k) → M1.1 11 k = M.1 11 k) (h3 : ∀ q, q < 8 → f q < n) : zT M1 n (zt_mv τ t f) := by
  obtain ⟨h8, hk, hK, hW, hP, hKr, hWr, hPr⟩ := hT
  refine ⟨h8, by rw [(hf 8 (by decide)).1]; exact hk, fun u hu => by rw [(hf 9 (by decide)).1]; exact hK u hu, fun u hu => by rw [(hf 10 (by decide)).1]; exact hW u hu, fun u hu q hq => ?_, hKr, hWr, fun u hu q hq => ?_⟩
  · by_cases e : u = t
    · subst e
      rw [h1 q hq]; simp [zt_mv]
    · rw [h2 _ (by omega), hP u hu q hq]
      simp [zt_mv, e]
  · by_cases e : u = t
    · subst e; simpa [zt_mv] using h3 q hq
    · simpa [zt_mv, e] using hPr u hu q hq
theorem zT_new {M M1 : zw_M} {n : Nat} {τ : zQ} (hT : zT M n τ) {k w : Int} {s : Nat} (h8 : M1.1 8 4 = zn_I (τ.1 + 1)) (h9 : ∀ u, u ≤ τ.1 → M1.1 9 u = if u = τ.1 then zn_I k else M.1 9 u) (h10 : ∀ u, u ≤ τ.1 → M1.1 10 u = if u = τ.1 then zn_I w else M.1 10 u) (h11 : ∀ j, M1.1 11 j = if τ.1 * 8 ≤ j ∧ j < τ.1 * 8 + 8 then zn_I (s : Nat) else M.1 11 j) (ht : τ.1 < 8) (hk : 0 ≤ k ∧ k ≤ 4) (hw : 1 ≤ w ∧ w ≤ 99) (hs : s < n) : zT M1 n (zt_new τ k w s) := by
  obtain ⟨_, _, hK, hW, hP, hKr, hWr, hPr⟩ := hT
  refine ⟨by show τ.1 + 1 ≤ 8; omega, h8, fun u hu => ?_, fun u hu => ?_, fun u hu q hq => ?_, fun u hu => ?_, fun u hu => ?_, fun u hu q hq => ?_⟩
  all_goals have hu1 : u < τ.1 + 1 := hu
  all_goals by_cases e : u = τ.1
  · rw [h9 u (by omega)]; simp [zt_new, e]
  · rw [h9 u (by omega), if_neg e, hK u (by omega)]; simp [zt_new, e]
  · rw [h10 u (by omega)]; simp [zt_new, e]
  · rw [h10 u (by omega), if_neg e, hW u (by omega)]; simp [zt_new, e]
  · rw [h11, if_pos (by omega)]; simp [zt_new, e]
  · rw [h11, if_neg (by omega), hP u (by omega) q hq]; simp [zt_new, e]
  · simpa [zt_new, e] using hk
  · simpa [zt_new, e] using hKr u (by omega)
  · simpa [zt_new, e] using hw
  · simpa [zt_new, e] using hWr u (by omega)
  · simpa [zt_new, e] using hs
  · simpa [zt_new, e] using hPr u (by omega) q hq
theorem zw_C_mem {l : zw_Lh} {d : Nat} {y : zw_I} {vs : List Value} {M M1 : zw_M} {Q : Option Value → zw_M → Prop} (h : M = M1) (hc : zw_C l d y vs M1 Q) : zw_C l d y vs M Q := by rw [h]; exact hc
theorem zb_hi : ∀ k : Nat, k ≤ 30 → (((zn_I (k : Int)).toUInt32 &&& Int32.toUInt32 31).toBitVec % 32).toNat = k := by decide +kernel
theorem zb_sq {b : Int} {k : Nat} (hb : 0 ≤ b ∧ b < 2147483648) : b.toNat / 2 ^ k = 0 ↔ b < (2 ^ k : Nat) := by
  rw [Nat.div_eq_zero_iff]
  have := Nat.two_pow_pos k
  omega
set_option maxRecDepth 100000 in
set_option maxHeartbeats 600000 in
theorem mX8_has_k {l : zw_Lh} {d : Nat} {M : zw_M} {k : Nat} (hk : M.1 8 4 = zn_I (k : Nat)) (h8 : k ≤ 8) {z : Int} (hz : -2147483648 ≤ z ∧ z < 2147483648) : zw_C l d iX8_has [.ref 8, .int (zn_I z)] M (zw_i (zn_B (0 ≤ z ∧ z < k)) M) := by
  refine zw_of (by decide +kernel) (Nat.le_of_ble_eq_true rfl) ?_
  refine zy_loc (L1 := [.ref 8, .int (zn_I z)]) rfl ?_
  refine zx_iload_n dX8_has_0 rfl ?_
  refine zy_if_lt (tgt := 16) dX8_has_1 (by decide) (by omega) (fun h_1 => ?_) (fun h_1 => ?_)
  · refine zx_iconst (v := zn_I 0) dX8_has_16 rfl ?_
    refine zx_iret (st := []) dX8_has_17 rfl rfl ?_
    first | exact zk_B (zn_Bt (by omega)) | exact zk_B (zn_Bf (by omega))
  · refine zx_iload_n dX8_has_4 rfl ?_
    refine zx_aload_n dX8_has_5 rfl ?_
    refine zy_geti dX8_has_6 fX8_28 (hk) ?_
    refine zy_icmp_ge (tgt := 16) dX8_has_9 (by decide) (by omega) (fun h_9 => ?_) (fun h_9 => ?_)
    · refine zx_iconst (v := zn_I 0) dX8_has_16 rfl ?_
      refine zx_iret (st := []) dX8_has_17 rfl rfl ?_
      first | exact zk_B (zn_Bt (by omega)) | exact zk_B (zn_Bf (by omega))
    · refine zx_iconst (v := zn_I 1) dX8_has_12 rfl ?_
      refine zx_goto (tgt := 17) dX8_has_13 (by decide) ?_
      refine zx_iret (st := []) dX8_has_17 rfl rfl ?_
      first | exact zk_B (zn_Bt (by omega)) | exact zk_B (zn_Bf (by omega))
set_option maxRecDepth 100000 in
set_option maxHeartbeats 600000 in
theorem mX8_move_k {l : zw_Lh} {d : Nat} {M : zw_M} {k : Nat} (hk : M.1 8 4 = zn_I (k : Nat)) (h8 : k ≤ 8) {t q : Nat} (ht : t < k) (hq : q < 8) {x : Int32} : zw_C l (d + 1) iX8_move [.ref 8, .int (zn_I (t : Int)), .int (zn_I (q : Int)), .int x] M (zw_u (zw_s M 11 (t * 8 + q) x)) := by
  refine zw_of (by decide +kernel) (Nat.le_of_ble_eq_true rfl) ?_
  refine zy_loc (L1 := [.ref 8, .int (zn_I (t : Int)), .int (zn_I (q : Int)), .int x]) rfl ?_
  refine zx_aload_n dX8_move_0 rfl ?_
  refine zx_iload_n dX8_move_1 rfl ?_
  refine zx_callV (y1 := iX8_has) dX8_move_2 lX8_35 vX8_has rc_8 (mX8_has_k hk h8 (by omega)) rfl rfl (Nat.le_of_ble_eq_true rfl) ?_
  refine zk_i ?_
  refine zy_ifB_eq (tgt := 27) dX8_move_5 (by decide) (fun h_5 => ?_) (fun h_5 => ?_)
  · exact absurd ⟨by omega, by omega⟩ h_5
  · refine zx_iload_n dX8_move_8 rfl ?_
    refine zx_callN (y1 := iX10_isQuarter) (host := "IslandThatLeans") dX8_move_9 (by decide) sX10_isQuarter (mX10_isQuarter (by omega)) rfl rfl (Nat.le_of_ble_eq_true rfl) ?_
    refine zk_i ?_
    refine zy_ifB_eq (tgt := 27) dX8_move_12 (by decide) (fun h_12 => ?_) (fun h_12 => ?_)
    · exact absurd ⟨by omega, by omega⟩ h_12
    · refine zx_aload_n dX8_move_15 rfl ?_
      refine zx_getr dX8_move_16 fX8_18 ?_
      refine zx_iload_n dX8_move_19 rfl ?_
      refine zx_bipush (v := zn_I 8) dX8_move_20 (by decide) ?_
      refine zy_imul dX8_move_22 ?_
      refine zx_iload_n dX8_move_23 rfl ?_
      refine zy_iadd dX8_move_24 ?_
      refine zx_iload_n dX8_move_25 rfl ?_
      refine zy_iast (i := t * 8 + q) dX8_move_26 rfl (by decide) (by omega) (by omega) ?_
      refine zx_vret (st := []) dX8_move_27 rfl ?_
      exact ⟨rfl, rfl⟩
set_option maxRecDepth 100000 in
set_option maxHeartbeats 600000 in
theorem mX8_moveAllDay {l : zw_Lh} {d : Nat} {M : zw_M} {k : Nat} (hk : M.1 8 4 = zn_I (k : Nat)) (h8 : k ≤ 8) {t : Nat} (ht : t < k) {x : Int32} : zw_C l (d + 2) iX8_moveAllDay [.ref 8, .int (zn_I (t : Int)), .int x] M (fun v M1 => v = none ∧ zw_fr [11] M M1 ∧ ∀ j, M1.1 11 j = if t * 8 ≤ j ∧ j < t * 8 + 8 then x else M.1 11 j) := by
  refine zw_of (by decide +kernel) (Nat.le_of_ble_eq_true rfl) ?_
  refine zy_loc (L1 := [.ref 8, .int (zn_I (t : Int)), .int x, .retAddr 0]) rfl ?_
  have loop : ∀ s : Nat, s ≤ 8 → ∀ M1 : zw_M, zw_fr [11] M M1 → (∀ j, M1.1 11 j = if t * 8 ≤ j ∧ j < t * 8 + s then x else M.1 11 j) → zw_X l (d + 2) iX8_moveAllDay (fun v M1 => v = none ∧ zw_fr [11] M M1 ∧ ∀ j, M1.1 11 j = if t * 8 ≤ j ∧ j < t * 8 + 8 then x else M.1 11 j) 2 [.ref 8, .int (zn_I (t : Int)), .int x, .int (zn_I (s : Int))] [] M1 := by
    refine zw_loop 8 (P := fun s => ∀ M1 : zw_M, zw_fr [11] M M1 → (∀ j, M1.1 11 j = if t * 8 ≤ j ∧ j < t * 8 + s then x else M.1 11 j) → zw_X l (d + 2) iX8_moveAllDay (fun v M1 => v = none ∧ zw_fr [11] M M1 ∧ ∀ j, M1.1 11 j = if t * 8 ≤ j ∧ j < t * 8 + 8 then x else M.1 11 j) 2 [.ref 8, .int (zn_I (t : Int)), .int x, .int (zn_I (s : Int))] [] M1) (fun s hs ih M1 hf hc => ?_)
    refine zx_iload_n dX8_moveAllDay_2 rfl ?_
    refine zx_bipush (v := zn_I 8) dX8_moveAllDay_3 (by decide) ?_
    refine zy_icmp_ge (tgt := 21) dX8_moveAllDay_5 (by decide) (by omega) (fun h_5 => ?_) (fun h_5 => ?_)
    · refine zx_vret (st := []) dX8_moveAllDay_21 rfl ?_
      exact ⟨rfl, hf, fun j => by rw [hc j, show s = 8 by omega]⟩
    · refine zx_aload_n dX8_moveAllDay_8 rfl ?_
      refine zx_iload_n dX8_moveAllDay_9 rfl ?_
      refine zx_iload_n dX8_moveAllDay_10 rfl ?_
      refine zx_iload_n dX8_moveAllDay_11 rfl ?_
      refine zx_callV (y1 := iX8_move) dX8_moveAllDay_12 lX8_59 vX8_move rc_8 (mX8_move_k (show M1.1 8 4 = zn_I (k : Nat) from by rw [(hf 8 (by decide)).1]; exact hk) h8 (t := t) (q := s) ht (by omega)) rfl rfl (Nat.le_of_ble_eq_true rfl) ?_
      refine zk_u ?_
      refine zy_iinc dX8_moveAllDay_15 rfl rfl ?_
      refine zx_goto (tgt := 2) dX8_moveAllDay_18 (by decide) ?_
      refine ih (by omega) _ (zf_s hf (by decide)) (fun j => ?_)
      by_cases e : j = t * 8 + s
      · subst e
        rw [if_pos (by omega)]
        simp [zw_s]
      · have h1 := hc j
        simp only [zw_s, e, and_false, if_false]
        rw [h1]
        by_cases r : t * 8 ≤ j ∧ j < t * 8 + s
        · rw [if_pos r, if_pos (by omega)]
        · rw [if_neg r, if_neg (by omega)]
  refine zx_iconst (v := zn_I 0) dX8_moveAllDay_0 rfl ?_
  refine zx_istore_n dX8_moveAllDay_1 rfl (Nat.le_of_ble_eq_true rfl) ?_
  exact loop 0 (by omega) M zf_rf (fun j => by rw [if_neg (by omega)])
set_option maxRecDepth 100000 in
set_option maxHeartbeats 600000 in
theorem mX8_add {l : zw_Lh} {d : Nat} {M : zw_M} {n : Nat} {τ : zQ} (hT : zT M n τ) {kd w : Int} {s : Nat} (hk : 0 ≤ kd ∧ kd ≤ 4) (hw : 1 ≤ w ∧ w ≤ 99) (hs : s < n) : zw_C l (d + 3) iX8_add [.ref 8, .int (zn_I kd), .int (zn_I w), .int (zn_I (s : Int))] M (fun v M1 => (8 ≤ τ.1 ∧ v = some (.int (zn_I (-104))) ∧ M1 = M) ∨ (τ.1 < 8 ∧ v = some (.int (zn_I τ.1)) ∧ zw_fr [8, 9, 10, 11] M M1 ∧ M1.1 8 5 = M.1 8 5 ∧ zT M1 n (zt_new τ kd w s))) := by
  have h8 := hT.1
  have hsz : M.1 8 4 = zn_I (τ.1 : Int) := hT.2.1
  refine zw_of (by decide +kernel) (Nat.le_of_ble_eq_true rfl) ?_
  refine zy_loc (L1 := [.ref 8, .int (zn_I kd), .int (zn_I w), .int (zn_I (s : Int)), .retAddr 0]) rfl ?_
  refine zx_aload_n dX8_add_0 rfl ?_
  refine zy_geti dX8_add_1 fX8_28 (hsz) ?_
  refine zx_bipush (v := zn_I 8) dX8_add_4 (by decide) ?_
  refine zy_icmp_lt (tgt := 12) dX8_add_6 (by decide) (by omega) (fun h_6 => ?_) (fun h_6 => ?_)
  · refine zx_aload_n dX8_add_12 rfl ?_
    refine zy_geti dX8_add_13 fX8_28 (hsz) ?_
    refine zx_istore dX8_add_16 rfl (Nat.le_of_ble_eq_true rfl) ?_
    refine zx_aload_n dX8_add_18 rfl ?_
    refine zx_getr dX8_add_19 fX8_9 ?_
    refine zx_iload dX8_add_22 rfl ?_
    refine zx_iload_n dX8_add_24 rfl ?_
    refine zy_iast (i := τ.1) dX8_add_25 rfl (by decide) (by omega) (by omega) ?_
    refine zx_aload_n dX8_add_26 rfl ?_
    refine zx_getr dX8_add_27 fX8_15 ?_
    refine zx_iload dX8_add_30 rfl ?_
    refine zx_iload_n dX8_add_32 rfl ?_
    refine zy_iast (i := τ.1) dX8_add_33 rfl (by decide) (by omega) (by omega) ?_
    refine zx_aload_n dX8_add_34 rfl ?_
    refine zx_dup dX8_add_35 rfl ?_
    refine zy_geti dX8_add_36 fX8_28 (hsz) ?_
    refine zx_iconst (v := zn_I 1) dX8_add_39 rfl ?_
    refine zy_iadd dX8_add_40 ?_
    refine zx_puti dX8_add_41 fX8_28 ?_
    refine zx_aload_n dX8_add_44 rfl ?_
    refine zx_iload dX8_add_45 rfl ?_
    refine zx_iload_n dX8_add_47 rfl ?_
    refine zx_callV (y1 := iX8_moveAllDay) dX8_add_48 lX8_31 vX8_moveAllDay rc_8 (mX8_moveAllDay (M := (zw_s (zw_s (zw_s M 9 τ.1 (zn_I kd)) 10 τ.1 (zn_I w)) 8 4 (zn_I ((τ.1 : Int) + 1)))) (k := τ.1 + 1) (by simp [zw_s]) (by omega) (t := τ.1) (x := zn_I (s : Int)) (Nat.lt_succ_self _)) rfl rfl (Nat.le_of_ble_eq_true rfl) ?_
    intro v M5 he
    obtain ⟨rfl, hf, hc⟩ := he
    refine zx_iload dX8_add_51 rfl ?_
    refine zx_iret (st := []) dX8_add_53 rfl rfl ?_
    have hf4 : zw_fr [8, 9, 10, 11] M M5 := zf_tr (zf_s (zf_s (zf_s zf_rf (by decide)) (by decide)) (by decide)) (zf_mono hf (by decide))
    refine Or.inr ⟨by omega, rfl, hf4, by rw [(hf 8 (by decide)).1]; simp [zw_s], zT_new hT ?_ (fun u hu => ?_) (fun u hu => ?_) (fun j => ?_) (by omega) hk hw hs⟩
    · rw [(hf 8 (by decide)).1]; simp [zw_s]
    · rw [(hf 9 (by decide)).1]; simp only [zw_s]; by_cases e : u = τ.1 <;> simp [e]
    · rw [(hf 10 (by decide)).1]; simp only [zw_s]; by_cases e : u = τ.1 <;> simp [e]
    · rw [hc j]; simp only [zw_s]; simp
  · refine zx_bipush (v := zn_I (-104)) dX8_add_9 (by decide) ?_
    refine zx_iret (st := []) dX8_add_11 rfl rfl ?_
    exact Or.inl ⟨by omega, rfl, rfl⟩


set_option maxRecDepth 100000 in
set_option maxHeartbeats 600000 in
theorem mX1_hasAll {l : zw_Lh} {d : Nat} {M : zw_M} {π : zP} (hI : zI M π) {b : Int} (hb : -2147483648 ≤ b ∧ b < 2147483648) : zw_C l d iX1_hasAll [.ref 4, .int (zn_I b)] M (zw_i (zn_B (0 ≤ b ∧ b < (2 ^ zp_n π : Nat))) M) := by
  have h30 := zp_30 hI.1
  have hsz : M.1 4 5 = zn_I (zp_n π : Nat) := hI.2.2.2.1
  refine zw_of (by decide +kernel) (Nat.le_of_ble_eq_true rfl) ?_
  refine zy_loc (L1 := [.ref 4, .int (zn_I b)]) rfl ?_
  refine zx_iload_n dX1_hasAll_0 rfl ?_
  refine zy_if_lt (tgt := 17) dX1_hasAll_1 (by decide) (by omega) (fun h_1 => ?_) (fun h_1 => ?_)
  · refine zx_iconst (v := zn_I 0) dX1_hasAll_17 rfl ?_
    refine zx_iret (st := []) dX1_hasAll_18 rfl rfl ?_
    first | exact zk_B (zn_Bt ⟨by omega, by rw [show ((b.toNat : Nat) : Int) = b by omega]; exact hq.mp (by omega)⟩) | exact zk_B (zn_Bf (fun r => h_10 (by rw [show ((b.toNat : Nat) : Int) = b by omega] at r; have := hq.mpr r.2; omega))) | exact zk_B (zn_Bf (fun r => absurd r.1 (by omega)))
  · refine zx_iload_n dX1_hasAll_4 rfl ?_
    refine zx_aload_n dX1_hasAll_5 rfl ?_
    refine zy_geti dX1_hasAll_6 fX1_28 (hsz) ?_
    rw [show b = ((b.toNat : Nat) : Int) by omega]
    refine zx_iushr dX1_hasAll_9 ?_
    refine zy_top (zb_ushr (k := zp_n π) (by omega) _ (zb_hi _ h30) rfl) ?_
    have hq := zb_sq (b := b) (k := zp_n π) ⟨by omega, by omega⟩
    have hd : b.toNat / 2 ^ zp_n π ≤ b.toNat := Nat.div_le_self _ _
    obtain ⟨w, hw⟩ : ∃ w, b.toNat / 2 ^ zp_n π = w := ⟨_, rfl⟩
    rw [hw] at hq hd ⊢
    refine zy_if_ne (tgt := 17) dX1_hasAll_10 (by decide) (by omega) (fun h_10 => ?_) (fun h_10 => ?_)
    · refine zx_iconst (v := zn_I 0) dX1_hasAll_17 rfl ?_
      refine zx_iret (st := []) dX1_hasAll_18 rfl rfl ?_
      first | exact zk_B (zn_Bt ⟨by omega, by rw [show ((b.toNat : Nat) : Int) = b by omega]; exact hq.mp (by omega)⟩) | exact zk_B (zn_Bf (fun r => h_10 (by rw [show ((b.toNat : Nat) : Int) = b by omega] at r; have := hq.mpr r.2; omega))) | exact zk_B (zn_Bf (fun r => absurd r.1 (by omega)))
    · refine zx_iconst (v := zn_I 1) dX1_hasAll_13 rfl ?_
      refine zx_goto (tgt := 18) dX1_hasAll_14 (by decide) ?_
      refine zx_iret (st := []) dX1_hasAll_18 rfl rfl ?_
      first | exact zk_B (zn_Bt ⟨by omega, by rw [show ((b.toNat : Nat) : Int) = b by omega]; exact hq.mp (by omega)⟩) | exact zk_B (zn_Bf (fun r => h_10 (by rw [show ((b.toNat : Nat) : Int) = b by omega] at r; have := hq.mpr r.2; omega))) | exact zk_B (zn_Bf (fun r => absurd r.1 (by omega)))
end
section
/-! THE STATE of an island that leans: the plan, the things, the page, the counts, the image -/
abbrev zK : Type := Option (Nat × (Nat → Nat → Nat))
abbrev zZ : Type := zP × zQ × zR × (Nat × Nat × Nat) × zK
def zKok (π : zP) (τ : zQ) (κ : zK) : Prop := match κ with
  | none => True
  | some (K, P) => K ≤ τ.1 ∧ (∀ t, t < K → ∀ q, q < 8 → P t q < zp_n π) ∧ ∀ t, t < K → ¬ zt_per τ t → ∀ q, q < 8 → P t q = P t 0
/-- what holds of a state all along -/
def zok (σ : zZ) : Prop := (σ.2.2.2.1.2.1 ≤ 30 ∧ σ.2.2.2.1.2.2 ≤ 20) ∧ (∀ t, t < σ.2.1.1 → ¬ zt_per σ.2.1 t → ∀ q, q < 8 → σ.2.1.2.2.2 t q = σ.2.1.2.2.2 t 0) ∧ zKok σ.1 σ.2.1 σ.2.2.2.2
def zKc (M : zw_M) (κ : zK) : Prop := match κ with
  | none => M.1 8 5 = zn_I (-1)
  | some (K, P) => M.1 8 5 = zn_I (K : Nat) ∧ ∀ t, t < K → ∀ q, q < 8 → M.1 12 (t * 8 + q) = zn_I (P t q : Nat)
/-- the class's memory holds a state -/
def zC_ (M : zw_M) (σ : zZ) : Prop := zI M σ.1 ∧ zT M (zp_n σ.1) σ.2.1 ∧ zG M σ.2.2.1 ∧ (M.1 0 10 = zn_I (σ.2.2.2.1.1 : Nat) ∧ M.1 0 11 = zn_I (σ.2.2.2.1.2.1 : Nat) ∧ M.1 0 12 = zn_I (σ.2.2.2.1.2.2 : Nat)) ∧ zKc M σ.2.2.2.2
def zcl : List Nat := [0, 1, 2, 3, 4, 5, 6, 7, 8, 9, 10, 11, 12, 13, 14, 15, 16, 17, 18, 19, 20, 21, 22, 23, 24, 25, 26, 27, 28, 29, 30, 31, 32]
/-- an answer, and the state behind it -/
def zO (x : Int32) (σ : zZ) (M : zw_M) : Option Value → zw_M → Prop := fun v M1 => v = some (.int x) ∧ zw_fr zcl M M1 ∧ zC_ M1 σ
theorem zO_i {σ : zZ} {M : zw_M} {x z : Int} (hC : zC_ M σ) (h : x = z) : zO (zn_I z) σ M (some (.int (zn_I x))) M := ⟨by rw [h], zf_rf, hC⟩
theorem zO_f {σ : zZ} {M M1 : zw_M} {x z : Int} (hf : zw_fr zcl M M1) (hC : zC_ M1 σ) (h : x = z) : zO (zn_I z) σ M (some (.int (zn_I x))) M1 := ⟨by rw [h], hf, hC⟩
theorem zC_f {S : List Nat} {M M1 : zw_M} {σ : zZ} (h : zw_fr S M M1) (hC : zC_ M σ) (hS : ∀ p ∈ [0, 1, 2, 4, 5, 6, 7, 8, 9, 10, 11, 12], p ∉ S) : zC_ M1 σ := by
  obtain ⟨h1, h2, h3, h4, h5⟩ := hC
  refine ⟨zI_f h h1 (fun p hp => hS p ?_), zT_f h h2 (fun p hp => hS p ?_), zG_f h h3 (fun p hp => hS p ?_), ?_, ?_⟩
  · simp at hp ⊢; omega
  · simp at hp ⊢; omega
  · simp at hp ⊢; omega
  · rw [(h 0 (hS 0 (by decide))).1]; exact h4
  · unfold zKc at h5 ⊢
    have e8 := (h 8 (hS 8 (by decide))).1
    have e12 := (h 12 (hS 12 (by decide))).1
    split at h5
    · rw [e8]; exact h5
    · rw [e8, e12]; exact h5
/-! THE ANSWERS, and the states behind them -/
def zk_square (σ : zZ) (z w : Int) : Int := if 0 ≤ z ∧ z < zp_n σ.1 then (if w = 0 then σ.1.2.2 z.toNat else if w = 1 then zp_e σ.1 z.toNat else if w = 2 then zp_s σ.1 z.toNat else -100102) else -100101
def zk_letters (σ : zZ) (w : Nat) : Int := zg_addA σ.2.2.1 w
def zk_lettersS (σ : zZ) (w : Nat) : zZ := (σ.1, σ.2.1, zg_addR σ.2.2.1 w, σ.2.2.2)
def zk_blank (σ : zZ) : Int := σ.2.2.1.1
def zk_blankS (σ : zZ) : zZ := (σ.1, σ.2.1, (0, σ.2.2.1.2), σ.2.2.2)
def zk_fault (σ : zZ) (z : Int) : Int := if z = 0 then ((zq_go σ.2.2.1 σ.2.2.1.1).1 : Int) else if z = 1 then (zg_wf σ.2.2.1 σ.2.2.1.1 : Int) else -102
def zk_plan (σ : zZ) : Int := if zq_whole σ.2.2.1 then (zp_n (zr_P σ.2.2.1) : Int) else -103
def zk_planS (σ : zZ) : zZ := if zq_whole σ.2.2.1 then (zr_P σ.2.2.1, (0, σ.2.1.2), (0, σ.2.2.1.2), (σ.2.2.2.1.1 + 1, σ.2.2.2.1.2), none) else σ
abbrev zhas (σ : zZ) (z : Int) : Prop := 0 ≤ z ∧ z < zp_n σ.1
abbrev zthing (σ : zZ) (z : Int) : Prop := 0 ≤ z ∧ z < σ.2.1.1
abbrev zqu (z : Int) : Prop := 0 ≤ z ∧ z < 8
abbrev zpers (σ : zZ) (z : Int) : Prop := zt_per σ.2.1 z.toNat
def zpl (σ : zZ) (z q : Int) : Nat := σ.2.1.2.2.2 z.toNat q.toNat
def zst (σ : zZ) (τ : zQ) : zZ := (σ.1, τ, σ.2.2)
def zk_thing (σ : zZ) (k w s : Int) : Int := if ¬ ((0 ≤ k ∧ k ≤ 4) ∧ 1 ≤ w ∧ w ≤ 99) then -102 else if ¬ zhas σ s then -101 else if 8 ≤ σ.2.1.1 then -104 else (σ.2.1.1 : Int)
def zk_thingS (σ : zZ) (k w s : Int) : zZ := if ((0 ≤ k ∧ k ≤ 4) ∧ 1 ≤ w ∧ w ≤ 99) ∧ zhas σ s ∧ σ.2.1.1 < 8 then zst σ (zt_new σ.2.1 k w s.toNat) else σ
def zk_about (σ : zZ) (z w : Int) : Int := if ¬ zthing σ z then -101 else if 10 ≤ w ∧ w ≤ 17 then (zpl σ z (w - 10) : Int) else if w = 0 then σ.2.1.2.1 z.toNat else if w = 1 then σ.2.1.2.2.1 z.toNat else if w = 2 then zt_w σ.2.1 z.toNat else -102
def zk_as (σ : zZ) (z k : Int) : Int := if ¬ zthing σ z then -101 else if ¬ (0 ≤ k ∧ k ≤ 4) then -102 else if zt_isA σ.2.1 z k then z else -1
def zk_stand (σ : zZ) (z q s : Int) : Int := if ¬ (zthing σ z ∧ zqu q ∧ zhas σ s) then -101 else if ¬ zpers σ z then -103 else (zpl σ z q : Int)
/-- a thing stands elsewhere in one quarter -/
def zt_at (τ : zQ) (t q s : Nat) : zQ := zt_mv τ t (fun u => if u = q then s else τ.2.2.2 t u)
def zk_standS (σ : zZ) (z q s : Int) : zZ := if (zthing σ z ∧ zqu q ∧ zhas σ s) ∧ zpers σ z then zst σ (zt_at σ.2.1 z.toNat q.toNat s.toNat) else σ
def zk_put (σ : zZ) (z s : Int) : Int := if ¬ (zthing σ z ∧ zhas σ s) then -101 else if zpers σ z then -103 else (zpl σ z 0 : Int)
def zk_putS (σ : zZ) (z s : Int) : zZ := if (zthing σ z ∧ zhas σ s) ∧ ¬ zpers σ z then zst σ (zt_mv σ.2.1 z.toNat (fun _ => s.toNat)) else σ
def zk_trade (σ : zZ) (a b q : Int) : Int := if ¬ (zthing σ a ∧ zthing σ b ∧ zqu q) then -101 else if ¬ (zpers σ a ∧ zpers σ b) then -103 else if zpl σ a q = zpl σ b q then 0 else 1
def zk_tradeS (σ : zZ) (a b q : Int) : zZ := if (zthing σ a ∧ zthing σ b ∧ zqu q) ∧ (zpers σ a ∧ zpers σ b) then zst σ (zt_at (zt_at σ.2.1 a.toNat q.toNat (zpl σ b q)) b.toNat q.toNat (zpl σ a q)) else σ
def zk_leans (σ : zZ) (q w : Int) : Int := if ¬ zqu q then -100101 else if w = 0 then zl_E σ.1 σ.2.1 q.toNat else if w = 1 then zl_S σ.1 σ.2.1 q.toNat else -100102
def zk_dip (σ : zZ) (s q : Int) : Int := if ¬ (zhas σ s ∧ zqu q) then -1000101 else zp_dip σ.1 s.toNat (zl_E σ.1 σ.2.1 q.toNat) (zl_S σ.1 σ.2.1 q.toNat)
/-- which doors are wet in a quarter -/
def zwet (π : zP) (τ : zQ) (q : Nat) : Nat := zp_bits π (zl_E π τ q) (zl_S π τ q) (zp_n π)
def zk_wet (σ : zZ) (q : Int) : Int := if zqu q then (zwet σ.1 σ.2.1 q.toNat : Int) else -101
abbrev zasks (w : Int) : Prop := w = 0 ∨ w = 1 ∨ 10 ≤ w ∧ w ≤ 17
abbrev zk_way (σ : zZ) : Prop := 0 < σ.2.2.1.1 ∧ zg_wf σ.2.2.1 σ.2.2.1.1 = σ.2.2.1.1
def zk_late (σ : zZ) (q d x : Int) : Int := if ¬ (zqu q ∧ q ≠ 0) then -101 else if ¬ ((0 ≤ d ∧ d < (2 ^ zp_n σ.1 : Nat)) ∧ 0 ≤ x ∧ x < 3) then -102 else if ¬ 0 < zp_n σ.1 then -103 else (zl_ans σ.1 σ.2.1 q.toNat d x.toNat : Int)
def zk_count (σ : zZ) (w : Int) : Int := if w = 0 then (zp_n σ.1 : Int) else if w = 1 then (zp_d σ.1 (zp_n σ.1) : Int) else if w = 2 then (σ.2.1.1 : Int) else if w = 3 then (zt_m σ.2.1 : Int) else if w = 4 then (σ.2.2.1.1 : Int) else if w = 5 then (σ.2.2.2.1.1 : Int) else if w = 6 then (σ.2.2.2.1.2.1 : Int) else if w = 7 then (σ.2.2.2.1.2.2 : Int) else -102
theorem zKc_f {S : List Nat} {M M1 : zw_M} {κ : zK} (h : zw_fr S M M1) (hk : zKc M κ) (hS : ∀ p ∈ [8, 12], p ∉ S) : zKc M1 κ := by
  unfold zKc at hk ⊢
  have e8 := (h 8 (hS 8 (by decide))).1
  have e12 := (h 12 (hS 12 (by decide))).1
  split at hk
  · rw [e8]; exact hk
  · rw [e8, e12]; exact hk
theorem zG_0 {M : zw_M} {f : Nat → Nat} (h : M.1 1 1 = zn_I 0) : zG M (0, f) := ⟨by show 0 ≤ 40; omega, h, fun i hi => absurd hi (Nat.not_lt_zero _), fun i hi => absurd hi (Nat.not_lt_zero _)⟩
theorem zC_page {M M1 : zw_M} {σ : zZ} {ρ : zR} (h : zw_fr [1, 2, 3] M M1) (hC : zC_ M σ) (hG : zG M1 ρ) : zC_ M1 (σ.1, σ.2.1, ρ, σ.2.2.2) :=
  ⟨zI_f h hC.1 (by decide), zT_f h hC.2.1 (by decide), hG, by rw [(h 0 (by decide)).1]; exact hC.2.2.2.1, zKc_f h hC.2.2.2.2 (by decide)⟩
theorem zC_th {M M1 : zw_M} {σ : zZ} {τ : zQ} (h : zw_fr [8, 9, 10, 11] M M1) (h5 : M1.1 8 5 = M.1 8 5) (hC : zC_ M σ) (hT : zT M1 (zp_n σ.1) τ) : zC_ M1 (zst σ τ) := by
  refine ⟨zI_f h hC.1 (by decide), hT, zG_f h hC.2.2.1 (by decide), by rw [(h 0 (by decide)).1]; exact hC.2.2.2.1, ?_⟩
  have hk := hC.2.2.2.2
  show zKc M1 σ.2.2.2.2
  unfold zKc at hk ⊢
  have e12 := (h 12 (by decide)).1
  split at hk
  · rw [h5]; exact hk
  · rw [h5, e12]; exact hk
theorem zT_at {M : zw_M} {n : Nat} {τ : zQ} (hT : zT M n τ) {t q s : Nat} (ht : t < τ.1) (hq : q < 8) (hs : s < n) : zT (zw_s M 11 (t * 8 + q) (zn_I (s : Nat))) n (zt_at τ t q s) := by
  refine zT_mv hT (zf_s zf_rf (by decide)) (fun u hu => ?_) (fun k hk => ?_) (fun u hu => ?_)
  · by_cases e : u = q
    · subst e; simp [zw_s]
    · have := hT.2.2.2.2.1 t ht u hu
      simp [zw_s, e, this]
  · have : k ≠ t * 8 + q := by omega
    simp [zw_s, this]
  · by_cases e : u = q
    · simpa [e] using hs
    · simpa [e] using hT.2.2.2.2.2.2.2 t ht u hu
set_option maxRecDepth 100000 in
set_option maxHeartbeats 600000 in
theorem mX10_letters {l : zw_Lh} {d : Nat} {M : zw_M} {σ : zZ} (hC : zC_ M σ) {w : Nat} (hw : w < 2 ^ 64) : zw_C l (d + 3) iX10_letters [.ref 0, .long (lN w)] M (zO (zn_I (zk_letters σ w)) (zk_lettersS σ w) M) := by
  obtain ⟨hI, hT, hG, ⟨ha, hb, hc⟩, hk⟩ := id hC
  have hp := hI.1
  have h30 := zp_30 hp
  have h8 := hT.1
  refine zw_of (by decide +kernel) (Nat.le_of_ble_eq_true rfl) ?_
  refine zy_loc (L1 := [.ref 0, .long (lN w), .retAddr 0]) rfl ?_
  refine zx_aload_n dX10_letters_0 rfl ?_
  refine zx_getr dX10_letters_1 fX10_10 ?_
  refine zx_lload_n dX10_letters_4 rfl ?_
  refine zx_callV (y1 := iX3_add) dX10_letters_5 lX10_85 vX3_add rc_1 (mX3_add hG hw) rfl rfl (Nat.le_of_ble_eq_true rfl) ?_
  intro v M1 he
  obtain ⟨rfl, hf, hG1⟩ := he
  refine zx_iret (st := []) dX10_letters_8 rfl rfl ?_
  exact ⟨rfl, zf_mono hf (by decide), zC_page (zf_mono hf (by decide)) hC hG1⟩

set_option maxRecDepth 100000 in
set_option maxHeartbeats 600000 in
theorem mX10_fault {l : zw_Lh} {d : Nat} {M : zw_M} {σ : zZ} (hC : zC_ M σ) {z : Int} (hzz : -2147483648 ≤ z ∧ z < 2147483648) : zw_C l (d + 4) iX10_fault [.ref 0, .int (zn_I z)] M (zO (zn_I (zk_fault σ z)) σ M) := by
  obtain ⟨hI, hT, hG, ⟨ha, hb, hc⟩, hk⟩ := id hC
  have hp := hI.1
  have h30 := zp_30 hp
  have h8 := hT.1
  refine zw_of (by decide +kernel) (Nat.le_of_ble_eq_true rfl) ?_
  refine zy_loc (L1 := [.ref 0, .int (zn_I z)]) rfl ?_
  refine zx_iload_n dX10_fault_0 rfl ?_
  refine zy_if_ne (tgt := 16) dX10_fault_1 (by decide) (by omega) (fun h_1 => ?_) (fun h_1 => ?_)
  · refine zx_iload_n dX10_fault_16 rfl ?_
    refine zx_iconst (v := zn_I 1) dX10_fault_17 rfl ?_
    refine zy_icmp_ne (tgt := 31) dX10_fault_18 (by decide) (by omega) (fun h_18 => ?_) (fun h_18 => ?_)
    · refine zx_bipush (v := zn_I (-102)) dX10_fault_31 (by decide) ?_
      refine zx_iret (st := []) dX10_fault_33 rfl rfl ?_
      exact zO_i hC (by simp only [zk_fault, Int.toNat_natCast]; (repeat' split) <;> first | rfl | omega)
    · refine zx_aload_n dX10_fault_21 rfl ?_
      refine zx_getr dX10_fault_22 fX10_10 ?_
      refine zx_callV (y1 := iX3_wayFault) dX10_fault_25 lX10_100 vX3_wayFault rc_1 (mX3_wayFault hG) rfl rfl (Nat.le_of_ble_eq_true rfl) ?_
      refine zk_i ?_
      refine zx_goto (tgt := 33) dX10_fault_28 (by decide) ?_
      refine zx_iret (st := []) dX10_fault_33 rfl rfl ?_
      exact zO_i hC (by simp only [zk_fault, Int.toNat_natCast]; (repeat' split) <;> first | rfl | omega)
  · refine zx_aload_n dX10_fault_4 rfl ?_
    refine zx_getr dX10_fault_5 fX10_19 ?_
    refine zx_aload_n dX10_fault_8 rfl ?_
    refine zx_getr dX10_fault_9 fX10_10 ?_
    refine zx_callV (y1 := iX4_faultIn) dX10_fault_12 lX10_96 vX4_faultIn rc_3 (mX4_faultIn hG) rfl rfl (Nat.le_of_ble_eq_true rfl) ?_
    intro v M1 he
    obtain ⟨rfl, hf, -⟩ := he
    refine zx_iret (st := []) dX10_fault_15 rfl rfl ?_
    exact zO_f (zf_mono hf (by decide)) (zC_f hf hC (by decide)) (by simp only [zk_fault, Int.toNat_natCast]; (repeat' split) <;> first | rfl | omega)
set_option maxRecDepth 100000 in
set_option maxHeartbeats 600000 in
theorem mX10_plan {l : zw_Lh} {d : Nat} {M : zw_M} {σ : zZ} (hC : zC_ M σ) : zw_C l (d + 5) iX10_plan [.ref 0] M (zO (zn_I (zk_plan σ)) (zk_planS σ) M) := by
  obtain ⟨hI, hT, hG, ⟨ha, hb, hc⟩, hk⟩ := id hC
  have hp := hI.1
  have h30 := zp_30 hp
  have h8 := hT.1
  refine zw_of (by decide +kernel) (Nat.le_of_ble_eq_true rfl) ?_
  refine zy_loc (L1 := [.ref 0]) rfl ?_
  refine zx_aload_n dX10_plan_0 rfl ?_
  refine zx_getr dX10_plan_1 fX10_19 ?_
  refine zx_aload_n dX10_plan_4 rfl ?_
  refine zx_getr dX10_plan_5 fX10_10 ?_
  refine zx_callV (y1 := iX4_isWhole) dX10_plan_8 lX10_103 vX4_isWhole rc_3 (mX4_isWhole hG) rfl rfl (Nat.le_of_ble_eq_true rfl) ?_
  intro v M1 he
  obtain ⟨rfl, hf, hq⟩ := he
  refine zy_ifB_ne (tgt := 17) dX10_plan_11 (by decide) (fun h_11 => ?_) (fun h_11 => ?_)
  · refine zx_aload_n dX10_plan_17 rfl ?_
    refine zx_getr dX10_plan_18 fX10_26 ?_
    refine zx_aload_n dX10_plan_21 rfl ?_
    refine zx_getr dX10_plan_22 fX10_10 ?_
    refine zx_aload_n dX10_plan_25 rfl ?_
    refine zx_getr dX10_plan_26 fX10_19 ?_
    refine zx_callV (y1 := iX4_rows) dX10_plan_29 lX10_107 vX4_rows rc_3 (mX4_rows hq (zq_go_ok _ _)) rfl rfl (Nat.le_of_ble_eq_true rfl) ?_
    refine zk_i ?_
    refine zx_aload_n dX10_plan_32 rfl ?_
    refine zx_getr dX10_plan_33 fX10_19 ?_
    refine zx_callV (y1 := iX4_columns) dX10_plan_36 lX10_110 vX4_columns rc_3 (mX4_columns hq (zq_go_ok _ _)) rfl rfl (Nat.le_of_ble_eq_true rfl) ?_
    refine zk_i ?_
    refine zx_callV (y1 := iX1_read) dX10_plan_39 lX10_113 vX1_read rc_4 (mX1_read (zG_f hf hG (by decide)) h_11) rfl rfl (Nat.le_of_ble_eq_true rfl) ?_
    intro v M2 he
    obtain ⟨rfl, hf2, hI2⟩ := he
    refine zx_aload_n dX10_plan_42 rfl ?_
    refine zx_getr dX10_plan_43 fX10_33 ?_
    refine zx_callV (y1 := iX8_clear) dX10_plan_46 lX10_117 vX8_clear rc_8 (mX8_clear) rfl rfl (Nat.le_of_ble_eq_true rfl) ?_
    refine zk_u ?_
    refine zx_aload_n dX10_plan_49 rfl ?_
    refine zx_getr dX10_plan_50 fX10_10 ?_
    refine zx_callV (y1 := iX3_clear) dX10_plan_53 lX10_93 vX3_clear rc_1 (mX3_clear) rfl rfl (Nat.le_of_ble_eq_true rfl) ?_
    refine zk_u ?_
    refine zx_aload_n dX10_plan_56 rfl ?_
    refine zx_dup dX10_plan_57 rfl ?_
    refine zy_geti dX10_plan_58 fX10_118 ((show _ = zn_I (σ.2.2.2.1.1 : Nat) from by simp [zw_s, (hf2 0 (by decide)).1, (hf 0 (by decide)).1, ha])) ?_
    refine zx_iconst (v := zn_I 1) dX10_plan_61 rfl ?_
    refine zy_iadd dX10_plan_62 ?_
    refine zx_puti dX10_plan_63 fX10_118 ?_
    refine zx_aload_n dX10_plan_66 rfl ?_
    refine zx_getr dX10_plan_67 fX10_26 ?_
    refine zx_callV (y1 := iX1_squares) dX10_plan_70 lX10_122 vX1_squares rc_4 (mX1_squares (π := zr_P σ.2.2.1) (zI_f (zf_s (zf_s (zf_s (zf_s (S := [0, 1, 8]) zf_rf (by decide)) (by decide)) (by decide)) (by decide)) hI2 (by decide))) rfl rfl (Nat.le_of_ble_eq_true rfl) ?_
    refine zk_i ?_
    refine zx_iret (st := []) dX10_plan_73 rfl rfl ?_
    refine zO_f (zf_s (zf_s (zf_s (zf_s (zf_tr (zf_mono hf (by decide)) (zf_mono hf2 (by decide))) (by decide)) (by decide)) (by decide)) (by decide)) ?_ (by rw [zk_plan, if_pos h_11])
    rw [zk_planS, if_pos h_11]
    refine ⟨zI_f (zf_s (zf_s (zf_s (zf_s (S := [0, 1, 8]) zf_rf (by decide)) (by decide)) (by decide)) (by decide)) hI2 (by decide), ⟨by show 0 ≤ 8; omega, by simp [zw_s], fun t ht => absurd ht (Nat.not_lt_zero _), fun t ht => absurd ht (Nat.not_lt_zero _), fun t ht => absurd ht (Nat.not_lt_zero _), fun t ht => absurd ht (Nat.not_lt_zero _), fun t ht => absurd ht (Nat.not_lt_zero _), fun t ht => absurd ht (Nat.not_lt_zero _)⟩, zG_0 (by simp [zw_s]), ⟨by simp [zw_s], ?_, ?_⟩, ?_⟩
    · simp [zw_s, (hf2 0 (by decide)).1, (hf 0 (by decide)).1, hb]
    · simp [zw_s, (hf2 0 (by decide)).1, (hf 0 (by decide)).1, hc]
    · show _ = _
      simp [zw_s]
  · refine zx_bipush (v := zn_I (-103)) dX10_plan_14 (by decide) ?_
    refine zx_iret (st := []) dX10_plan_16 rfl rfl ?_
    refine zO_f (zf_mono hf (by decide)) ?_ (by rw [zk_plan, if_neg h_11])
    rw [zk_planS, if_neg h_11]
    exact zC_f hf hC (by decide)

set_option maxRecDepth 100000 in
set_option maxHeartbeats 600000 in
theorem mX10_thing {l : zw_Lh} {d : Nat} {M : zw_M} {σ : zZ} (hC : zC_ M σ) {k : Int} (hkk : -2147483648 ≤ k ∧ k < 2147483648) {w : Int} (hww : -2147483648 ≤ w ∧ w < 2147483648) {s : Int} (hss : -2147483648 ≤ s ∧ s < 2147483648) : zw_C l (d + 4) iX10_thing [.ref 0, .int (zn_I k), .int (zn_I w), .int (zn_I s)] M (zO (zn_I (zk_thing σ k w s)) (zk_thingS σ k w s) M) := by
  obtain ⟨hI, hT, hG, ⟨ha, hb, hc⟩, hk⟩ := id hC
  have hp := hI.1
  have h30 := zp_30 hp
  have h8 := hT.1
  refine zw_of (by decide +kernel) (Nat.le_of_ble_eq_true rfl) ?_
  refine zy_loc (L1 := [.ref 0, .int (zn_I k), .int (zn_I w), .int (zn_I s)]) rfl ?_
  refine zx_iload_n dX10_thing_0 rfl ?_
  refine zx_callS (y1 := iX10_isKind) dX10_thing_1 lX10_141 sX10_isKind (mX10_isKind hkk) rfl rfl (Nat.le_of_ble_eq_true rfl) ?_
  refine zk_i ?_
  refine zy_ifB_eq (tgt := 14) dX10_thing_4 (by decide) (fun h_4 => ?_) (fun h_4 => ?_)
  · refine zx_bipush (v := zn_I (-102)) dX10_thing_14 (by decide) ?_
    refine zx_iret (st := []) dX10_thing_16 rfl rfl ?_
    rw [zk_thingS, if_neg (by omega)]
    exact zO_i hC (by simp only [zk_thing, Int.toNat_natCast]; (repeat' split) <;> first | rfl | omega)
  · refine zx_iload_n dX10_thing_7 rfl ?_
    refine zx_callS (y1 := iX10_isWeight) dX10_thing_8 lX10_144 sX10_isWeight (mX10_isWeight hww) rfl rfl (Nat.le_of_ble_eq_true rfl) ?_
    refine zk_i ?_
    refine zy_ifB_ne (tgt := 17) dX10_thing_11 (by decide) (fun h_11 => ?_) (fun h_11 => ?_)
    · refine zx_aload_n dX10_thing_17 rfl ?_
      refine zx_getr dX10_thing_18 fX10_26 ?_
      refine zx_iload_n dX10_thing_21 rfl ?_
      refine zx_callV (y1 := iX1_has) dX10_thing_22 lX10_125 vX1_has rc_4 (mX1_has hI hss) rfl rfl (Nat.le_of_ble_eq_true rfl) ?_
      refine zk_i ?_
      refine zy_ifB_ne (tgt := 31) dX10_thing_25 (by decide) (fun h_25 => ?_) (fun h_25 => ?_)
      · obtain ⟨s, rfl⟩ : ∃ n : Nat, s = (n : Int) := ⟨s.toNat, by omega⟩
        refine zx_aload_n dX10_thing_31 rfl ?_
        refine zx_getr dX10_thing_32 fX10_33 ?_
        refine zx_iload_n dX10_thing_35 rfl ?_
        refine zx_iload_n dX10_thing_36 rfl ?_
        refine zx_iload_n dX10_thing_37 rfl ?_
        refine zx_callV (y1 := iX8_add) dX10_thing_38 lX10_147 vX8_add rc_8 (mX8_add hT h_4 h_11 (s := s) (by omega)) rfl rfl (Nat.le_of_ble_eq_true rfl) ?_
        intro v M1 he
        rcases he with ⟨e1, rfl, rfl⟩ | ⟨e1, rfl, hf, h5, hT1⟩
        · refine zx_iret (st := []) dX10_thing_41 rfl rfl ?_
          rw [zk_thingS, if_neg (by omega)]
          exact zO_i hC (by simp only [zk_thing, Int.toNat_natCast]; (repeat' split) <;> first | rfl | omega)
        · refine zx_iret (st := []) dX10_thing_41 rfl rfl ?_
          rw [zk_thingS, if_pos ⟨⟨by omega, by omega⟩, ⟨by omega, by omega⟩, by omega⟩]
          exact zO_f (zf_mono hf (by decide)) (zC_th hf h5 hC (by rw [Int.toNat_natCast]; exact hT1)) (by simp only [zk_thing, Int.toNat_natCast]; (repeat' split) <;> first | rfl | omega)
      · refine zx_bipush (v := zn_I (-101)) dX10_thing_28 (by decide) ?_
        refine zx_iret (st := []) dX10_thing_30 rfl rfl ?_
        rw [zk_thingS, if_neg (by omega)]
        exact zO_i hC (by simp only [zk_thing, Int.toNat_natCast]; (repeat' split) <;> first | rfl | omega)
    · refine zx_bipush (v := zn_I (-102)) dX10_thing_14 (by decide) ?_
      refine zx_iret (st := []) dX10_thing_16 rfl rfl ?_
      rw [zk_thingS, if_neg (by omega)]
      exact zO_i hC (by simp only [zk_thing, Int.toNat_natCast]; (repeat' split) <;> first | rfl | omega)
set_option maxRecDepth 100000 in
set_option maxHeartbeats 600000 in
theorem mX10_about {l : zw_Lh} {d : Nat} {M : zw_M} {σ : zZ} (hC : zC_ M σ) {z : Int} (hzz : -2147483648 ≤ z ∧ z < 2147483648) {w : Int} (hww : -2147483648 ≤ w ∧ w < 2147483648) : zw_C l (d + 2) iX10_about [.ref 0, .int (zn_I z), .int (zn_I w)] M (zO (zn_I (zk_about σ z w)) σ M) := by
  obtain ⟨hI, hT, hG, ⟨ha, hb, hc⟩, hk⟩ := id hC
  have hp := hI.1
  have h30 := zp_30 hp
  have h8 := hT.1
  refine zw_of (by decide +kernel) (Nat.le_of_ble_eq_true rfl) ?_
  refine zy_loc (L1 := [.ref 0, .int (zn_I z), .int (zn_I w)]) rfl ?_
  refine zx_aload_n dX10_about_0 rfl ?_
  refine zx_getr dX10_about_1 fX10_33 ?_
  refine zx_iload_n dX10_about_4 rfl ?_
  refine zx_callV (y1 := iX8_has) dX10_about_5 lX10_150 vX8_has rc_8 (mX8_has hT hzz) rfl rfl (Nat.le_of_ble_eq_true rfl) ?_
  refine zk_i ?_
  refine zy_ifB_ne (tgt := 14) dX10_about_8 (by decide) (fun h_8 => ?_) (fun h_8 => ?_)
  · refine zx_iload_n dX10_about_14 rfl ?_
    refine zx_callS (y1 := iX10_asksPlace) dX10_about_15 lX10_151 sX10_asksPlace (mX10_asksPlace hww) rfl rfl (Nat.le_of_ble_eq_true rfl) ?_
    refine zk_i ?_
    refine zy_ifB_eq (tgt := 34) dX10_about_18 (by decide) (fun h_18 => ?_) (fun h_18 => ?_)
    · refine zx_iload_n dX10_about_34 rfl ?_
      rcases (show w = 0 ∨ w = 1 ∨ w = 2 ∨ (w < 0 ∨ 2 < w) by omega) with h_35 | h_35 | h_35 | h_35
      · refine zx_tin (z := 0) (tgt := 60) dX10_about_35 ((zn_toInt ⟨by omega, by omega⟩).trans h_35) (by decide) (by decide) rfl (by decide) ?_
        refine zx_aload_n dX10_about_60 rfl ?_
        refine zx_getr dX10_about_61 fX10_33 ?_
        refine zx_iload_n dX10_about_64 rfl ?_
        refine zx_callV (y1 := iX8_kind) dX10_about_65 lX10_158 vX8_kind rc_8 (mX8_kind hT hzz) rfl rfl (Nat.le_of_ble_eq_true rfl) ?_
        refine zk_i ?_
        refine zx_iret (st := []) dX10_about_68 rfl rfl ?_
        exact zO_i hC (by simp only [zk_about, zt_kind, zt_weight, zt_weighs, zt_place, zpl, Int.toNat_natCast]; (repeat' split) <;> first | rfl | omega)
      · refine zx_tin (z := 1) (tgt := 69) dX10_about_35 ((zn_toInt ⟨by omega, by omega⟩).trans h_35) (by decide) (by decide) rfl (by decide) ?_
        refine zx_aload_n dX10_about_69 rfl ?_
        refine zx_getr dX10_about_70 fX10_33 ?_
        refine zx_iload_n dX10_about_73 rfl ?_
        refine zx_callV (y1 := iX8_weight) dX10_about_74 lX10_161 vX8_weight rc_8 (mX8_weight hT hzz) rfl rfl (Nat.le_of_ble_eq_true rfl) ?_
        refine zk_i ?_
        refine zx_iret (st := []) dX10_about_77 rfl rfl ?_
        exact zO_i hC (by simp only [zk_about, zt_kind, zt_weight, zt_weighs, zt_place, zpl, Int.toNat_natCast]; (repeat' split) <;> first | rfl | omega)
      · refine zx_tin (z := 2) (tgt := 78) dX10_about_35 ((zn_toInt ⟨by omega, by omega⟩).trans h_35) (by decide) (by decide) rfl (by decide) ?_
        refine zx_aload_n dX10_about_78 rfl ?_
        refine zx_getr dX10_about_79 fX10_33 ?_
        refine zx_iload_n dX10_about_82 rfl ?_
        refine zx_callV (y1 := iX8_weighs) dX10_about_83 lX10_164 vX8_weighs rc_8 (mX8_weighs hT hzz) rfl rfl (Nat.le_of_ble_eq_true rfl) ?_
        refine zk_i ?_
        refine zx_iret (st := []) dX10_about_86 rfl rfl ?_
        exact zO_i hC (by simp only [zk_about, zt_kind, zt_weight, zt_weighs, zt_place, zpl, Int.toNat_natCast]; (repeat' split) <;> first | rfl | omega)
      · refine zx_tout (tgt := 87) dX10_about_35 (by rw [zn_toInt ⟨by omega, by omega⟩]; exact h_35) (by decide) ?_
        refine zx_bipush (v := zn_I (-102)) dX10_about_87 (by decide) ?_
        refine zx_iret (st := []) dX10_about_89 rfl rfl ?_
        exact zO_i hC (by simp only [zk_about, zt_kind, zt_weight, zt_weighs, zt_place, zpl, Int.toNat_natCast]; (repeat' split) <;> first | rfl | omega)
    · refine zx_aload_n dX10_about_21 rfl ?_
      refine zx_getr dX10_about_22 fX10_33 ?_
      refine zx_iload_n dX10_about_25 rfl ?_
      refine zx_iload_n dX10_about_26 rfl ?_
      refine zx_bipush (v := zn_I 10) dX10_about_27 (by decide) ?_
      refine zy_isub dX10_about_29 ?_
      refine zx_callV (y1 := iX8_place) dX10_about_30 lX10_154 vX8_place rc_8 (mX8_place hT hzz (q := w - 10) (by omega)) rfl rfl (Nat.le_of_ble_eq_true rfl) ?_
      refine zk_i ?_
      refine zx_iret (st := []) dX10_about_33 rfl rfl ?_
      exact zO_i hC (by simp only [zk_about, zt_kind, zt_weight, zt_weighs, zt_place, zpl, Int.toNat_natCast]; (repeat' split) <;> first | rfl | omega)
  · refine zx_bipush (v := zn_I (-101)) dX10_about_11 (by decide) ?_
    refine zx_iret (st := []) dX10_about_13 rfl rfl ?_
    exact zO_i hC (by simp only [zk_about, zt_kind, zt_weight, zt_weighs, zt_place, zpl, Int.toNat_natCast]; (repeat' split) <;> first | rfl | omega)
set_option maxRecDepth 100000 in
set_option maxHeartbeats 600000 in
theorem mX10_as {l : zw_Lh} {d : Nat} {M : zw_M} {σ : zZ} (hC : zC_ M σ) {z : Int} (hzz : -2147483648 ≤ z ∧ z < 2147483648) {k : Int} (hkk : -2147483648 ≤ k ∧ k < 2147483648) : zw_C l (d + 3) iX10_as [.ref 0, .int (zn_I z), .int (zn_I k)] M (zO (zn_I (zk_as σ z k)) σ M) := by
  obtain ⟨hI, hT, hG, ⟨ha, hb, hc⟩, hk⟩ := id hC
  have hp := hI.1
  have h30 := zp_30 hp
  have h8 := hT.1
  refine zw_of (by decide +kernel) (Nat.le_of_ble_eq_true rfl) ?_
  refine zy_loc (L1 := [.ref 0, .int (zn_I z), .int (zn_I k)]) rfl ?_
  refine zx_aload_n dX10_as_0 rfl ?_
  refine zx_getr dX10_as_1 fX10_33 ?_
  refine zx_iload_n dX10_as_4 rfl ?_
  refine zx_callV (y1 := iX8_has) dX10_as_5 lX10_150 vX8_has rc_8 (mX8_has hT hzz) rfl rfl (Nat.le_of_ble_eq_true rfl) ?_
  refine zk_i ?_
  refine zy_ifB_ne (tgt := 14) dX10_as_8 (by decide) (fun h_8 => ?_) (fun h_8 => ?_)
  · refine zx_iload_n dX10_as_14 rfl ?_
    refine zx_callS (y1 := iX10_isKind) dX10_as_15 lX10_141 sX10_isKind (mX10_isKind hkk) rfl rfl (Nat.le_of_ble_eq_true rfl) ?_
    refine zk_i ?_
    refine zy_ifB_ne (tgt := 24) dX10_as_18 (by decide) (fun h_18 => ?_) (fun h_18 => ?_)
    · refine zx_aload_n dX10_as_24 rfl ?_
      refine zx_getr dX10_as_25 fX10_33 ?_
      refine zx_iload_n dX10_as_28 rfl ?_
      refine zx_iload_n dX10_as_29 rfl ?_
      refine zx_callV (y1 := iX8_isA) dX10_as_30 lX10_167 vX8_isA rc_8 (mX8_isA hT hzz hkk) rfl rfl (Nat.le_of_ble_eq_true rfl) ?_
      refine zk_i ?_
      refine zy_ifB_eq (tgt := 40) dX10_as_33 (by decide) (fun h_33 => ?_) (fun h_33 => ?_)
      · refine zx_iconst (v := zn_I (-1)) dX10_as_40 rfl ?_
        refine zx_iret (st := []) dX10_as_41 rfl rfl ?_
        exact zO_i hC (by simp only [zk_as, Int.toNat_natCast]; (repeat' split) <;> first | rfl | omega)
      · refine zx_iload_n dX10_as_36 rfl ?_
        refine zx_goto (tgt := 41) dX10_as_37 (by decide) ?_
        refine zx_iret (st := []) dX10_as_41 rfl rfl ?_
        exact zO_i hC (by simp only [zk_as, Int.toNat_natCast]; (repeat' split) <;> first | rfl | omega)
    · refine zx_bipush (v := zn_I (-102)) dX10_as_21 (by decide) ?_
      refine zx_iret (st := []) dX10_as_23 rfl rfl ?_
      exact zO_i hC (by simp only [zk_as, Int.toNat_natCast]; (repeat' split) <;> first | rfl | omega)
  · refine zx_bipush (v := zn_I (-101)) dX10_as_11 (by decide) ?_
    refine zx_iret (st := []) dX10_as_13 rfl rfl ?_
    exact zO_i hC (by simp only [zk_as, Int.toNat_natCast]; (repeat' split) <;> first | rfl | omega)
set_option maxRecDepth 100000 in
set_option maxHeartbeats 600000 in
theorem mX10_stand {l : zw_Lh} {d : Nat} {M : zw_M} {σ : zZ} (hC : zC_ M σ) {z : Int} (hzz : -2147483648 ≤ z ∧ z < 2147483648) {q : Int} (hqq : -2147483648 ≤ q ∧ q < 2147483648) {s : Int} (hss : -2147483648 ≤ s ∧ s < 2147483648) : zw_C l (d + 3) iX10_stand [.ref 0, .int (zn_I z), .int (zn_I q), .int (zn_I s)] M (zO (zn_I (zk_stand σ z q s)) (zk_standS σ z q s) M) := by
  obtain ⟨hI, hT, hG, ⟨ha, hb, hc⟩, hk⟩ := id hC
  have hp := hI.1
  have h30 := zp_30 hp
  have h8 := hT.1
  refine zw_of (by decide +kernel) (Nat.le_of_ble_eq_true rfl) ?_
  refine zy_loc (L1 := [.ref 0, .int (zn_I z), .int (zn_I q), .int (zn_I s), .retAddr 0]) rfl ?_
  refine zx_aload_n dX10_stand_0 rfl ?_
  refine zx_getr dX10_stand_1 fX10_33 ?_
  refine zx_iload_n dX10_stand_4 rfl ?_
  refine zx_callV (y1 := iX8_has) dX10_stand_5 lX10_150 vX8_has rc_8 (mX8_has hT hzz) rfl rfl (Nat.le_of_ble_eq_true rfl) ?_
  refine zk_i ?_
  refine zy_ifB_eq (tgt := 29) dX10_stand_8 (by decide) (fun h_8 => ?_) (fun h_8 => ?_)
  · refine zx_bipush (v := zn_I (-101)) dX10_stand_29 (by decide) ?_
    refine zx_iret (st := []) dX10_stand_31 rfl rfl ?_
    rw [zk_standS, if_neg (by omega)]
    exact zO_i hC (by simp only [zk_stand, Int.toNat_natCast]; (repeat' split) <;> first | rfl | omega)
  · refine zx_iload_n dX10_stand_11 rfl ?_
    refine zx_callS (y1 := iX10_isQuarter) dX10_stand_12 lX10_171 sX10_isQuarter (mX10_isQuarter hqq) rfl rfl (Nat.le_of_ble_eq_true rfl) ?_
    refine zk_i ?_
    refine zy_ifB_eq (tgt := 29) dX10_stand_15 (by decide) (fun h_15 => ?_) (fun h_15 => ?_)
    · refine zx_bipush (v := zn_I (-101)) dX10_stand_29 (by decide) ?_
      refine zx_iret (st := []) dX10_stand_31 rfl rfl ?_
      rw [zk_standS, if_neg (by omega)]
      exact zO_i hC (by simp only [zk_stand, Int.toNat_natCast]; (repeat' split) <;> first | rfl | omega)
    · refine zx_aload_n dX10_stand_18 rfl ?_
      refine zx_getr dX10_stand_19 fX10_26 ?_
      refine zx_iload_n dX10_stand_22 rfl ?_
      refine zx_callV (y1 := iX1_has) dX10_stand_23 lX10_125 vX1_has rc_4 (mX1_has hI hss) rfl rfl (Nat.le_of_ble_eq_true rfl) ?_
      refine zk_i ?_
      refine zy_ifB_ne (tgt := 32) dX10_stand_26 (by decide) (fun h_26 => ?_) (fun h_26 => ?_)
      · have hper : zt_isA σ.2.1 (z : Int) 3 ↔ zpers σ (z : Int) := by rw [zt_isA, zpers, zt_per, zt_kind, if_pos (by omega)]; omega
        refine zx_aload_n dX10_stand_32 rfl ?_
        refine zx_getr dX10_stand_33 fX10_33 ?_
        refine zx_iload_n dX10_stand_36 rfl ?_
        refine zx_iconst (v := zn_I 3) dX10_stand_37 rfl ?_
        refine zx_callV (y1 := iX8_isA) dX10_stand_38 lX10_167 vX8_isA rc_8 (mX8_isA hT hzz (a := 3) (by omega)) rfl rfl (Nat.le_of_ble_eq_true rfl) ?_
        refine zk_i ?_
        refine zy_ifB_ne (tgt := 47) dX10_stand_41 (by decide) (fun h_41 => ?_) (fun h_41 => ?_)
        · have hpp : zpers σ z := hper.mp h_41
          obtain ⟨z, rfl⟩ : ∃ n : Nat, z = (n : Int) := ⟨z.toNat, by omega⟩
          obtain ⟨q, rfl⟩ : ∃ n : Nat, q = (n : Int) := ⟨q.toNat, by omega⟩
          obtain ⟨s, rfl⟩ : ∃ n : Nat, s = (n : Int) := ⟨s.toNat, by omega⟩
          refine zx_aload_n dX10_stand_47 rfl ?_
          refine zx_getr dX10_stand_48 fX10_33 ?_
          refine zx_iload_n dX10_stand_51 rfl ?_
          refine zx_iload_n dX10_stand_52 rfl ?_
          refine zx_callV (y1 := iX8_place) dX10_stand_53 lX10_154 vX8_place rc_8 (mX8_place hT hzz hqq) rfl rfl (Nat.le_of_ble_eq_true rfl) ?_
          refine zk_i ?_
          refine zx_istore dX10_stand_56 rfl (Nat.le_of_ble_eq_true rfl) ?_
          refine zx_aload_n dX10_stand_58 rfl ?_
          refine zx_getr dX10_stand_59 fX10_33 ?_
          refine zx_iload_n dX10_stand_62 rfl ?_
          refine zx_iload_n dX10_stand_63 rfl ?_
          refine zx_iload_n dX10_stand_64 rfl ?_
          refine zx_callV (y1 := iX8_move) dX10_stand_65 lX10_174 vX8_move rc_8 (mX8_move hT (t := z) (q := q) (x := zn_I (s : Int)) (by omega) (by omega)) rfl rfl (Nat.le_of_ble_eq_true rfl) ?_
          refine zk_u ?_
          refine zx_iload dX10_stand_68 rfl ?_
          refine zx_iret (st := []) dX10_stand_70 rfl rfl ?_
          rw [zk_standS, if_pos ⟨⟨⟨by omega, by omega⟩, ⟨by omega, by omega⟩, by omega, by omega⟩, hpp⟩, Int.toNat_natCast, Int.toNat_natCast, Int.toNat_natCast]
          exact zO_f (zf_s zf_rf (by decide)) (zC_th (zf_s zf_rf (by decide)) (by simp [zw_s]) hC (zT_at hT (by omega) (by omega) (by omega))) (by rw [zk_stand, if_neg (fun r => r ⟨⟨by omega, by omega⟩, ⟨by omega, by omega⟩, by omega, by omega⟩), if_neg (fun r => r hpp), zt_place, if_pos ⟨⟨by omega, by omega⟩, by omega, by omega⟩]; rfl)
        · have hnp : ¬ zpers σ z := fun r => h_41 (hper.mpr r)
          refine zx_bipush (v := zn_I (-103)) dX10_stand_44 (by decide) ?_
          refine zx_iret (st := []) dX10_stand_46 rfl rfl ?_
          rw [zk_standS, if_neg (fun r => hnp r.2)]
          exact zO_i hC (by rw [zk_stand, if_neg (by omega), if_pos hnp])
      · refine zx_bipush (v := zn_I (-101)) dX10_stand_29 (by decide) ?_
        refine zx_iret (st := []) dX10_stand_31 rfl rfl ?_
        rw [zk_standS, if_neg (by omega)]
        exact zO_i hC (by simp only [zk_stand, Int.toNat_natCast]; (repeat' split) <;> first | rfl | omega)
set_option maxRecDepth 100000 in
set_option maxHeartbeats 600000 in
theorem mX10_put {l : zw_Lh} {d : Nat} {M : zw_M} {σ : zZ} (hC : zC_ M σ) {z : Int} (hzz : -2147483648 ≤ z ∧ z < 2147483648) {s : Int} (hss : -2147483648 ≤ s ∧ s < 2147483648) : zw_C l (d + 3) iX10_put [.ref 0, .int (zn_I z), .int (zn_I s)] M (zO (zn_I (zk_put σ z s)) (zk_putS σ z s) M) := by
  obtain ⟨hI, hT, hG, ⟨ha, hb, hc⟩, hk⟩ := id hC
  have hp := hI.1
  have h30 := zp_30 hp
  have h8 := hT.1
  refine zw_of (by decide +kernel) (Nat.le_of_ble_eq_true rfl) ?_
  refine zy_loc (L1 := [.ref 0, .int (zn_I z), .int (zn_I s), .retAddr 0]) rfl ?_
  refine zx_aload_n dX10_put_0 rfl ?_
  refine zx_getr dX10_put_1 fX10_33 ?_
  refine zx_iload_n dX10_put_4 rfl ?_
  refine zx_callV (y1 := iX8_has) dX10_put_5 lX10_150 vX8_has rc_8 (mX8_has hT hzz) rfl rfl (Nat.le_of_ble_eq_true rfl) ?_
  refine zk_i ?_
  refine zy_ifB_eq (tgt := 22) dX10_put_8 (by decide) (fun h_8 => ?_) (fun h_8 => ?_)
  · refine zx_bipush (v := zn_I (-101)) dX10_put_22 (by decide) ?_
    refine zx_iret (st := []) dX10_put_24 rfl rfl ?_
    rw [zk_putS, if_neg (by omega)]
    exact zO_i hC (by simp only [zk_put, Int.toNat_natCast]; (repeat' split) <;> first | rfl | omega)
  · refine zx_aload_n dX10_put_11 rfl ?_
    refine zx_getr dX10_put_12 fX10_26 ?_
    refine zx_iload_n dX10_put_15 rfl ?_
    refine zx_callV (y1 := iX1_has) dX10_put_16 lX10_125 vX1_has rc_4 (mX1_has hI hss) rfl rfl (Nat.le_of_ble_eq_true rfl) ?_
    refine zk_i ?_
    refine zy_ifB_ne (tgt := 25) dX10_put_19 (by decide) (fun h_19 => ?_) (fun h_19 => ?_)
    · have hper : zt_isA σ.2.1 (z : Int) 3 ↔ zpers σ (z : Int) := by rw [zt_isA, zpers, zt_per, zt_kind, if_pos (by omega)]; omega
      refine zx_aload_n dX10_put_25 rfl ?_
      refine zx_getr dX10_put_26 fX10_33 ?_
      refine zx_iload_n dX10_put_29 rfl ?_
      refine zx_iconst (v := zn_I 3) dX10_put_30 rfl ?_
      refine zx_callV (y1 := iX8_isA) dX10_put_31 lX10_167 vX8_isA rc_8 (mX8_isA hT hzz (a := 3) (by omega)) rfl rfl (Nat.le_of_ble_eq_true rfl) ?_
      refine zk_i ?_
      refine zy_ifB_eq (tgt := 40) dX10_put_34 (by decide) (fun h_34 => ?_) (fun h_34 => ?_)
      · have hnp : ¬ zpers σ z := fun r => h_34 (hper.mpr r)
        obtain ⟨z, rfl⟩ : ∃ n : Nat, z = (n : Int) := ⟨z.toNat, by omega⟩
        obtain ⟨s, rfl⟩ : ∃ n : Nat, s = (n : Int) := ⟨s.toNat, by omega⟩
        refine zx_aload_n dX10_put_40 rfl ?_
        refine zx_getr dX10_put_41 fX10_33 ?_
        refine zx_iload_n dX10_put_44 rfl ?_
        refine zx_iconst (v := zn_I 0) dX10_put_45 rfl ?_
        refine zx_callV (y1 := iX8_place) dX10_put_46 lX10_154 vX8_place rc_8 (mX8_place hT hzz (q := 0) (by omega)) rfl rfl (Nat.le_of_ble_eq_true rfl) ?_
        refine zk_i ?_
        refine zx_istore_n dX10_put_49 rfl (Nat.le_of_ble_eq_true rfl) ?_
        refine zx_aload_n dX10_put_50 rfl ?_
        refine zx_getr dX10_put_51 fX10_33 ?_
        refine zx_iload_n dX10_put_54 rfl ?_
        refine zx_iload_n dX10_put_55 rfl ?_
        refine zx_callV (y1 := iX8_moveAllDay) dX10_put_56 lX10_178 vX8_moveAllDay rc_8 (mX8_moveAllDay (k := σ.2.1.1) hT.2.1 h8 (t := z) (x := zn_I (s : Int)) (by omega)) rfl rfl (Nat.le_of_ble_eq_true rfl) ?_
        intro v M1 he
        obtain ⟨rfl, hf, hcc⟩ := he
        refine zx_iload_n dX10_put_59 rfl ?_
        refine zx_iret (st := []) dX10_put_60 rfl rfl ?_
        rw [zk_putS, if_pos ⟨⟨⟨by omega, by omega⟩, by omega, by omega⟩, hnp⟩, Int.toNat_natCast, Int.toNat_natCast]
        refine zO_f (zf_mono hf (by decide)) (zC_th (zf_mono hf (by decide)) (by rw [(hf 8 (by decide)).1]) hC (zT_mv hT hf (fun q hq => by rw [hcc, if_pos (by omega)]) (fun k hk => by rw [hcc, if_neg (by omega)]) (fun q hq => by omega))) (by rw [zk_put, if_neg (fun r => r ⟨⟨by omega, by omega⟩, by omega, by omega⟩), if_neg hnp, zt_place, if_pos ⟨⟨by omega, by omega⟩, by omega, by omega⟩]; rfl)
      · have hpp : zpers σ z := hper.mp h_34
        refine zx_bipush (v := zn_I (-103)) dX10_put_37 (by decide) ?_
        refine zx_iret (st := []) dX10_put_39 rfl rfl ?_
        rw [zk_putS, if_neg (fun r => r.2 hpp)]
        exact zO_i hC (by rw [zk_put, if_neg (by omega), if_pos hpp])
    · refine zx_bipush (v := zn_I (-101)) dX10_put_22 (by decide) ?_
      refine zx_iret (st := []) dX10_put_24 rfl rfl ?_
      rw [zk_putS, if_neg (by omega)]
      exact zO_i hC (by simp only [zk_put, Int.toNat_natCast]; (repeat' split) <;> first | rfl | omega)
set_option maxRecDepth 100000 in
set_option maxHeartbeats 600000 in
theorem mX10_trade {l : zw_Lh} {d : Nat} {M : zw_M} {σ : zZ} (hC : zC_ M σ) {a : Int} (haa : -2147483648 ≤ a ∧ a < 2147483648) {b : Int} (hbb : -2147483648 ≤ b ∧ b < 2147483648) {q : Int} (hqq : -2147483648 ≤ q ∧ q < 2147483648) : zw_C l (d + 3) iX10_trade [.ref 0, .int (zn_I a), .int (zn_I b), .int (zn_I q)] M (zO (zn_I (zk_trade σ a b q)) (zk_tradeS σ a b q) M) := by
  obtain ⟨hI, hT, hG, -, hk⟩ := id hC
  have hp := hI.1
  have h30 := zp_30 hp
  have h8 := hT.1
  refine zw_of (by decide +kernel) (Nat.le_of_ble_eq_true rfl) ?_
  refine zy_loc (L1 := [.ref 0, .int (zn_I a), .int (zn_I b), .int (zn_I q), .retAddr 0, .retAddr 0]) rfl ?_
  refine zx_aload_n dX10_trade_0 rfl ?_
  refine zx_getr dX10_trade_1 fX10_33 ?_
  refine zx_iload_n dX10_trade_4 rfl ?_
  refine zx_callV (y1 := iX8_has) dX10_trade_5 lX10_150 vX8_has rc_8 (mX8_has hT haa) rfl rfl (Nat.le_of_ble_eq_true rfl) ?_
  refine zk_i ?_
  refine zy_ifB_eq (tgt := 29) dX10_trade_8 (by decide) (fun h_8 => ?_) (fun h_8 => ?_)
  · refine zx_bipush (v := zn_I (-101)) dX10_trade_29 (by decide) ?_
    refine zx_iret (st := []) dX10_trade_31 rfl rfl ?_
    rw [zk_tradeS, if_neg (by omega)]
    exact zO_i hC (by simp only [zk_trade, Int.toNat_natCast]; (repeat' split) <;> first | rfl | omega)
  · refine zx_aload_n dX10_trade_11 rfl ?_
    refine zx_getr dX10_trade_12 fX10_33 ?_
    refine zx_iload_n dX10_trade_15 rfl ?_
    refine zx_callV (y1 := iX8_has) dX10_trade_16 lX10_150 vX8_has rc_8 (mX8_has hT hbb) rfl rfl (Nat.le_of_ble_eq_true rfl) ?_
    refine zk_i ?_
    refine zy_ifB_eq (tgt := 29) dX10_trade_19 (by decide) (fun h_19 => ?_) (fun h_19 => ?_)
    · refine zx_bipush (v := zn_I (-101)) dX10_trade_29 (by decide) ?_
      refine zx_iret (st := []) dX10_trade_31 rfl rfl ?_
      rw [zk_tradeS, if_neg (by omega)]
      exact zO_i hC (by simp only [zk_trade, Int.toNat_natCast]; (repeat' split) <;> first | rfl | omega)
    · refine zx_iload_n dX10_trade_22 rfl ?_
      refine zx_callS (y1 := iX10_isQuarter) dX10_trade_23 lX10_171 sX10_isQuarter (mX10_isQuarter hqq) rfl rfl (Nat.le_of_ble_eq_true rfl) ?_
      refine zk_i ?_
      refine zy_ifB_ne (tgt := 32) dX10_trade_26 (by decide) (fun h_26 => ?_) (fun h_26 => ?_)
      · have hpera : zt_isA σ.2.1 (a : Int) 3 ↔ zpers σ (a : Int) := by rw [zt_isA, zpers, zt_per, zt_kind, if_pos (by omega)]; omega
        have hperb : zt_isA σ.2.1 (b : Int) 3 ↔ zpers σ (b : Int) := by rw [zt_isA, zpers, zt_per, zt_kind, if_pos (by omega)]; omega
        refine zx_aload_n dX10_trade_32 rfl ?_
        refine zx_getr dX10_trade_33 fX10_33 ?_
        refine zx_iload_n dX10_trade_36 rfl ?_
        refine zx_iconst (v := zn_I 3) dX10_trade_37 rfl ?_
        refine zx_callV (y1 := iX8_isA) dX10_trade_38 lX10_167 vX8_isA rc_8 (mX8_isA hT haa (a := 3) (by omega)) rfl rfl (Nat.le_of_ble_eq_true rfl) ?_
        refine zk_i ?_
        refine zy_ifB_eq (tgt := 56) dX10_trade_41 (by decide) (fun h_41 => ?_) (fun h_41 => ?_)
        · have hnp : ¬ (zpers σ a ∧ zpers σ b) := fun r => h_41 (hpera.mpr r.1)
          refine zx_bipush (v := zn_I (-103)) dX10_trade_56 (by decide) ?_
          refine zx_iret (st := []) dX10_trade_58 rfl rfl ?_
          rw [zk_tradeS, if_neg (fun r => hnp r.2)]
          exact zO_i hC (by rw [zk_trade, if_neg (by omega), if_pos hnp])
        · refine zx_aload_n dX10_trade_44 rfl ?_
          refine zx_getr dX10_trade_45 fX10_33 ?_
          refine zx_iload_n dX10_trade_48 rfl ?_
          refine zx_iconst (v := zn_I 3) dX10_trade_49 rfl ?_
          refine zx_callV (y1 := iX8_isA) dX10_trade_50 lX10_167 vX8_isA rc_8 (mX8_isA hT hbb (a := 3) (by omega)) rfl rfl (Nat.le_of_ble_eq_true rfl) ?_
          refine zk_i ?_
          refine zy_ifB_ne (tgt := 59) dX10_trade_53 (by decide) (fun h_53 => ?_) (fun h_53 => ?_)
          · have hpa : zpers σ a := hpera.mp h_41
            have hpb : zpers σ b := hperb.mp h_53
            have ea : zt_place σ.2.1 a q = (zpl σ a q : Nat) := by rw [zt_place, if_pos ⟨by omega, by omega⟩]; rfl
            have eb : zt_place σ.2.1 b q = (zpl σ b q : Nat) := by rw [zt_place, if_pos ⟨by omega, by omega⟩]; rfl
            obtain ⟨a, rfl⟩ : ∃ n : Nat, a = (n : Int) := ⟨a.toNat, by omega⟩
            obtain ⟨b, rfl⟩ : ∃ n : Nat, b = (n : Int) := ⟨b.toNat, by omega⟩
            obtain ⟨q, rfl⟩ : ∃ n : Nat, q = (n : Int) := ⟨q.toNat, by omega⟩
            have hp1 : zpl σ a q < zp_n σ.1 := hT.2.2.2.2.2.2.2 _ (by rw [Int.toNat_natCast]; omega) _ (by rw [Int.toNat_natCast]; omega)
            have hp2 : zpl σ b q < zp_n σ.1 := hT.2.2.2.2.2.2.2 _ (by rw [Int.toNat_natCast]; omega) _ (by rw [Int.toNat_natCast]; omega)
            refine zx_aload_n dX10_trade_59 rfl ?_
            refine zx_getr dX10_trade_60 fX10_33 ?_
            refine zx_iload_n dX10_trade_63 rfl ?_
            refine zx_iload_n dX10_trade_64 rfl ?_
            refine zx_callV (y1 := iX8_place) dX10_trade_65 lX10_154 vX8_place rc_8 (mX8_place hT haa hqq) rfl rfl (Nat.le_of_ble_eq_true rfl) ?_
            refine zk_i ?_
            rw [ea]
            refine zx_istore dX10_trade_68 rfl (Nat.le_of_ble_eq_true rfl) ?_
            refine zx_aload_n dX10_trade_70 rfl ?_
            refine zx_getr dX10_trade_71 fX10_33 ?_
            refine zx_iload_n dX10_trade_74 rfl ?_
            refine zx_iload_n dX10_trade_75 rfl ?_
            refine zx_callV (y1 := iX8_place) dX10_trade_76 lX10_154 vX8_place rc_8 (mX8_place hT hbb hqq) rfl rfl (Nat.le_of_ble_eq_true rfl) ?_
            refine zk_i ?_
            rw [eb]
            refine zx_istore dX10_trade_79 rfl (Nat.le_of_ble_eq_true rfl) ?_
            refine zx_aload_n dX10_trade_81 rfl ?_
            refine zx_getr dX10_trade_82 fX10_33 ?_
            refine zx_iload_n dX10_trade_85 rfl ?_
            refine zx_iload_n dX10_trade_86 rfl ?_
            refine zx_iload dX10_trade_87 rfl ?_
            refine zx_callV (y1 := iX8_move) dX10_trade_89 lX10_174 vX8_move rc_8 (mX8_move hT (t := a) (q := q) (x := zn_I (zpl σ b q : Nat)) (by omega) (by omega)) rfl rfl (Nat.le_of_ble_eq_true rfl) ?_
            refine zk_u ?_
            refine zx_aload_n dX10_trade_92 rfl ?_
            refine zx_getr dX10_trade_93 fX10_33 ?_
            refine zx_iload_n dX10_trade_96 rfl ?_
            refine zx_iload_n dX10_trade_97 rfl ?_
            refine zx_iload dX10_trade_98 rfl ?_
            refine zx_callV (y1 := iX8_move) dX10_trade_100 lX10_174 vX8_move rc_8 (mX8_move (M := (zw_s M 11 (a * 8 + q) (zn_I (zpl σ b q : Nat)))) (zT_at hT (by omega) (by omega) hp2) (t := b) (q := q) (x := zn_I (zpl σ a q : Nat)) (by show b < σ.2.1.1; omega) (by omega)) rfl rfl (Nat.le_of_ble_eq_true rfl) ?_
            refine zk_u ?_
            refine zx_iload dX10_trade_103 rfl ?_
            refine zx_iload dX10_trade_105 rfl ?_
            refine zy_icmp_ne (tgt := 114) dX10_trade_107 (by decide) (by omega) (fun h_107 => ?_) (fun h_107 => ?_)
            · refine zx_iconst (v := zn_I 1) dX10_trade_114 rfl ?_
              refine zx_iret (st := []) dX10_trade_115 rfl rfl ?_
              rw [zk_tradeS, if_pos ⟨⟨⟨by omega, by omega⟩, ⟨by omega, by omega⟩, by omega, by omega⟩, hpa, hpb⟩, Int.toNat_natCast, Int.toNat_natCast, Int.toNat_natCast]
              refine zO_f (zf_s (zf_s zf_rf (by decide)) (by decide)) (zC_th (zf_s (zf_s zf_rf (by decide)) (by decide)) (by simp [zw_s]) hC (zT_at (zT_at hT (by omega) (by omega) hp2) (by show b < σ.2.1.1; omega) (by omega) hp1)) ?_
              rw [zk_trade, if_neg (fun r => r ⟨⟨by omega, by omega⟩, ⟨by omega, by omega⟩, by omega, by omega⟩), if_neg (fun r => r ⟨hpa, hpb⟩)]
              split <;> first | rfl | omega
            · refine zx_iconst (v := zn_I 0) dX10_trade_110 rfl ?_
              refine zx_goto (tgt := 115) dX10_trade_111 (by decide) ?_
              refine zx_iret (st := []) dX10_trade_115 rfl rfl ?_
              rw [zk_tradeS, if_pos ⟨⟨⟨by omega, by omega⟩, ⟨by omega, by omega⟩, by omega, by omega⟩, hpa, hpb⟩, Int.toNat_natCast, Int.toNat_natCast, Int.toNat_natCast]
              refine zO_f (zf_s (zf_s zf_rf (by decide)) (by decide)) (zC_th (zf_s (zf_s zf_rf (by decide)) (by decide)) (by simp [zw_s]) hC (zT_at (zT_at hT (by omega) (by omega) hp2) (by show b < σ.2.1.1; omega) (by omega) hp1)) ?_
              rw [zk_trade, if_neg (fun r => r ⟨⟨by omega, by omega⟩, ⟨by omega, by omega⟩, by omega, by omega⟩), if_neg (fun r => r ⟨hpa, hpb⟩)]
              split <;> first | rfl | omega
          · have hnp : ¬ (zpers σ a ∧ zpers σ b) := fun r => h_53 (hperb.mpr r.2)
            refine zx_bipush (v := zn_I (-103)) dX10_trade_56 (by decide) ?_
            refine zx_iret (st := []) dX10_trade_58 rfl rfl ?_
            rw [zk_tradeS, if_neg (fun r => hnp r.2)]
            exact zO_i hC (by rw [zk_trade, if_neg (by omega), if_pos hnp])
      · refine zx_bipush (v := zn_I (-101)) dX10_trade_29 (by decide) ?_
        refine zx_iret (st := []) dX10_trade_31 rfl rfl ?_
        rw [zk_tradeS, if_neg (by omega)]
        exact zO_i hC (by simp only [zk_trade, Int.toNat_natCast]; (repeat' split) <;> first | rfl | omega)
end
section
/-! the class's own methods, the others -/
theorem zwet_30 {π : zP} (hp : π.1 ≤ 5 ∧ π.2.1 ≤ 6) (τ : zQ) (q : Nat) : zwet π τ q < 1073741824 := zp_bits_30 hp _ _
theorem zC_b {M M1 : zw_M} {σ : zZ} {x y z : Nat} {κ : zK} {S : List Nat} (h : zw_fr S M M1) (hC : zC_ M σ) (hS : ∀ p ∈ [1, 2, 4, 5, 6, 7, 8, 9, 10, 11], p ∉ S) (h1 : M1.1 0 10 = zn_I (x : Int) ∧ M1.1 0 11 = zn_I (y : Int) ∧ M1.1 0 12 = zn_I (z : Int)) (hk : zKc M1 κ) : zC_ M1 (σ.1, σ.2.1, σ.2.2.1, (x, y, z), κ) :=
  ⟨zI_f h hC.1 (fun p hp => hS p (by simp at hp ⊢; omega)), zT_f h hC.2.1 (fun p hp => hS p (by simp at hp ⊢; omega)), zG_f h hC.2.2.1 (fun p hp => hS p (by simp at hp ⊢; omega)), h1, hk⟩
set_option maxRecDepth 100000 in
set_option maxHeartbeats 600000 in
theorem mX10_leans {l : zw_Lh} {d : Nat} {M : zw_M} {σ : zZ} (hC : zC_ M σ) {q : Int} (hqq : -2147483648 ≤ q ∧ q < 2147483648) {w : Int} (hww : -2147483648 ≤ w ∧ w < 2147483648) : zw_C l (d + 4) iX10_leans [.ref 0, .int (zn_I q), .int (zn_I w)] M (zO (zn_I (zk_leans σ q w)) σ M) := by
  obtain ⟨hI, hT, hG, ⟨ha, hb, hc⟩, hk⟩ := id hC
  have hp := hI.1
  have h30 := zp_30 hp
  have h8 := hT.1
  refine zw_of (by decide +kernel) (Nat.le_of_ble_eq_true rfl) ?_
  refine zy_loc (L1 := [.ref 0, .int (zn_I q), .int (zn_I w)]) rfl ?_
  refine zx_iload_n dX10_leans_0 rfl ?_
  refine zx_callS (y1 := iX10_isQuarter) dX10_leans_1 lX10_171 sX10_isQuarter (mX10_isQuarter hqq) rfl rfl (Nat.le_of_ble_eq_true rfl) ?_
  refine zk_i ?_
  refine zy_ifB_ne (tgt := 10) dX10_leans_4 (by decide) (fun h_4 => ?_) (fun h_4 => ?_)
  · obtain ⟨q, rfl⟩ : ∃ n : Nat, q = (n : Int) := ⟨q.toNat, by omega⟩
    refine zx_iload_n dX10_leans_10 rfl ?_
    refine zy_if_ne (tgt := 23) dX10_leans_11 (by decide) (by omega) (fun h_11 => ?_) (fun h_11 => ?_)
    · refine zx_iload_n dX10_leans_23 rfl ?_
      refine zx_iconst (v := zn_I 1) dX10_leans_24 rfl ?_
      refine zy_icmp_ne (tgt := 39) dX10_leans_25 (by decide) (by omega) (fun h_25 => ?_) (fun h_25 => ?_)
      · refine zx_ldc dX10_leans_39 kX10_140 ?_
        refine zy_top (show (-100102 : Int32) = zn_I (-100102) from by decide) ?_
        refine zx_iret (st := []) dX10_leans_41 rfl rfl ?_
        exact zO_i hC (by simp only [zk_leans, Int.toNat_natCast]; (repeat' split) <;> first | rfl | omega)
      · refine zx_aload_n dX10_leans_28 rfl ?_
        refine zx_getr dX10_leans_29 fX10_42 ?_
        refine zx_iload_n dX10_leans_32 rfl ?_
        refine zx_callV (y1 := iX0_leanSouth) dX10_leans_33 lX10_185 vX0_leanSouth rc_13 (mX0_leanSouth hI hT (q := q) (by omega)) rfl rfl (Nat.le_of_ble_eq_true rfl) ?_
        refine zk_i ?_
        refine zx_goto (tgt := 41) dX10_leans_36 (by decide) ?_
        refine zx_iret (st := []) dX10_leans_41 rfl rfl ?_
        exact zO_i hC (by simp only [zk_leans, Int.toNat_natCast]; (repeat' split) <;> first | rfl | omega)
    · refine zx_aload_n dX10_leans_14 rfl ?_
      refine zx_getr dX10_leans_15 fX10_42 ?_
      refine zx_iload_n dX10_leans_18 rfl ?_
      refine zx_callV (y1 := iX0_leanEast) dX10_leans_19 lX10_182 vX0_leanEast rc_13 (mX0_leanEast hI hT (q := q) (by omega)) rfl rfl (Nat.le_of_ble_eq_true rfl) ?_
      refine zk_i ?_
      refine zx_iret (st := []) dX10_leans_22 rfl rfl ?_
      exact zO_i hC (by simp only [zk_leans, Int.toNat_natCast]; (repeat' split) <;> first | rfl | omega)
  · refine zx_ldc dX10_leans_7 kX10_129 ?_
    refine zy_top (show (-100101 : Int32) = zn_I (-100101) from by decide) ?_
    refine zx_iret (st := []) dX10_leans_9 rfl rfl ?_
    exact zO_i hC (by simp only [zk_leans, Int.toNat_natCast]; (repeat' split) <;> first | rfl | omega)
set_option maxRecDepth 100000 in
set_option maxHeartbeats 600000 in
theorem mX10_dip {l : zw_Lh} {d : Nat} {M : zw_M} {σ : zZ} (hC : zC_ M σ) {s : Int} (hss : -2147483648 ≤ s ∧ s < 2147483648) {q : Int} (hqq : -2147483648 ≤ q ∧ q < 2147483648) : zw_C l (d + 4) iX10_dip [.ref 0, .int (zn_I s), .int (zn_I q)] M (zO (zn_I (zk_dip σ s q)) σ M) := by
  obtain ⟨hI, hT, hG, ⟨ha, hb, hc⟩, hk⟩ := id hC
  have hp := hI.1
  have h30 := zp_30 hp
  have h8 := hT.1
  refine zw_of (by decide +kernel) (Nat.le_of_ble_eq_true rfl) ?_
  refine zy_loc (L1 := [.ref 0, .int (zn_I s), .int (zn_I q)]) rfl ?_
  refine zx_aload_n dX10_dip_0 rfl ?_
  refine zx_getr dX10_dip_1 fX10_26 ?_
  refine zx_iload_n dX10_dip_4 rfl ?_
  refine zx_callV (y1 := iX1_has) dX10_dip_5 lX10_125 vX1_has rc_4 (mX1_has hI hss) rfl rfl (Nat.le_of_ble_eq_true rfl) ?_
  refine zk_i ?_
  refine zy_ifB_eq (tgt := 18) dX10_dip_8 (by decide) (fun h_8 => ?_) (fun h_8 => ?_)
  · refine zx_ldc dX10_dip_18 kX10_188 ?_
    refine zy_top (show (-1000101 : Int32) = zn_I (-1000101) from by decide) ?_
    refine zx_iret (st := []) dX10_dip_20 rfl rfl ?_
    exact zO_i hC (by simp only [zk_dip, zp_at, Int.toNat_natCast]; (repeat' split) <;> first | rfl | omega)
  · refine zx_iload_n dX10_dip_11 rfl ?_
    refine zx_callS (y1 := iX10_isQuarter) dX10_dip_12 lX10_171 sX10_isQuarter (mX10_isQuarter hqq) rfl rfl (Nat.le_of_ble_eq_true rfl) ?_
    refine zk_i ?_
    refine zy_ifB_ne (tgt := 21) dX10_dip_15 (by decide) (fun h_15 => ?_) (fun h_15 => ?_)
    · obtain ⟨q, rfl⟩ : ∃ n : Nat, q = (n : Int) := ⟨q.toNat, by omega⟩
      refine zx_aload_n dX10_dip_21 rfl ?_
      refine zx_getr dX10_dip_22 fX10_26 ?_
      refine zx_iload_n dX10_dip_25 rfl ?_
      refine zx_aload_n dX10_dip_26 rfl ?_
      refine zx_getr dX10_dip_27 fX10_42 ?_
      refine zx_iload_n dX10_dip_30 rfl ?_
      refine zx_callV (y1 := iX0_leanEast) dX10_dip_31 lX10_182 vX0_leanEast rc_13 (mX0_leanEast hI hT (q := q) (by omega)) rfl rfl (Nat.le_of_ble_eq_true rfl) ?_
      refine zk_i ?_
      refine zx_aload_n dX10_dip_34 rfl ?_
      refine zx_getr dX10_dip_35 fX10_42 ?_
      refine zx_iload_n dX10_dip_38 rfl ?_
      refine zx_callV (y1 := iX0_leanSouth) dX10_dip_39 lX10_185 vX0_leanSouth rc_13 (mX0_leanSouth hI hT (q := q) (by omega)) rfl rfl (Nat.le_of_ble_eq_true rfl) ?_
      refine zk_i ?_
      refine zx_callV (y1 := iX1_dipOf) dX10_dip_42 lX10_189 vX1_dipOf rc_4 (mX1_dipOf hI hss (a := zl_E σ.1 σ.2.1 q) (b := zl_S σ.1 σ.2.1 q)) rfl rfl (Nat.le_of_ble_eq_true rfl) ?_
      refine zk_i ?_
      refine zx_iret (st := []) dX10_dip_45 rfl rfl ?_
      exact zO_i hC (by simp only [zk_dip, zp_at, Int.toNat_natCast]; (repeat' split) <;> first | rfl | omega)
    · refine zx_ldc dX10_dip_18 kX10_188 ?_
      refine zy_top (show (-1000101 : Int32) = zn_I (-1000101) from by decide) ?_
      refine zx_iret (st := []) dX10_dip_20 rfl rfl ?_
      exact zO_i hC (by simp only [zk_dip, zp_at, Int.toNat_natCast]; (repeat' split) <;> first | rfl | omega)
set_option maxRecDepth 100000 in
set_option maxHeartbeats 600000 in
theorem mX10_wet {l : zw_Lh} {d : Nat} {M : zw_M} {σ : zZ} (hC : zC_ M σ) {q : Int} (hqq : -2147483648 ≤ q ∧ q < 2147483648) : zw_C l (d + 5) iX10_wet [.ref 0, .int (zn_I q)] M (zO (zn_I (zk_wet σ q)) σ M) := by
  obtain ⟨hI, hT, hG, ⟨ha, hb, hc⟩, hk⟩ := id hC
  have hp := hI.1
  have h30 := zp_30 hp
  have h8 := hT.1
  refine zw_of (by decide +kernel) (Nat.le_of_ble_eq_true rfl) ?_
  refine zy_loc (L1 := [.ref 0, .int (zn_I q)]) rfl ?_
  refine zx_iload_n dX10_wet_0 rfl ?_
  refine zx_callS (y1 := iX10_isQuarter) dX10_wet_1 lX10_171 sX10_isQuarter (mX10_isQuarter hqq) rfl rfl (Nat.le_of_ble_eq_true rfl) ?_
  refine zk_i ?_
  refine zy_ifB_eq (tgt := 18) dX10_wet_4 (by decide) (fun h_4 => ?_) (fun h_4 => ?_)
  · refine zx_bipush (v := zn_I (-101)) dX10_wet_18 (by decide) ?_
    refine zx_iret (st := []) dX10_wet_20 rfl rfl ?_
    exact zO_i hC (by simp only [zk_wet, zwet, Int.toNat_natCast]; (repeat' split) <;> first | rfl | omega)
  · obtain ⟨q, rfl⟩ : ∃ n : Nat, q = (n : Int) := ⟨q.toNat, by omega⟩
    refine zx_aload_n dX10_wet_7 rfl ?_
    refine zx_getr dX10_wet_8 fX10_42 ?_
    refine zx_iload_n dX10_wet_11 rfl ?_
    refine zx_callV (y1 := iX0_wetIn) dX10_wet_12 lX10_192 vX0_wetIn rc_13 (mX0_wetIn hI hT (q := q) (by omega)) rfl rfl (Nat.le_of_ble_eq_true rfl) ?_
    refine zk_i ?_
    refine zx_goto (tgt := 20) dX10_wet_15 (by decide) ?_
    refine zx_iret (st := []) dX10_wet_20 rfl rfl ?_
    exact zO_i hC (by simp only [zk_wet, zwet, Int.toNat_natCast]; (repeat' split) <;> first | rfl | omega)




set_option maxRecDepth 100000 in
set_option maxHeartbeats 600000 in
theorem mX10_late {l : zw_Lh} {d : Nat} {M : zw_M} {σ : zZ} (hC : zC_ M σ) {q : Int} (hqq : -2147483648 ≤ q ∧ q < 2147483648) {e : Int} (hee : -2147483648 ≤ e ∧ e < 2147483648) {x : Int} (hxx : -2147483648 ≤ x ∧ x < 2147483648) : zw_C l (d + 5) iX10_late [.ref 0, .int (zn_I q), .int (zn_I e), .int (zn_I x)] M (zO (zn_I (zk_late σ q e x)) σ M) := by
  obtain ⟨hI, hT, hG, ⟨ha, hb, hc⟩, hk⟩ := id hC
  have hp := hI.1
  have h30 := zp_30 hp
  have h8 := hT.1
  have h2n := Nat.pow_le_pow_right (show 0 < 2 by omega) h30
  refine zw_of (by decide +kernel) (Nat.le_of_ble_eq_true rfl) ?_
  refine zy_loc (L1 := [.ref 0, .int (zn_I q), .int (zn_I e), .int (zn_I x)]) rfl ?_
  refine zx_iload_n dX10_late_0 rfl ?_
  refine zx_callS (y1 := iX10_isQuarter) dX10_late_1 lX10_171 sX10_isQuarter (mX10_isQuarter hqq) rfl rfl (Nat.le_of_ble_eq_true rfl) ?_
  refine zk_i ?_
  refine zy_ifB_eq (tgt := 11) dX10_late_4 (by decide) (fun h_4 => ?_) (fun h_4 => ?_)
  · refine zx_bipush (v := zn_I (-101)) dX10_late_11 (by decide) ?_
    refine zx_iret (st := []) dX10_late_13 rfl rfl ?_
    exact zO_i hC (by rw [zk_late, if_pos (by omega)])
  · refine zx_iload_n dX10_late_7 rfl ?_
    refine zy_if_ne (tgt := 14) dX10_late_8 (by decide) (by omega) (fun h_8 => ?_) (fun h_8 => ?_)
    · refine zx_aload_n dX10_late_14 rfl ?_
      refine zx_getr dX10_late_15 fX10_26 ?_
      refine zx_iload_n dX10_late_18 rfl ?_
      refine zx_callV (y1 := iX1_hasAll) dX10_late_19 lX10_240 vX1_hasAll rc_4 (mX1_hasAll hI hee) rfl rfl (Nat.le_of_ble_eq_true rfl) ?_
      refine zk_i ?_
      refine zy_ifB_eq (tgt := 34) dX10_late_22 (by decide) (fun h_22 => ?_) (fun h_22 => ?_)
      · refine zx_bipush (v := zn_I (-102)) dX10_late_34 (by decide) ?_
        refine zx_iret (st := []) dX10_late_36 rfl rfl ?_
        exact zO_i hC (by rw [zk_late, if_neg (by omega), if_pos (fun r => h_22 r.1)])
      · refine zx_iload_n dX10_late_25 rfl ?_
        refine zy_if_lt (tgt := 34) dX10_late_26 (by decide) (by omega) (fun h_26 => ?_) (fun h_26 => ?_)
        · refine zx_bipush (v := zn_I (-102)) dX10_late_34 (by decide) ?_
          refine zx_iret (st := []) dX10_late_36 rfl rfl ?_
          exact zO_i hC (by rw [zk_late, if_neg (by omega), if_pos (fun r => by omega)])
        · refine zx_iload_n dX10_late_29 rfl ?_
          refine zx_iconst (v := zn_I 3) dX10_late_30 rfl ?_
          refine zy_icmp_lt (tgt := 37) dX10_late_31 (by decide) (by omega) (fun h_31 => ?_) (fun h_31 => ?_)
          · refine zx_aload_n dX10_late_37 rfl ?_
            refine zx_getr dX10_late_38 fX10_26 ?_
            refine zx_callV (y1 := iX1_isThere) dX10_late_41 lX10_195 vX1_isThere rc_4 (mX1_isThere hI) rfl rfl (Nat.le_of_ble_eq_true rfl) ?_
            refine zk_i ?_
            refine zy_ifB_ne (tgt := 50) dX10_late_44 (by decide) (fun h_44 => ?_) (fun h_44 => ?_)
            · obtain ⟨q, rfl⟩ : ∃ n : Nat, q = (n : Int) := ⟨q.toNat, by omega⟩
              obtain ⟨x, rfl⟩ : ∃ n : Nat, x = (n : Int) := ⟨x.toNat, by omega⟩
              refine zx_aload_n dX10_late_50 rfl ?_
              refine zx_getr dX10_late_51 fX10_74 ?_
              refine zx_iload_n dX10_late_54 rfl ?_
              refine zx_iload_n dX10_late_55 rfl ?_
              refine zx_callV (y1 := iX2_search) dX10_late_56 lX10_243 vX2_search rc_27 (mX2_search hI hT (q := q) (by omega) (doors := e) (by omega)) rfl rfl (Nat.le_of_ble_eq_true rfl) ?_
              intro v M1 he
              obtain ⟨rfl, hf, hfd⟩ := he
              refine zx_aload_n dX10_late_59 rfl ?_
              refine zx_getr dX10_late_60 fX10_74 ?_
              refine zx_iload_n dX10_late_63 rfl ?_
              refine zx_callV (y1 := iX2_found) dX10_late_64 lX10_245 vX2_found rc_27 (mX2_found hfd (j := x) (by omega)) rfl rfl (Nat.le_of_ble_eq_true rfl) ?_
              refine zk_i ?_
              refine zx_iret (st := []) dX10_late_67 rfl rfl ?_
              exact zO_f (zf_mono hf (by decide)) (zC_f hf hC (by decide)) (by rw [zk_late, if_neg (by omega), if_neg (fun r => r ⟨h_22, by omega⟩), if_neg (by omega), Int.toNat_natCast, Int.toNat_natCast])
            · refine zx_bipush (v := zn_I (-103)) dX10_late_47 (by decide) ?_
              refine zx_iret (st := []) dX10_late_49 rfl rfl ?_
              exact zO_i hC (by rw [zk_late, if_neg (by omega), if_neg (fun r => r ⟨h_22, by omega⟩), if_pos h_44])
          · refine zx_bipush (v := zn_I (-102)) dX10_late_34 (by decide) ?_
            refine zx_iret (st := []) dX10_late_36 rfl rfl ?_
            exact zO_i hC (by rw [zk_late, if_neg (by omega), if_pos (fun r => by omega)])
    · refine zx_bipush (v := zn_I (-101)) dX10_late_11 (by decide) ?_
      refine zx_iret (st := []) dX10_late_13 rfl rfl ?_
      exact zO_i hC (by rw [zk_late, if_pos (by omega)])



set_option maxRecDepth 100000 in
set_option maxHeartbeats 600000 in
theorem mX10_count {l : zw_Lh} {d : Nat} {M : zw_M} {σ : zZ} (hC : zC_ M σ) {w : Int} (hww : -2147483648 ≤ w ∧ w < 2147483648) : zw_C l (d + 5) iX10_count [.ref 0, .int (zn_I w)] M (zw_i (zn_I (zk_count σ w)) M) := by
  obtain ⟨hI, hT, hG, ⟨ha, hb, hc⟩, hk⟩ := id hC
  have hp := hI.1
  have h30 := zp_30 hp
  have h8 := hT.1
  have hpop := zt_pl_pop (τ := σ.2.1) σ.2.1.1 h8
  have hpm : (zt_pl σ.2.1 σ.2.1.1).length = zt_m σ.2.1 := rfl
  refine zw_of (by decide +kernel) (Nat.le_of_ble_eq_true rfl) ?_
  refine zy_loc (L1 := [.ref 0, .int (zn_I w)]) rfl ?_
  refine zx_iload_n dX10_count_0 rfl ?_
  rcases (show w = 0 ∨ w = 1 ∨ w = 2 ∨ w = 3 ∨ w = 4 ∨ w = 5 ∨ w = 6 ∨ w = 7 ∨ (w < 0 ∨ 7 < w) by omega) with h_1 | h_1 | h_1 | h_1 | h_1 | h_1 | h_1 | h_1 | h_1
  · refine zx_tin (z := 0) (tgt := 48) dX10_count_1 ((zn_toInt ⟨by omega, by omega⟩).trans h_1) (by decide) (by decide) rfl (by decide) ?_
    refine zx_aload_n dX10_count_48 rfl ?_
    refine zx_getr dX10_count_49 fX10_26 ?_
    refine zx_callV (y1 := iX1_squares) dX10_count_52 lX10_122 vX1_squares rc_4 (mX1_squares hI) rfl rfl (Nat.le_of_ble_eq_true rfl) ?_
    refine zk_i ?_
    refine zx_iret (st := []) dX10_count_55 rfl rfl ?_
    exact zk_I (by simp only [zk_count, Int.toNat_natCast]; (repeat' split) <;> first | rfl | omega)
  · refine zx_tin (z := 1) (tgt := 56) dX10_count_1 ((zn_toInt ⟨by omega, by omega⟩).trans h_1) (by decide) (by decide) rfl (by decide) ?_
    refine zx_aload_n dX10_count_56 rfl ?_
    refine zx_getr dX10_count_57 fX10_26 ?_
    refine zx_callV (y1 := iX1_doors) dX10_count_60 lX10_271 vX1_doors rc_4 (mX1_doors hI) rfl rfl (Nat.le_of_ble_eq_true rfl) ?_
    refine zk_i ?_
    refine zx_iret (st := []) dX10_count_63 rfl rfl ?_
    exact zk_I (by simp only [zk_count, Int.toNat_natCast]; (repeat' split) <;> first | rfl | omega)
  · refine zx_tin (z := 2) (tgt := 64) dX10_count_1 ((zn_toInt ⟨by omega, by omega⟩).trans h_1) (by decide) (by decide) rfl (by decide) ?_
    refine zx_aload_n dX10_count_64 rfl ?_
    refine zx_getr dX10_count_65 fX10_33 ?_
    refine zx_callV (y1 := iX8_size) dX10_count_68 lX10_262 vX8_size rc_8 (mX8_size hT) rfl rfl (Nat.le_of_ble_eq_true rfl) ?_
    refine zk_i ?_
    refine zx_iret (st := []) dX10_count_71 rfl rfl ?_
    exact zk_I (by simp only [zk_count, Int.toNat_natCast]; (repeat' split) <;> first | rfl | omega)
  · refine zx_tin (z := 3) (tgt := 72) dX10_count_1 ((zn_toInt ⟨by omega, by omega⟩).trans h_1) (by decide) (by decide) rfl (by decide) ?_
    refine zx_aload_n dX10_count_72 rfl ?_
    refine zx_getr dX10_count_73 fX10_33 ?_
    refine zx_callV (y1 := iX8_people) dX10_count_76 lX10_199 vX8_people rc_8 (mX8_people hT) rfl rfl (Nat.le_of_ble_eq_true rfl) ?_
    refine zk_i ?_
    rw [hpop, hpm]
    refine zx_iret (st := []) dX10_count_79 rfl rfl ?_
    exact zk_I (by simp only [zk_count, Int.toNat_natCast]; (repeat' split) <;> first | rfl | omega)
  · refine zx_tin (z := 4) (tgt := 80) dX10_count_1 ((zn_toInt ⟨by omega, by omega⟩).trans h_1) (by decide) (by decide) rfl (by decide) ?_
    refine zx_aload_n dX10_count_80 rfl ?_
    refine zx_getr dX10_count_81 fX10_10 ?_
    refine zx_callV (y1 := iX3_length) dX10_count_84 lX10_89 vX3_length rc_1 (mX3_length hG) rfl rfl (Nat.le_of_ble_eq_true rfl) ?_
    refine zk_i ?_
    refine zx_iret (st := []) dX10_count_87 rfl rfl ?_
    exact zk_I (by simp only [zk_count, Int.toNat_natCast]; (repeat' split) <;> first | rfl | omega)
  · refine zx_tin (z := 5) (tgt := 88) dX10_count_1 ((zn_toInt ⟨by omega, by omega⟩).trans h_1) (by decide) (by decide) rfl (by decide) ?_
    refine zx_aload_n dX10_count_88 rfl ?_
    refine zy_geti dX10_count_89 fX10_118 (ha) ?_
    refine zx_iret (st := []) dX10_count_92 rfl rfl ?_
    exact zk_I (by simp only [zk_count, Int.toNat_natCast]; (repeat' split) <;> first | rfl | omega)
  · refine zx_tin (z := 6) (tgt := 93) dX10_count_1 ((zn_toInt ⟨by omega, by omega⟩).trans h_1) (by decide) (by decide) rfl (by decide) ?_
    refine zx_aload_n dX10_count_93 rfl ?_
    refine zy_geti dX10_count_94 fX10_202 (hb) ?_
    refine zx_iret (st := []) dX10_count_97 rfl rfl ?_
    exact zk_I (by simp only [zk_count, Int.toNat_natCast]; (repeat' split) <;> first | rfl | omega)
  · refine zx_tin (z := 7) (tgt := 98) dX10_count_1 ((zn_toInt ⟨by omega, by omega⟩).trans h_1) (by decide) (by decide) rfl (by decide) ?_
    refine zx_aload_n dX10_count_98 rfl ?_
    refine zy_geti dX10_count_99 fX10_229 (hc) ?_
    refine zx_iret (st := []) dX10_count_102 rfl rfl ?_
    exact zk_I (by simp only [zk_count, Int.toNat_natCast]; (repeat' split) <;> first | rfl | omega)
  · refine zx_tout (tgt := 103) dX10_count_1 (by rw [zn_toInt ⟨by omega, by omega⟩]; exact h_1) (by decide) ?_
    refine zx_bipush (v := zn_I (-102)) dX10_count_103 (by decide) ?_
    refine zx_iret (st := []) dX10_count_105 rfl rfl ?_
    exact zk_I (by simp only [zk_count, Int.toNat_natCast]; (repeat' split) <;> first | rfl | omega)
end
section
/-! THE LAW'S OWN NUMBERS: the script's cells, letters of a plan as it is written -/
abbrev iL_law : zw_I := (yL_law, code, 26, some .boolean)
theorem zn_mask (x : Int32) (m : Nat) (hm : m < 2147483648) : ∃ k : Nat, k ≤ m ∧ x &&& zn_I (m : Int) = zn_I (k : Int) := by
  refine ⟨x.toBitVec.toNat &&& m, Nat.and_le_right, ?_⟩
  rw [← zn_nat, ← zn_nat]
  apply Int32.toBitVec_inj.1
  apply BitVec.eq_of_toNat_eq
  show (x.toBitVec &&& BitVec.ofNat 32 m).toNat = (BitVec.ofNat 32 (x.toBitVec.toNat &&& m)).toNat
  have h1 : x.toBitVec.toNat &&& m ≤ m := Nat.and_le_right
  rw [BitVec.toNat_and, BitVec.toNat_ofNat, BitVec.toNat_ofNat, Nat.mod_eq_of_lt (by omega), Nat.mod_eq_of_lt (by omega)]
theorem zy_mask {l : zw_Lh} {d : Nat} {y : zw_I} {Q : Option Value → zw_M → Prop} {pc : Nat} {L st : List Value} {M : zw_M} {x : Int32} (m : Nat) (hm : m < 2147483648) (k : ∀ v : Nat, v ≤ m → zw_X l d y Q pc L (.int (zn_I (v : Int)) :: st) M) : zw_X l d y Q pc L (.int (x &&& zn_I (m : Int)) :: st) M := by
  obtain ⟨v, h1, h2⟩ := zn_mask x m hm
  rw [h2]
  exact k v h1
/-- the k-th cell of the script, or what stands for it -/
def lS (l : zw_Lh) (k : Nat) : Nat := ((if k < l.2.1 then l.2.2 k else zn_I (7919 * (k : Int) + 13)) &&& zn_I ((2147483647 : Nat) : Int)).toInt.toNat
theorem lS_I (l : zw_Lh) (k : Nat) : (if k < l.2.1 then l.2.2 k else zn_I (7919 * (k : Int) + 13)) &&& zn_I ((2147483647 : Nat) : Int) = zn_I (lS l k : Int) ∧ lS l k < 2147483648 := by
  unfold lS
  obtain ⟨v, h1, h2⟩ := zn_mask (if k < l.2.1 then l.2.2 k else zn_I (7919 * (k : Int) + 13)) 2147483647 (by decide)
  rw [h2, zn_toInt ⟨by omega, by omega⟩, Int.toNat_natCast]
  exact ⟨rfl, by omega⟩
theorem lS_lt (l : zw_Lh) (k : Nat) : lS l k < 2147483648 := (lS_I l k).2
/-! letters one by one -/
theorem lg_told : ∀ c, c < 127 → 0 < c → zg_told c 8 = some 1 ∧ zg_c c 0 = c := by decide +kernel
theorem lg_i2l : ∀ c : Nat, c < 127 → (zn_I (c : Int)).toInt64 = lN c := by decide +kernel
theorem lg_addA {ρ : zR} {c : Nat} (hc : c < 127) (h0 : 0 < c) (h : ρ.1 < 40) : zg_addA ρ c = ((ρ.1 + 1 : Nat) : Int) := by
  rw [zg_addA, (lg_told c hc h0).1]
  dsimp only
  rw [if_neg (by omega)]
theorem lg_addR {ρ : zR} {c : Nat} (hc : c < 127) (h0 : 0 < c) (h : ρ.1 < 40) : zg_addR ρ c = zg_put ρ c 1 := by
  rw [zg_addR, (lg_told c hc h0).1]
  dsimp only
  rw [if_neg (by omega)]
theorem lg_at {ρ : zR} {c i : Nat} (h : i < ρ.1) : (zg_put ρ c 1).2 i = ρ.2 i := by
  show (if i < ρ.1 then _ else _) = _
  rw [if_pos h]
theorem lg_end {ρ : zR} {c : Nat} (hc : c < 127) (h0 : 0 < c) : (zg_put ρ c 1).2 ρ.1 = c := by
  show (if ρ.1 < ρ.1 then _ else zg_c c (ρ.1 - ρ.1)) = _
  rw [if_neg (Nat.lt_irrefl _), Nat.sub_self]
  exact (lg_told c hc h0).2
theorem lg_go {ρ : zR} {c : Nat} : ∀ i, i ≤ ρ.1 → zq_go (zg_put ρ c 1) i = zq_go ρ i
  | 0, _ => rfl
  | i + 1, h => by rw [zq_go, zq_go, lg_go i (by omega), lg_at (by omega)]
theorem lg_k {ρ : zR} {c : Nat} : ∀ i, i ≤ ρ.1 → zr_k (zg_put ρ c 1) i = zr_k ρ i
  | 0, _ => rfl
  | i + 1, h => by rw [zr_k, zr_k, lg_k i (by omega), lg_at (by omega)]
theorem lg_H {ρ : zR} {c : Nat} : ∀ i, i ≤ ρ.1 → zr_H (zg_put ρ c 1) i = zr_H ρ i
  | 0, _ => rfl
  | i + 1, h => by rw [zr_H, zr_H, lg_H i (by omega), lg_k i (by omega), lg_at (by omega)]
/-- all letters are taken, c squares of them -/
def lP (ρ : zR) (σA : zA) (c : Nat) : Prop := zq_go ρ ρ.1 = (ρ.1, σA) ∧ zr_k ρ ρ.1 = c
theorem lP_go {ρ : zR} {σA σB : zA} {c x : Nat} (hx : x < 127) (h0 : 0 < x) (h : lP ρ σA c) (ht : zq_take σA x = some σB) : zq_go (zg_put ρ x 1) (ρ.1 + 1) = (ρ.1 + 1, σB) := by
  rw [zq_go, lg_go _ (Nat.le_refl _), h.1, lg_end hx h0, if_neg (by dsimp only; omega)]
  dsimp only
  rw [ht]
theorem lP_slash {ρ : zR} {σA σB : zA} {c : Nat} (h : lP ρ σA c) (ht : zq_take σA 47 = some σB) : lP (zg_put ρ 47 1) σB c ∧ zr_H (zg_put ρ 47 1) (zg_put ρ 47 1).1 = zr_H ρ ρ.1 := by
  refine ⟨⟨lP_go (by decide) (by decide) h ht, ?_⟩, ?_⟩
  · show zr_k (zg_put ρ 47 1) (ρ.1 + 1) = c
    rw [zr_k, lg_end (by decide) (by decide), if_pos rfl, lg_k _ (Nat.le_refl _), h.2]
  · show zr_H (zg_put ρ 47 1) (ρ.1 + 1) = _
    rw [zr_H, lg_end (by decide) (by decide), if_pos rfl, lg_H _ (Nat.le_refl _)]
theorem lP_sq {ρ : zR} {σA σB : zA} {c x : Nat} (hx : x < 127) (h0 : 0 < x) (h47 : x ≠ 47) (h : lP ρ σA c) (ht : zq_take σA x = some σB) : lP (zg_put ρ x 1) σB (c + 1) ∧ zr_H (zg_put ρ x 1) (zg_put ρ x 1).1 = fun s => if s = c then zr_g x else zr_H ρ ρ.1 s := by
  refine ⟨⟨lP_go hx h0 h ht, ?_⟩, ?_⟩
  · show zr_k (zg_put ρ x 1) (ρ.1 + 1) = c + 1
    rw [zr_k, lg_end hx h0, if_neg h47, lg_k _ (Nat.le_refl _), h.2]
  · show zr_H (zg_put ρ x 1) (ρ.1 + 1) = _
    rw [zr_H, lg_end hx h0, if_neg h47, lg_H _ (Nat.le_refl _), lg_k _ (Nat.le_refl _), h.2]
/-- where the writing of r rows of w squares stands, at square c: the row that is begun, how many squares of it are written -/
def lJ (w r c : Nat) (σA : zA) : Prop := 1 ≤ σA.1 ∧ σA.1 ≤ r ∧ c = (σA.1 - 1) * w + σA.2.2 ∧ σA.2.2 ≤ w ∧ (σA.1 = 1 → σA.2.1 = 0) ∧ (σA.1 ≠ 1 → σA.2.1 = w)
/-- a new row -/
theorem lJ_row {w r c : Nat} {σA : zA} (hw : 2 ≤ w ∧ w ≤ 6) (hr : 2 ≤ r ∧ r ≤ 5) (h : lJ w r c σA) (h0 : 0 < c) (hc : c < r * w) (hm : c % w = 0) (hp : 0 < σA.2.2) : ∃ σB : zA, zq_take σA 47 = some σB ∧ lJ w r c σB ∧ σB.1 = σA.1 + 1 ∧ σB.2.2 < w := by
  obtain ⟨h1, h2, h3, h4, h5, h6⟩ := h
  have e : σA.2.2 = w := by
    rw [h3, Nat.mul_comm, Nat.mul_add_mod] at hm
    rcases Nat.lt_or_ge σA.2.2 w with q | q
    · rw [Nat.mod_eq_of_lt q] at hm; omega
    · omega
  have hrow : c = σA.1 * w := by
    rw [h3, e]
    have : (σA.1 - 1) * w + w = (σA.1 - 1 + 1) * w := by rw [Nat.succ_mul]
    rw [this, Nat.sub_add_cancel h1]
  have hlt : σA.1 < r := Nat.lt_of_mul_lt_mul_right (a := w) (by rw [← hrow]; exact hc)
  refine ⟨(σA.1 + 1, σA.2.2, 0), ?_, ⟨by dsimp only; omega, by dsimp only; omega, ?_, by dsimp only; omega, by dsimp only; omega, by dsimp only; omega⟩, rfl, by dsimp only; omega⟩
  · have hc : ((σA.1 = 1 ∧ 2 ≤ σA.2.2) ∨ (σA.1 ≠ 1 ∧ σA.2.2 = σA.2.1)) ∧ σA.1 < 5 := by
      refine ⟨?_, by omega⟩
      by_cases q : σA.1 = 1
      · exact Or.inl ⟨q, by omega⟩
      · exact Or.inr ⟨q, by rw [h6 q, e]⟩
    rw [zq_take, if_pos rfl, if_pos hc]
  · show c = (σA.1 + 1 - 1) * w + 0
    rw [Nat.add_sub_cancel, Nat.add_zero]
    exact hrow
/-- a square more -/
theorem lJ_sq {w r c x : Nat} {σA : zA} (hw : 2 ≤ w ∧ w ≤ 6) (h : lJ w r c σA) (hf : σA.2.2 < w) (hx : x = 46 ∨ (49 ≤ x ∧ x ≤ 57)) : ∃ σB : zA, zq_take σA x = some σB ∧ lJ w r (c + 1) σB ∧ σB.1 = σA.1 ∧ 0 < σB.2.2 := by
  obtain ⟨h1, h2, h3, h4, h5, h6⟩ := h
  refine ⟨(σA.1, σA.2.1, σA.2.2 + 1), ?_, ⟨h1, h2, by dsimp only; omega, by dsimp only; omega, h5, h6⟩, rfl, by dsimp only; omega⟩
  have hc : (x = 46 ∨ (49 ≤ x ∧ x ≤ 57)) ∧ ((σA.1 = 1 ∧ σA.2.2 < 6) ∨ (σA.1 ≠ 1 ∧ σA.2.2 < σA.2.1)) := by
    refine ⟨hx, ?_⟩
    by_cases q : σA.1 = 1
    · exact Or.inl ⟨q, by omega⟩
    · exact Or.inr ⟨q, by rw [h6 q]; exact hf⟩
  rw [zq_take, if_neg (by omega), if_pos hc]
/-- no new row -/
theorem lJ_in {w r c : Nat} {σA : zA} (h : lJ w r c σA) (hw : 2 ≤ w) (hm : c = 0 ∨ c % w ≠ 0) : σA.2.2 < w := by
  obtain ⟨h1, h2, h3, h4, h5, h6⟩ := h
  rcases hm with hm | hm
  · omega
  · rw [h3, Nat.mul_comm, Nat.mul_add_mod] at hm
    rcases Nat.lt_or_ge σA.2.2 w with q | q
    · exact q
    · rw [show σA.2.2 = w by omega, Nat.mod_self] at hm; exact absurd rfl hm
/-- the whole plan -/
theorem lJ_end {w r : Nat} {σA : zA} (hw : 2 ≤ w) (hr : 2 ≤ r) (h : lJ w r (r * w) σA) (hp : 0 < σA.2.2) : σA.1 = r ∧ σA.2.1 = w ∧ σA.2.2 = w := by
  obtain ⟨h1, h2, h3, h4, h5, h6⟩ := h
  have hm : r * w % w = 0 := Nat.mul_mod_left r w
  have e : σA.2.2 = w := by
    rw [h3, Nat.mul_comm, Nat.mul_add_mod] at hm
    rcases Nat.lt_or_ge σA.2.2 w with q | q
    · rw [Nat.mod_eq_of_lt q] at hm; omega
    · omega
  have hrow : r * w = σA.1 * w := by
    rw [h3, e]
    have : (σA.1 - 1) * w + w = (σA.1 - 1 + 1) * w := by rw [Nat.succ_mul]
    rw [this, Nat.sub_add_cancel h1]
  have hE : σA.1 = r := (Nat.eq_of_mul_eq_mul_right (by omega) hrow).symm
  exact ⟨hE, h6 (by omega), e⟩
/-- the page as it stands at square c -/
def lW (ρ : zR) (w r c : Nat) (σA : zA) : Prop := lP ρ σA c ∧ lJ w r c σA ∧ ρ.1 + 1 = c + σA.1
theorem lW_0 {ρ : zR} {w r : Nat} (h : ρ.1 = 0) (hr : 2 ≤ r) : lW ρ w r 0 (1, 0, 0) := ⟨⟨by rw [h]; rfl, by rw [h]; rfl⟩, ⟨by decide, by dsimp only; omega, by dsimp only; omega, by dsimp only; omega, fun _ => rfl, fun q => absurd rfl q⟩, by rw [h]⟩
theorem lW_row {ρ : zR} {w r c : Nat} {σA : zA} (hw : 2 ≤ w ∧ w ≤ 6) (hr : 2 ≤ r ∧ r ≤ 5) (h : lW ρ w r c σA) (h0 : 0 < c) (hc : c < r * w) (hm : c % w = 0) (hp : 0 < σA.2.2) : ∃ σB, lW (zg_put ρ 47 1) w r c σB ∧ σB.2.2 < w ∧ zr_H (zg_put ρ 47 1) (zg_put ρ 47 1).1 = zr_H ρ ρ.1 := by
  obtain ⟨σB, e1, e2, e3, e4⟩ := lJ_row hw hr h.2.1 h0 hc hm hp
  obtain ⟨f1, f2⟩ := lP_slash h.1 e1
  have := h.2.2
  exact ⟨σB, ⟨f1, e2, by show ρ.1 + 1 + 1 = _; omega⟩, e4, f2⟩
theorem lW_sq {ρ : zR} {w r c x : Nat} {σA : zA} (hw : 2 ≤ w ∧ w ≤ 6) (h : lW ρ w r c σA) (hf : σA.2.2 < w) (hx : x = 46 ∨ (49 ≤ x ∧ x ≤ 57)) : ∃ σB, lW (zg_put ρ x 1) w r (c + 1) σB ∧ 0 < σB.2.2 ∧ zr_H (zg_put ρ x 1) (zg_put ρ x 1).1 = fun s => if s = c then zr_g x else zr_H ρ ρ.1 s := by
  obtain ⟨σB, e1, e2, e3, e4⟩ := lJ_sq hw h.2.1 hf hx
  obtain ⟨f1, f2⟩ := lP_sq (by omega) (by omega) (by omega) h.1 e1
  have := h.2.2
  exact ⟨σB, ⟨f1, e2, by show ρ.1 + 1 + 1 = _; omega⟩, e4, f2⟩
theorem lW_40 {ρ : zR} {w r c : Nat} {σA : zA} (hr : r ≤ 5) (h : lW ρ w r c σA) (hc : c ≤ 30) : ρ.1 < 40 := by
  have h1 := h.2.2
  have h2 := h.2.1.2.1
  omega
/-! the law's rows and the class's state -/
/-- rows, how wide, heights -/
def lA (M : zw_M) (π : zP) : Prop := M.1 33 0 = zn_I π.1 ∧ M.1 33 1 = zn_I π.2.1 ∧ ∀ c, c < zp_n π → M.1 34 c = zn_I (π.2.2 c)
/-- the first things -/
def lB (M : zw_M) (τ : zQ) (k : Nat) : Prop := ∀ t, t < k → (M.1 35 (10 * t) = zn_I (τ.2.1 t) ∧ M.1 35 (10 * t + 1) = zn_I (τ.2.2.1 t)) ∧ ∀ q, q < 8 → M.1 35 (10 * t + 2 + q) = zn_I (τ.2.2.2 t q : Nat)
theorem lA_f {S : List Nat} {M M1 : zw_M} {π : zP} (h : zw_fr S M M1) (hA : lA M π) (hS : ∀ p ∈ [33, 34], p ∉ S) : lA M1 π := by
  have h4 := (h 33 (hS 33 (by decide))).1
  have h5 := (h 34 (hS 34 (by decide))).1
  unfold lA at hA ⊢
  rw [h4, h5]
  exact hA
theorem lB_f {S : List Nat} {M M1 : zw_M} {τ : zQ} {k : Nat} (h : zw_fr S M M1) (hB : lB M τ k) (hS : 35 ∉ S) : lB M1 τ k := by
  have h4 := (h 35 hS).1
  unfold lB at hB ⊢
  rw [h4]
  exact hB
/-- how far it leans where things stand in squares -/
def lE (π : zP) (τ : zQ) (pl : Nat → Nat) : Nat → Int
  | 0 => 0
  | t + 1 => lE π τ pl t + zt_w τ t * zp_e π (pl t)
def lT (π : zP) (τ : zQ) (pl : Nat → Nat) : Nat → Int
  | 0 => 0
  | t + 1 => lT π τ pl t + zt_w τ t * zp_s π (pl t)
theorem lE_rng {M : zw_M} {n : Nat} {π : zP} {τ : zQ} {pl : Nat → Nat} (hp : π.1 ≤ 5 ∧ π.2.1 ≤ 6) (hT : zT M n τ) : ∀ t, t ≤ τ.1 → (∀ u, u < t → pl u < zp_n π) → -(1000 * (t : Int)) ≤ lE π τ pl t ∧ lE π τ pl t ≤ 1000 * (t : Int)
  | 0, _, _ => by simp [lE]
  | t + 1, h, hpl => by
    have ih := lE_rng (pl := pl) hp hT t (by omega) (fun u hu => hpl u (by omega))
    have h1 := zt_w_rng hT (show t < τ.1 by omega)
    have h2 := zp_e_rng hp (hpl t (by omega))
    have h3 := zp_mul_rng (a := zt_w τ t) (B := 198) h2.1 h2.2 (by omega) (by omega)
    rw [lE]
    omega
theorem lT_rng {M : zw_M} {n : Nat} {π : zP} {τ : zQ} {pl : Nat → Nat} (hp : π.1 ≤ 5 ∧ π.2.1 ≤ 6) (hT : zT M n τ) : ∀ t, t ≤ τ.1 → (∀ u, u < t → pl u < zp_n π) → -(1000 * (t : Int)) ≤ lT π τ pl t ∧ lT π τ pl t ≤ 1000 * (t : Int)
  | 0, _, _ => by simp [lT]
  | t + 1, h, hpl => by
    have ih := lT_rng (pl := pl) hp hT t (by omega) (fun u hu => hpl u (by omega))
    have h1 := zt_w_rng hT (show t < τ.1 by omega)
    have h2 := zp_s_rng hp (hpl t (by omega))
    have h3 := zp_mul_rng (a := zt_w τ t) (e := zp_s π (pl t)) (B := 198) (by omega) (by omega) (by omega) (by omega)
    rw [lT]
    omega
theorem zb_or0 (z : Int) : zn_I z ||| zn_I 0 = zn_I z := by
  apply Int32.toBitVec_inj.1
  show (zn_I z).toBitVec ||| 0#32 = _
  simp
set_option maxRecDepth 100000 in
set_option maxHeartbeats 600000 in
theorem mL_cell {l : zw_Lh} {d : Nat} {M : zw_M} (hL : l.2.1 ≤ 260) {k : Nat} (hk : k ≤ 100) : zw_C l d iL_cell [.ref 37, .int (zn_I (k : Int))] M (zw_i (zn_I (lS l k : Nat)) M) := by
  refine zw_of (by decide +kernel) (Nat.le_of_ble_eq_true rfl) ?_
  refine zy_loc (L1 := [.ref 37, .int (zn_I (k : Int))]) rfl ?_
  refine zx_iload_n dL_cell_0 rfl ?_
  refine zx_aload_n dL_cell_1 rfl ?_
  refine zx_slen dL_cell_2 ?_
  refine zy_top (show Int32.ofNat l.2.1 = zn_I (l.2.1 : Int) from zn_nat _) ?_
  have e := (lS_I l k).1
  have endd : ∀ x : Int32, (if k < l.2.1 then l.2.2 k else zn_I (7919 * (k : Int) + 13)) = x → zw_X l d iL_cell (zw_i (zn_I (lS l k : Nat)) M) 20 [.ref 37, .int (zn_I (k : Int))] [.int x] M := fun x hx => by
    refine zx_ldc dL_cell_20 kL_7 ?_
    refine zx_iand dL_cell_22 ?_
    refine zx_iret (st := []) dL_cell_23 rfl rfl ?_
    rw [hx] at e
    exact ⟨congrArg (fun z => some (Value.int z)) e, rfl⟩
  refine zy_icmp_ge (tgt := 12) dL_cell_3 (by decide) (by omega) (fun h => ?_) (fun h => ?_)
  · refine zx_sipush (v := zn_I 7919) dL_cell_12 (by decide) ?_
    refine zx_iload_n dL_cell_15 rfl ?_
    refine zy_imul dL_cell_16 ?_
    refine zx_bipush (v := zn_I 13) dL_cell_17 (by decide) ?_
    refine zy_iadd dL_cell_19 ?_
    exact endd _ (by rw [if_neg (by omega)])
  · refine zx_aload_n dL_cell_6 rfl ?_
    refine zx_iload_n dL_cell_7 rfl ?_
    obtain ⟨e1, e2⟩ := zn_vi (i := (k : Int)) (n := l.2.1) (by omega) (by omega) (by omega)
    refine zx_sld dL_cell_8 e1 ?_
    refine zx_goto (tgt := 20) dL_cell_9 (by decide) ?_
    exact endd _ (by rw [if_pos (by omega), e2, Int.toNat_natCast])
set_option maxRecDepth 100000 in
set_option maxHeartbeats 600000 in
theorem mL_put {l : zw_Lh} {d : Nat} {M : zw_M} {σ : zZ} (hC : zC_ M σ) {c : Nat} (hc : c < 127) (h0 : 0 < c) (h40 : σ.2.2.1.1 < 40) : zw_C l (d + 4) iL_put [.ref 0, .int (zn_I (c : Int))] M (fun v M1 => v = some (.int (zn_I 1)) ∧ zw_fr zcl M M1 ∧ zC_ M1 (σ.1, σ.2.1, zg_put σ.2.2.1 c 1, σ.2.2.2)) := by
  have hz := lg_addA hc h0 h40
  have hr := lg_addR hc h0 h40
  refine zw_of (by decide +kernel) (Nat.le_of_ble_eq_true rfl) ?_
  refine zy_loc (L1 := [.ref 0, .int (zn_I (c : Int))]) rfl ?_
  refine zx_aload_n dL_put_0 rfl ?_
  refine zx_iload_n dL_put_1 rfl ?_
  refine zx_i2l dL_put_2 ?_
  rw [lg_i2l c hc]
  refine zx_callV (y1 := iX10_letters) dL_put_3 lL_8 vX10_letters rc_0 (mX10_letters hC (w := c) (Nat.lt_trans hc (by decide))) rfl rfl (Nat.le_of_ble_eq_true rfl) ?_
  intro v M1 he
  obtain ⟨rfl, hf, hC1⟩ := he
  rw [zk_lettersS, hr] at hC1
  rw [zk_letters, hz]
  refine zy_if_le (tgt := 13) dL_put_6 (by decide) (by omega) (fun h_6 => ?_) (fun h_6 => ?_)
  · exact absurd h_6 (by omega)
  · refine zx_iconst (v := zn_I 1) dL_put_9 rfl ?_
    refine zx_goto (tgt := 14) dL_put_10 (by decide) ?_
    refine zx_iret (st := []) dL_put_14 rfl rfl ?_
    exact ⟨rfl, hf, hC1⟩
set_option maxRecDepth 100000 in
set_option maxHeartbeats 600000 in
theorem mL_weighs {l : zw_Lh} {d : Nat} {M : zw_M} {n k : Nat} {τ : zQ} (hT : zT M n τ) (hB : lB M τ k) (hk : k ≤ τ.1) (hk6 : k ≤ 6) {t : Nat} (ht : t < k) : zw_C l d iL_weighs [.ref 35, .int (zn_I (t : Int))] M (zw_i (zn_I (zt_w τ t)) M) := by
  have hkr := hT.2.2.2.2.2.1 t (by omega)
  have hwr := hT.2.2.2.2.2.2.1 t (by omega)
  refine zw_of (by decide +kernel) (Nat.le_of_ble_eq_true rfl) ?_
  refine zy_loc (L1 := [.ref 35, .int (zn_I (t : Int))]) rfl ?_
  refine zx_aload_n dL_weighs_0 rfl ?_
  refine zx_bipush (v := zn_I 10) dL_weighs_1 (by decide) ?_
  refine zx_iload_n dL_weighs_3 rfl ?_
  refine zy_imul dL_weighs_4 ?_
  refine zy_iald (i := 10 * t) dL_weighs_5 rfl (by decide) (by omega) (by omega) ((hB t ht).1.1) ?_
  refine zx_iconst (v := zn_I 4) dL_weighs_6 rfl ?_
  refine zy_icmp_ne (tgt := 30) dL_weighs_7 (by decide) (by omega) (fun h_7 => ?_) (fun h_7 => ?_)
  · refine zx_aload_n dL_weighs_30 rfl ?_
    refine zx_bipush (v := zn_I 10) dL_weighs_31 (by decide) ?_
    refine zx_iload_n dL_weighs_33 rfl ?_
    refine zy_imul dL_weighs_34 ?_
    refine zx_iconst (v := zn_I 1) dL_weighs_35 rfl ?_
    refine zy_iadd dL_weighs_36 ?_
    refine zy_iald (i := 10 * t + 1) dL_weighs_37 rfl (by decide) (by omega) (by omega) ((hB t ht).1.2) ?_
    refine zx_iret (st := []) dL_weighs_38 rfl rfl ?_
    first | exact zk_I (by rw [zt_w, if_pos (by omega)]; omega) | exact zk_I (by rw [zt_w, if_neg (by omega)])
  · refine zx_aload_n dL_weighs_10 rfl ?_
    refine zx_bipush (v := zn_I 10) dL_weighs_11 (by decide) ?_
    refine zx_iload_n dL_weighs_13 rfl ?_
    refine zy_imul dL_weighs_14 ?_
    refine zx_iconst (v := zn_I 1) dL_weighs_15 rfl ?_
    refine zy_iadd dL_weighs_16 ?_
    refine zy_iald (i := 10 * t + 1) dL_weighs_17 rfl (by decide) (by omega) (by omega) ((hB t ht).1.2) ?_
    refine zx_aload_n dL_weighs_18 rfl ?_
    refine zx_bipush (v := zn_I 10) dL_weighs_19 (by decide) ?_
    refine zx_iload_n dL_weighs_21 rfl ?_
    refine zy_imul dL_weighs_22 ?_
    refine zx_iconst (v := zn_I 1) dL_weighs_23 rfl ?_
    refine zy_iadd dL_weighs_24 ?_
    refine zy_iald (i := 10 * t + 1) dL_weighs_25 rfl (by decide) (by omega) (by omega) ((hB t ht).1.2) ?_
    refine zy_iadd dL_weighs_26 ?_
    refine zx_goto (tgt := 38) dL_weighs_27 (by decide) ?_
    refine zx_iret (st := []) dL_weighs_38 rfl rfl ?_
    first | exact zk_I (by rw [zt_w, if_pos (by omega)]; omega) | exact zk_I (by rw [zt_w, if_neg (by omega)])
set_option maxRecDepth 100000 in
set_option maxHeartbeats 600000 in
theorem mL_east {l : zw_Lh} {d : Nat} {M : zw_M} {π : zP} (hp : π.1 ≤ 5 ∧ π.2.1 ≤ 6) (hA : lA M π) {c : Nat} (hc : c < zp_n π) : zw_C l d iL_east [.ref 33, .int (zn_I (c : Int))] M (zw_i (zn_I (zp_e π c)) M) := by
  have h30 := zp_30 hp
  obtain ⟨hw0, hr0, hm, hq⟩ := zp_w0 hc
  have hs1 := hA.2.1
  refine zw_of (by decide +kernel) (Nat.le_of_ble_eq_true rfl) ?_
  refine zy_loc (L1 := [.ref 33, .int (zn_I (c : Int))]) rfl ?_
  refine zx_iload_n dL_east_0 rfl ?_
  refine zx_aload_n dL_east_1 rfl ?_
  refine zx_iconst (v := zn_I 1) dL_east_2 rfl ?_
  refine zy_iald (i := 1) dL_east_3 rfl (by decide) (by omega) (by omega) (hs1) ?_
  refine zy_irem (a := c) (b := π.2.1) dL_east_4 (by omega) ?_
  refine zx_iload_n dL_east_5 rfl ?_
  refine zx_aload_n dL_east_6 rfl ?_
  refine zx_iconst (v := zn_I 1) dL_east_7 rfl ?_
  refine zy_iald (i := 1) dL_east_8 rfl (by decide) (by omega) (by omega) (hs1) ?_
  refine zy_irem (a := c) (b := π.2.1) dL_east_9 (by omega) ?_
  refine zy_iadd dL_east_10 ?_
  refine zx_iconst (v := zn_I 1) dL_east_11 rfl ?_
  refine zy_iadd dL_east_12 ?_
  refine zx_aload_n dL_east_13 rfl ?_
  refine zx_iconst (v := zn_I 1) dL_east_14 rfl ?_
  refine zy_iald (i := 1) dL_east_15 rfl (by decide) (by omega) (by omega) (hs1) ?_
  refine zy_isub dL_east_16 ?_
  refine zx_iret (st := []) dL_east_17 rfl rfl ?_
  exact zk_I (by unfold zp_e; omega)
set_option maxRecDepth 100000 in
set_option maxHeartbeats 600000 in
theorem mL_south {l : zw_Lh} {d : Nat} {M : zw_M} {π : zP} (hp : π.1 ≤ 5 ∧ π.2.1 ≤ 6) (hA : lA M π) {c : Nat} (hc : c < zp_n π) : zw_C l d iL_south [.ref 33, .int (zn_I (c : Int))] M (zw_i (zn_I (zp_s π c)) M) := by
  have h30 := zp_30 hp
  obtain ⟨hw0, hr0, hm, hq⟩ := zp_w0 hc
  have hs1 := hA.2.1
  have hs0 := hA.1
  refine zw_of (by decide +kernel) (Nat.le_of_ble_eq_true rfl) ?_
  refine zy_loc (L1 := [.ref 33, .int (zn_I (c : Int))]) rfl ?_
  refine zx_iload_n dL_south_0 rfl ?_
  refine zx_aload_n dL_south_1 rfl ?_
  refine zx_iconst (v := zn_I 1) dL_south_2 rfl ?_
  refine zy_iald (i := 1) dL_south_3 rfl (by decide) (by omega) (by omega) (hs1) ?_
  refine zy_idiv (a := c) (b := π.2.1) dL_south_4 (by omega) ?_
  refine zx_iload_n dL_south_5 rfl ?_
  refine zx_aload_n dL_south_6 rfl ?_
  refine zx_iconst (v := zn_I 1) dL_south_7 rfl ?_
  refine zy_iald (i := 1) dL_south_8 rfl (by decide) (by omega) (by omega) (hs1) ?_
  refine zy_idiv (a := c) (b := π.2.1) dL_south_9 (by omega) ?_
  refine zy_iadd dL_south_10 ?_
  refine zx_iconst (v := zn_I 1) dL_south_11 rfl ?_
  refine zy_iadd dL_south_12 ?_
  refine zx_aload_n dL_south_13 rfl ?_
  refine zx_iconst (v := zn_I 0) dL_south_14 rfl ?_
  refine zy_iald (i := 0) dL_south_15 rfl (by decide) (by omega) (by omega) (hs0) ?_
  refine zy_isub dL_south_16 ?_
  refine zx_iret (st := []) dL_south_17 rfl rfl ?_
  exact zk_I (by unfold zp_s; omega)
set_option maxRecDepth 100000 in
set_option maxHeartbeats 600000 in
theorem mL_wet {l : zw_Lh} {d : Nat} {M : zw_M} {π : zP} (hp : π.1 ≤ 5 ∧ π.2.1 ≤ 6) (hA : lA M π) (hH : ∀ s, s < zp_n π → 0 ≤ π.2.2 s ∧ π.2.2 s ≤ 9) {a b : Int} (ha : -1000000 ≤ a ∧ a ≤ 1000000) (hb : -1000000 ≤ b ∧ b ≤ 1000000) : zw_C l (d + 1) iL_wet [.ref 33, .ref 34, .int (zn_I a), .int (zn_I b)] M (zw_i (zn_I (zp_bits π a b (zp_n π) : Nat)) M) := by
  have h30 := zp_30 hp
  have hs0 := hA.1
  have hs1 := hA.2.1
  have hhi := hA.2.2
  refine zw_of (by decide +kernel) (Nat.le_of_ble_eq_true rfl) ?_
  refine zy_loc (L1 := [.ref 33, .ref 34, .int (zn_I a), .int (zn_I b), .retAddr 0, .retAddr 0, .retAddr 0]) rfl ?_
  have loop : ∀ s : Nat, s ≤ zp_n π → ∀ v6 : Value, zw_X l (d + 1) iL_wet (zw_i (zn_I (zp_bits π a b (zp_n π) : Nat)) M) 6 [.ref 33, .ref 34, .int (zn_I a), .int (zn_I b), .int (zn_I (zp_bits π a b s : Nat)), .int (zn_I (s : Nat)), v6] [] M := by
    refine zw_loop (zp_n π) (P := fun s => ∀ v6 : Value, zw_X l (d + 1) iL_wet (zw_i (zn_I (zp_bits π a b (zp_n π) : Nat)) M) 6 [.ref 33, .ref 34, .int (zn_I a), .int (zn_I b), .int (zn_I (zp_bits π a b s : Nat)), .int (zn_I (s : Nat)), v6] [] M) (fun s hs ih v6 => ?_)
    refine zx_iload dL_wet_6 rfl ?_
    refine zx_aload_n dL_wet_8 rfl ?_
    refine zx_iconst (v := zn_I 0) dL_wet_9 rfl ?_
    refine zy_iald (i := 0) dL_wet_10 rfl (by decide) (by omega) (by omega) (hs0) ?_
    refine zx_aload_n dL_wet_11 rfl ?_
    refine zx_iconst (v := zn_I 1) dL_wet_12 rfl ?_
    refine zy_iald (i := 1) dL_wet_13 rfl (by decide) (by omega) (by omega) (hs1) ?_
    refine zy_imul dL_wet_14 ?_
    refine zy_top (show _ = zn_I (zp_n π : Nat) from congrArg zn_I (Int.natCast_mul π.1 π.2.1).symm) ?_
    refine zy_icmp_ge (tgt := 75) dL_wet_15 (by decide) (by omega) (fun h_15 => ?_) (fun h_15 => ?_)
    · refine zx_iload dL_wet_75 rfl ?_
      refine zx_iret (st := []) dL_wet_77 rfl rfl ?_
      exact zk_I (by rw [show s = zp_n π by omega])
    · have hlt : s < zp_n π := by omega
      have h7 := zp_dip_rng hp hlt ha hb
      have h8 := hH s hlt
      unfold zp_dip at h7
      refine zx_iload_n dL_wet_18 rfl ?_
      refine zx_aload_n dL_wet_19 rfl ?_
      refine zx_iload dL_wet_20 rfl ?_
      refine zx_callS (y1 := iL_east) dL_wet_22 lL_42 sL_east (mL_east hp hA (c := s) hlt) rfl rfl (Nat.le_of_ble_eq_true rfl) ?_
      refine zk_i ?_
      refine zy_imul dL_wet_25 ?_
      refine zx_iload_n dL_wet_26 rfl ?_
      refine zx_aload_n dL_wet_27 rfl ?_
      refine zx_iload dL_wet_28 rfl ?_
      refine zx_callS (y1 := iL_south) dL_wet_30 lL_45 sL_south (mL_south hp hA (c := s) hlt) rfl rfl (Nat.le_of_ble_eq_true rfl) ?_
      refine zk_i ?_
      refine zy_imul dL_wet_33 ?_
      refine zy_iadd dL_wet_34 ?_
      refine zx_istore dL_wet_35 rfl (Nat.le_of_ble_eq_true rfl) ?_
      refine zx_iload dL_wet_37 rfl ?_
      refine zx_aload_n dL_wet_39 rfl ?_
      refine zx_iload dL_wet_40 rfl ?_
      refine zy_iald dL_wet_42 rfl (by decide) rfl (by omega) ((hhi s (by omega))) ?_
      refine zy_if_le (tgt := 65) dL_wet_43 (by decide) (by omega) (fun h_43 => ?_) (fun h_43 => ?_)
      · refine zx_iconst (v := zn_I 0) dL_wet_65 rfl ?_
        refine zx_ior dL_wet_66 ?_
        refine zy_top (zb_or0 _) ?_
        rw [show zp_bits π a b s = zp_bits π a b (s + 1) by rw [zp_bits, if_neg (fun q => by have q1 := q.1; have q2 := q.2; unfold zp_dip at q2; omega), Nat.add_zero]]
        refine zx_istore dL_wet_67 rfl (Nat.le_of_ble_eq_true rfl) ?_
        refine zy_iinc dL_wet_69 rfl rfl ?_
        refine zx_goto (tgt := 6) dL_wet_72 (by decide) ?_
        exact ih (by omega) _
      · refine zx_iload dL_wet_46 rfl ?_
        refine zx_bipush (v := zn_I 50) dL_wet_48 (by decide) ?_
        refine zx_aload_n dL_wet_50 rfl ?_
        refine zx_iload dL_wet_51 rfl ?_
        refine zy_iald dL_wet_53 rfl (by decide) rfl (by omega) ((hhi s (by omega))) ?_
        refine zy_imul dL_wet_54 ?_
        refine zy_icmp_lt (tgt := 65) dL_wet_55 (by decide) (by omega) (fun h_55 => ?_) (fun h_55 => ?_)
        · refine zx_iconst (v := zn_I 0) dL_wet_65 rfl ?_
          refine zx_ior dL_wet_66 ?_
          refine zy_top (zb_or0 _) ?_
          rw [show zp_bits π a b s = zp_bits π a b (s + 1) by rw [zp_bits, if_neg (fun q => by have q1 := q.1; have q2 := q.2; unfold zp_dip at q2; omega), Nat.add_zero]]
          refine zx_istore dL_wet_67 rfl (Nat.le_of_ble_eq_true rfl) ?_
          refine zy_iinc dL_wet_69 rfl rfl ?_
          refine zx_goto (tgt := 6) dL_wet_72 (by decide) ?_
          exact ih (by omega) _
        · refine zx_iconst (v := zn_I 1) dL_wet_58 rfl ?_
          refine zx_iload dL_wet_59 rfl ?_
          refine zx_ishl dL_wet_61 ?_
          refine zx_goto (tgt := 66) dL_wet_62 (by decide) ?_
          refine zx_ior dL_wet_66 ?_
          refine zy_top (zb_or (by omega) (zp_bits_lt π a b s)) ?_
          rw [show zp_bits π a b s + 2 ^ s = zp_bits π a b (s + 1) by rw [zp_bits, if_pos ⟨by omega, by unfold zp_dip; omega⟩]]
          refine zx_istore dL_wet_67 rfl (Nat.le_of_ble_eq_true rfl) ?_
          refine zy_iinc dL_wet_69 rfl rfl ?_
          refine zx_goto (tgt := 6) dL_wet_72 (by decide) ?_
          exact ih (by omega) _
  refine zx_iconst (v := zn_I 0) dL_wet_0 rfl ?_
  refine zx_istore dL_wet_1 rfl (Nat.le_of_ble_eq_true rfl) ?_
  refine zx_iconst (v := zn_I 0) dL_wet_3 rfl ?_
  refine zx_istore dL_wet_4 rfl (Nat.le_of_ble_eq_true rfl) ?_
  exact loop 0 (by omega) _
set_option maxRecDepth 100000 in
set_option maxHeartbeats 600000 in
theorem mL_wetAt {l : zw_Lh} {d : Nat} {M : zw_M} {π : zP} (hp : π.1 ≤ 5 ∧ π.2.1 ≤ 6) (hA : lA M π) (hH : ∀ s, s < zp_n π → 0 ≤ π.2.2 s ∧ π.2.2 s ≤ 9) {n k : Nat} {τ : zQ} (hT : zT M n τ) (hB : lB M τ k) (hk : k ≤ τ.1) (hk6 : k ≤ 6) {pl : Nat → Nat} (hpl : ∀ t, t < k → M.1 36 t = zn_I (pl t : Nat) ∧ pl t < zp_n π) : zw_C l (d + 2) iL_wetAt [.ref 33, .ref 34, .ref 35, .int (zn_I (k : Int)), .ref 36] M (zw_i (zn_I (zp_bits π (lE π τ pl k) (lT π τ pl k) (zp_n π) : Nat)) M) := by
  have h30 := zp_30 hp
  refine zw_of (by decide +kernel) (Nat.le_of_ble_eq_true rfl) ?_
  refine zy_loc (L1 := [.ref 33, .ref 34, .ref 35, .int (zn_I (k : Int)), .ref 36, .retAddr 0, .retAddr 0, .retAddr 0]) rfl ?_
  have loop : ∀ s : Nat, s ≤ k → zw_X l (d + 2) iL_wetAt (zw_i (zn_I (zp_bits π (lE π τ pl k) (lT π τ pl k) (zp_n π) : Nat)) M) 9 [.ref 33, .ref 34, .ref 35, .int (zn_I (k : Int)), .ref 36, .int (zn_I (lE π τ pl s)), .int (zn_I (lT π τ pl s)), .int (zn_I (s : Nat))] [] M := by
    refine zw_loop k (P := fun s => zw_X l (d + 2) iL_wetAt (zw_i (zn_I (zp_bits π (lE π τ pl k) (lT π τ pl k) (zp_n π) : Nat)) M) 9 [.ref 33, .ref 34, .ref 35, .int (zn_I (k : Int)), .ref 36, .int (zn_I (lE π τ pl s)), .int (zn_I (lT π τ pl s)), .int (zn_I (s : Nat))] [] M) (fun s hs ih => ?_)
    refine zx_iload dL_wetAt_9 rfl ?_
    refine zx_iload_n dL_wetAt_11 rfl ?_
    refine zy_icmp_ge (tgt := 63) dL_wetAt_12 (by decide) (by omega) (fun h_12 => ?_) (fun h_12 => ?_)
    · have es : s = k := by omega
      subst es
      have r1 := lE_rng (pl := pl) hp hT s (by omega) (fun u hu => (hpl u hu).2)
      have r2 := lT_rng (pl := pl) hp hT s (by omega) (fun u hu => (hpl u hu).2)
      refine zx_aload_n dL_wetAt_63 rfl ?_
      refine zx_aload_n dL_wetAt_64 rfl ?_
      refine zx_iload dL_wetAt_65 rfl ?_
      refine zx_iload dL_wetAt_67 rfl ?_
      refine zx_callS (y1 := iL_wet) dL_wetAt_69 lL_51 sL_wet (mL_wet hp hA hH (by omega) (by omega)) rfl rfl (Nat.le_of_ble_eq_true rfl) ?_
      refine zk_i ?_
      refine zx_iret (st := []) dL_wetAt_72 rfl rfl ?_
      exact ⟨rfl, rfl⟩
    · have hps := (hpl s (by omega)).2
      refine zx_iload dL_wetAt_15 rfl ?_
      refine zx_aload_n dL_wetAt_17 rfl ?_
      refine zx_iload dL_wetAt_18 rfl ?_
      refine zx_callS (y1 := iL_weighs) dL_wetAt_20 lL_48 sL_weighs (mL_weighs hT hB hk hk6 (t := s) (by omega)) rfl rfl (Nat.le_of_ble_eq_true rfl) ?_
      refine zk_i ?_
      refine zx_aload_n dL_wetAt_23 rfl ?_
      refine zx_aload dL_wetAt_24 rfl ?_
      refine zx_iload dL_wetAt_26 rfl ?_
      refine zy_iald dL_wetAt_28 rfl (by decide) rfl (by omega) ((hpl s (by omega)).1) ?_
      refine zx_callS (y1 := iL_east) dL_wetAt_29 lL_42 sL_east (mL_east hp hA (c := pl s) hps) rfl rfl (Nat.le_of_ble_eq_true rfl) ?_
      refine zk_i ?_
      refine zy_imul dL_wetAt_32 ?_
      refine zy_iadd dL_wetAt_33 ?_
      refine zx_istore dL_wetAt_34 rfl (Nat.le_of_ble_eq_true rfl) ?_
      refine zx_iload dL_wetAt_36 rfl ?_
      refine zx_aload_n dL_wetAt_38 rfl ?_
      refine zx_iload dL_wetAt_39 rfl ?_
      refine zx_callS (y1 := iL_weighs) dL_wetAt_41 lL_48 sL_weighs (mL_weighs hT hB hk hk6 (t := s) (by omega)) rfl rfl (Nat.le_of_ble_eq_true rfl) ?_
      refine zk_i ?_
      refine zx_aload_n dL_wetAt_44 rfl ?_
      refine zx_aload dL_wetAt_45 rfl ?_
      refine zx_iload dL_wetAt_47 rfl ?_
      refine zy_iald dL_wetAt_49 rfl (by decide) rfl (by omega) ((hpl s (by omega)).1) ?_
      refine zx_callS (y1 := iL_south) dL_wetAt_50 lL_45 sL_south (mL_south hp hA (c := pl s) hps) rfl rfl (Nat.le_of_ble_eq_true rfl) ?_
      refine zk_i ?_
      refine zy_imul dL_wetAt_53 ?_
      refine zy_iadd dL_wetAt_54 ?_
      refine zx_istore dL_wetAt_55 rfl (Nat.le_of_ble_eq_true rfl) ?_
      refine zy_iinc dL_wetAt_57 rfl rfl ?_
      refine zx_goto (tgt := 9) dL_wetAt_60 (by decide) ?_
      exact ih (by omega)
  refine zx_iconst (v := zn_I 0) dL_wetAt_0 rfl ?_
  refine zx_istore dL_wetAt_1 rfl (Nat.le_of_ble_eq_true rfl) ?_
  refine zx_iconst (v := zn_I 0) dL_wetAt_3 rfl ?_
  refine zx_istore dL_wetAt_4 rfl (Nat.le_of_ble_eq_true rfl) ?_
  refine zx_iconst (v := zn_I 0) dL_wetAt_6 rfl ?_
  refine zx_istore dL_wetAt_7 rfl (Nat.le_of_ble_eq_true rfl) ?_
  exact loop 0 (by omega)
end
section
/-! THE LAW: a plan is written and read -/
/-- the plan's writing at square c -/
def lV (M M1 : zw_M) (σ : zZ) (ρ : zR) (w r c : Nat) (σA : zA) : Prop := zw_fr (33 :: 34 :: zcl) M M1 ∧ zC_ M1 (σ.1, σ.2.1, ρ, σ.2.2.2) ∧ (M1.1 33 0 = zn_I r ∧ M1.1 33 1 = zn_I w) ∧ lW ρ w r c σA ∧ ∀ s, s < c → M1.1 34 s = zn_I (zr_H ρ ρ.1 s)
theorem lV_row {M M1 M2 : zw_M} {σ : zZ} {ρ : zR} {w r c : Nat} {σA : zA} {h : Nat} (hw : 2 ≤ w ∧ w ≤ 6) (hr : 2 ≤ r ∧ r ≤ 5) (hV : lV M M1 σ ρ w r c σA) (hh : M1.1 34 c = zn_I (h : Int)) (h0 : 0 < c) (hc : c < r * w) (hm : c % w = 0) (hp : 0 < σA.2.2) (hf : zw_fr zcl M1 M2) (hC : zC_ M2 (σ.1, σ.2.1, zg_put ρ 47 1, σ.2.2.2)) : ∃ σB, lV M M2 σ (zg_put ρ 47 1) w r c σB ∧ σB.2.2 < w ∧ M2.1 34 c = zn_I (h : Int) := by
  obtain ⟨hf0, hC0, hs, hW, hH⟩ := hV
  obtain ⟨σB, e1, e2, e3⟩ := lW_row hw hr hW h0 hc hm hp
  have e33 := (hf 33 (by decide)).1
  have e34 := (hf 34 (by decide)).1
  exact ⟨σB, ⟨zf_tr hf0 (zf_mono hf (by decide)), hC, by rw [e33]; exact hs, e1, fun s hs2 => by rw [e34, e3]; exact hH s hs2⟩, e2, by rw [e34]; exact hh⟩
theorem lV_sq {M M1 M2 : zw_M} {σ : zZ} {ρ : zR} {w r c x h : Nat} {σA : zA} (hw : 2 ≤ w ∧ w ≤ 6) (hV : lV M M1 σ ρ w r c σA) (hh : M1.1 34 c = zn_I (h : Int)) (hf1 : σA.2.2 < w) (hx : x = 46 ∨ (49 ≤ x ∧ x ≤ 57)) (hxh : zr_g x = (h : Int)) (hf : zw_fr zcl M1 M2) (hC : zC_ M2 (σ.1, σ.2.1, zg_put ρ x 1, σ.2.2.2)) : ∃ σB, lV M M2 σ (zg_put ρ x 1) w r (c + 1) σB ∧ 0 < σB.2.2 := by
  obtain ⟨hf0, hC0, hs, hW, hH⟩ := hV
  obtain ⟨σB, e1, e2, e3⟩ := lW_sq hw hW hf1 hx
  have e33 := (hf 33 (by decide)).1
  have e34 := (hf 34 (by decide)).1
  refine ⟨σB, ⟨zf_tr hf0 (zf_mono hf (by decide)), hC, by rw [e33]; exact hs, e1, fun s hs2 => ?_⟩, e2⟩
  rw [e34, e3]
  dsimp only
  by_cases q : s = c
  · rw [if_pos q, q, hh, hxh]
  · rw [if_neg q]
    exact hH s (by omega)
set_option maxRecDepth 100000 in
set_option maxHeartbeats 600000 in
theorem mL_plan {l : zw_Lh} {d : Nat} {M : zw_M} {σ : zZ} (hC : zC_ M σ) (hρ : σ.2.2.1.1 = 0) (hL : l.2.1 ≤ 260) {r w : Nat} (hr0 : r = 2 + lS l 0 % 4) (hw0 : w = 2 + lS l 0 / 8 % 5) : zw_C l (d + 6) iL_plan [.ref 0, .ref 37, .int (zn_I 0), .int (zn_I 5), .ref 33, .ref 34] M (fun v M1 => v = some (.int (zn_I 1)) ∧ zw_fr (33 :: 34 :: zcl) M M1 ∧ ∃ σ1 : zZ, zC_ M1 σ1 ∧ lA M1 σ1.1 ∧ σ1.1.1 = r ∧ σ1.1.2.1 = w ∧ σ1.2.1.1 = 0) := by
  refine zw_of (by decide +kernel) (Nat.le_of_ble_eq_true rfl) ?_
  refine zy_loc (L1 := [.ref 0, .ref 37, .int (zn_I 0), .int (zn_I 5), .ref 33, .ref 34, .retAddr 0, .retAddr 0, .retAddr 0]) rfl ?_
  have hw : 2 ≤ w ∧ w ≤ 6 := by omega
  have hr : 2 ≤ r ∧ r ≤ 5 := by omega
  have hn30 : r * w ≤ 30 := Nat.mul_le_mul hr.2 hw.2
  have loop : ∀ c : Nat, c ≤ r * w → ∀ (ρ : zR) (σA : zA) (M1 : zw_M) (v8 : Value), lV M M1 σ ρ w r c σA → (0 < c → 0 < σA.2.2) → zw_X l (d + 6) iL_plan (fun v M1 => v = some (.int (zn_I 1)) ∧ zw_fr (33 :: 34 :: zcl) M M1 ∧ ∃ σ1 : zZ, zC_ M1 σ1 ∧ lA M1 σ1.1 ∧ σ1.1.1 = r ∧ σ1.1.2.1 = w ∧ σ1.2.1.1 = 0) 37 [.ref 0, .ref 37, .int (zn_I 0), .int (zn_I 5), .ref 33, .ref 34, .int (zn_I 1), .int (zn_I (c : Int)), v8] [] M1 := by
    refine zw_loop (r * w) (P := fun c => ∀ (ρ : zR) (σA : zA) (M1 : zw_M) (v8 : Value), lV M M1 σ ρ w r c σA → (0 < c → 0 < σA.2.2) → zw_X l (d + 6) iL_plan (fun v M1 => v = some (.int (zn_I 1)) ∧ zw_fr (33 :: 34 :: zcl) M M1 ∧ ∃ σ1 : zZ, zC_ M1 σ1 ∧ lA M1 σ1.1 ∧ σ1.1.1 = r ∧ σ1.1.2.1 = w ∧ σ1.2.1.1 = 0) 37 [.ref 0, .ref 37, .int (zn_I 0), .int (zn_I 5), .ref 33, .ref 34, .int (zn_I 1), .int (zn_I (c : Int)), v8] [] M1) (fun c hc ih ρ σA M1 v8 hV hfp => ?_)
    have sq (hcn : c < r * w) : ∀ (ρ : zR) (σA : zA) (M1 : zw_M) (v8 : Value) (h : Nat), lV M M1 σ ρ w r c σA → M1.1 34 c = zn_I (h : Int) → σA.2.2 < w → h ≤ 9 → zw_X l (d + 6) iL_plan (fun v M1 => v = some (.int (zn_I 1)) ∧ zw_fr (33 :: 34 :: zcl) M M1 ∧ ∃ σ1 : zZ, zC_ M1 σ1 ∧ lA M1 σ1.1 ∧ σ1.1.1 = r ∧ σ1.1.2.1 = w ∧ σ1.2.1.1 = 0) 147 [.ref 0, .ref 37, .int (zn_I 0), .int (zn_I 5), .ref 33, .ref 34, .int (zn_I 1), .int (zn_I (c : Int)), v8] [] M1 := by
      intro ρ σA M1 v8 h hV hh hf1 h9
      obtain ⟨hf0, hC1, ⟨hs0, hs1⟩, hW, hH⟩ := id hV
      have h40 := lW_40 hr.2 hW (by omega)
      refine zx_aload_n dL_plan_147 rfl ?_
      refine zx_aload dL_plan_148 rfl ?_
      refine zx_iload dL_plan_150 rfl ?_
      refine zy_iald (i := c) dL_plan_152 rfl (by decide) (by omega) (by omega) (hh) ?_
      refine zy_if_ne (tgt := 161) dL_plan_153 (by decide) (by omega) (fun h_153 => ?_) (fun h_153 => ?_)
      · refine zx_bipush (v := zn_I 48) dL_plan_161 (by decide) ?_
        refine zx_aload dL_plan_163 rfl ?_
        refine zx_iload dL_plan_165 rfl ?_
        refine zy_iald (i := c) dL_plan_167 rfl (by decide) (by omega) (by omega) (hh) ?_
        refine zy_iadd dL_plan_168 ?_
        refine zy_top (show _ = zn_I ((48 + h : Nat) : Int) from congrArg zn_I (by omega)) ?_
        refine zx_callS (y1 := iL_put) dL_plan_169 lL_20 sL_put (mL_put hC1 (c := 48 + h) (by omega) (by omega) h40) rfl rfl (Nat.le_of_ble_eq_true rfl) ?_
        intro v M2 he
        obtain ⟨rfl, hf2, hC2⟩ := he
        obtain ⟨σB, hV2, hp2⟩ := lV_sq (x := 48 + h) hw hV hh hf1 (Or.inr ⟨by omega, by omega⟩) (by rw [zr_g, if_neg (by omega)]; omega) hf2 hC2
        refine zy_if_eq (tgt := 179) dL_plan_172 (by decide) (by omega) (fun h_172 => ?_) (fun h_172 => ?_)
        · exact absurd h_172 (by omega)
        · refine zx_iconst (v := zn_I 1) dL_plan_175 rfl ?_
          refine zx_goto (tgt := 180) dL_plan_176 (by decide) ?_
          refine zx_istore dL_plan_180 rfl (Nat.le_of_ble_eq_true rfl) ?_
          refine zy_iinc dL_plan_182 rfl rfl ?_
          refine zx_goto (tgt := 37) dL_plan_185 (by decide) ?_
          exact ih hcn _ _ _ _ hV2 (fun _ => hp2)
      · refine zx_bipush (v := zn_I 46) dL_plan_156 (by decide) ?_
        refine zx_goto (tgt := 169) dL_plan_158 (by decide) ?_
        refine zx_callS (y1 := iL_put) dL_plan_169 lL_20 sL_put (mL_put hC1 (c := 46) (by omega) (by omega) h40) rfl rfl (Nat.le_of_ble_eq_true rfl) ?_
        intro v M2 he
        obtain ⟨rfl, hf2, hC2⟩ := he
        obtain ⟨σB, hV2, hp2⟩ := lV_sq (x := 46) hw hV hh hf1 (Or.inl rfl) (by rw [zr_g, if_pos rfl]; omega) hf2 hC2
        refine zy_if_eq (tgt := 179) dL_plan_172 (by decide) (by omega) (fun h_172 => ?_) (fun h_172 => ?_)
        · exact absurd h_172 (by omega)
        · refine zx_iconst (v := zn_I 1) dL_plan_175 rfl ?_
          refine zx_goto (tgt := 180) dL_plan_176 (by decide) ?_
          refine zx_istore dL_plan_180 rfl (Nat.le_of_ble_eq_true rfl) ?_
          refine zy_iinc dL_plan_182 rfl rfl ?_
          refine zx_goto (tgt := 37) dL_plan_185 (by decide) ?_
          exact ih hcn _ _ _ _ hV2 (fun _ => hp2)
    have store (hcn : c < r * w) : ∀ (h : Nat) (v8 : Value), h ≤ 9 → zw_X l (d + 6) iL_plan (fun v M1 => v = some (.int (zn_I 1)) ∧ zw_fr (33 :: 34 :: zcl) M M1 ∧ ∃ σ1 : zZ, zC_ M1 σ1 ∧ lA M1 σ1.1 ∧ σ1.1.1 = r ∧ σ1.1.2.1 = w ∧ σ1.2.1.1 = 0) 117 [.ref 0, .ref 37, .int (zn_I 0), .int (zn_I 5), .ref 33, .ref 34, .int (zn_I 1), .int (zn_I (c : Int)), v8] [.int (zn_I (h : Int)), .int (zn_I (c : Int)), .ref 34] M1 := by
      intro h v8 h9
      obtain ⟨hf0, hC1, ⟨hs0, hs1⟩, hW, hH⟩ := id hV
      have h40 := lW_40 hr.2 hW (by omega)
      refine zy_iast (i := c) dL_plan_117 rfl (by decide) (by omega) (by omega) ?_
      have hV2 : lV M (zw_s M1 34 c (zn_I (h : Int))) σ ρ w r c σA := ⟨zf_s hf0 (by decide), zC_f (S := [34]) (zf_s zf_rf (by decide)) hC1 (by decide), ⟨by simp [zw_s, hs0], by simp [zw_s, hs1]⟩, hW, fun s hs2 => by simp [zw_s, show s ≠ c by omega, hH s hs2]⟩
      have hh2 : (zw_s M1 34 c (zn_I (h : Int))).1 34 c = zn_I (h : Int) := by simp [zw_s]
      refine zx_iload dL_plan_118 rfl ?_
      refine zy_if_eq (tgt := 179) dL_plan_120 (by decide) (by omega) (fun h_120 => ?_) (fun h_120 => ?_)
      · exact absurd h_120 (by omega)
      · refine zx_iload dL_plan_123 rfl ?_
        refine zy_if_eq (tgt := 147) dL_plan_125 (by decide) (by omega) (fun h_125 => ?_) (fun h_125 => ?_)
        · exact sq hcn _ _ _ _ _ hV2 hh2 (lJ_in hW.2.1 hw.1 (Or.inl (by omega))) h9
        · refine zx_iload dL_plan_128 rfl ?_
          refine zx_aload dL_plan_130 rfl ?_
          refine zx_iconst (v := zn_I 1) dL_plan_132 rfl ?_
          refine zy_iald (i := 1) dL_plan_133 rfl (by decide) (by omega) (by omega) ((show _ = zn_I (w : Int) from by simp [zw_s, hs1])) ?_
          refine zy_irem (a := c) (b := w) dL_plan_134 (by omega) ?_
          refine zy_if_gt (tgt := 147) dL_plan_135 (by decide) (by have := Nat.mod_lt c (show 0 < w by omega); omega) (fun h_135 => ?_) (fun h_135 => ?_)
          · exact sq hcn _ _ _ _ _ hV2 hh2 (lJ_in hW.2.1 hw.1 (Or.inr (by omega))) h9
          · refine zx_aload_n dL_plan_138 rfl ?_
            refine zx_bipush (v := zn_I 47) dL_plan_139 (by decide) ?_
            refine zx_callS (y1 := iL_put) dL_plan_141 lL_20 sL_put (mL_put hV2.2.1 (c := 47) (by decide) (by decide) h40) rfl rfl (Nat.le_of_ble_eq_true rfl) ?_
            intro v M2 he
            obtain ⟨rfl, hf2, hC2⟩ := he
            obtain ⟨σB, hV3, hf3, hh3⟩ := lV_row hw hr hV2 hh2 (by omega) hcn (by omega) (hfp (by omega)) hf2 hC2
            refine zy_if_eq (tgt := 179) dL_plan_144 (by decide) (by omega) (fun h_144 => ?_) (fun h_144 => ?_)
            · exact absurd h_144 (by omega)
            · exact sq hcn _ _ _ _ _ hV3 hh3 hf3 h9
    have fin_ (ec : r * w = c) : zw_X l (d + 6) iL_plan (fun v M1 => v = some (.int (zn_I 1)) ∧ zw_fr (33 :: 34 :: zcl) M M1 ∧ ∃ σ1 : zZ, zC_ M1 σ1 ∧ lA M1 σ1.1 ∧ σ1.1.1 = r ∧ σ1.1.2.1 = w ∧ σ1.2.1.1 = 0) 188 [.ref 0, .ref 37, .int (zn_I 0), .int (zn_I 5), .ref 33, .ref 34, .int (zn_I 1), .int (zn_I (c : Int)), v8] [] M1 := by
      subst ec
      obtain ⟨hf0, hC1, ⟨hs0, hs1⟩, hW, hH⟩ := id hV
      have hp2 := hfp (Nat.mul_pos (by omega) (by omega))
      obtain ⟨g1, g2, g3⟩ := lJ_end hw.1 hr.1 hW.2.1 hp2
      have hwh : zq_whole ρ := by
        show (zq_go ρ ρ.1).1 = ρ.1 ∧ 2 ≤ (zq_go ρ ρ.1).2.1 ∧ (zq_go ρ ρ.1).2.2.2 = (zq_go ρ ρ.1).2.2.1
        rw [hW.1.1]
        exact ⟨rfl, by dsimp only; omega, by dsimp only; omega⟩
      have hPr : zr_P ρ = (r, w, zr_H ρ ρ.1) := by
        unfold zr_P
        rw [hW.1.1]
        dsimp only
        rw [g1, g2]
      have hfa : zk_fault (σ.1, σ.2.1, ρ, σ.2.2.2) 0 = (ρ.1 : Int) := by
        rw [zk_fault, if_pos rfl]
        dsimp only
        rw [hW.1.1]
      have hca : zk_count (σ.1, σ.2.1, ρ, σ.2.2.2) 4 = (ρ.1 : Int) := by simp [zk_count]
      have hpa : zk_plan (σ.1, σ.2.1, ρ, σ.2.2.2) = ((r * w : Nat) : Int) := by
        rw [zk_plan, if_pos hwh]
        dsimp only
        rw [hPr]
        rfl
      have hS : zk_planS (σ.1, σ.2.1, ρ, σ.2.2.2) = (zr_P ρ, (0, σ.2.1.2), (0, ρ.2), (σ.2.2.2.1.1 + 1, σ.2.2.2.1.2), none) := by rw [zk_planS, if_pos hwh]
      have h40 := lW_40 hr.2 hW (by omega)
      refine zx_iload dL_plan_188 rfl ?_
      refine zy_if_eq (tgt := 226) dL_plan_190 (by decide) (by omega) (fun h_190 => ?_) (fun h_190 => ?_)
      · exact absurd h_190 (by omega)
      · refine zx_aload_n dL_plan_193 rfl ?_
        refine zx_iconst (v := zn_I 0) dL_plan_194 rfl ?_
        refine zx_callV (y1 := iX10_fault) dL_plan_195 lL_24 vX10_fault rc_0 (mX10_fault hC1 (z := 0) (by omega)) rfl rfl (Nat.le_of_ble_eq_true rfl) ?_
        intro v M2 he
        obtain ⟨rfl, hf2, hC2⟩ := he
        rw [hfa]
        refine zx_aload_n dL_plan_198 rfl ?_
        refine zx_iconst (v := zn_I 4) dL_plan_199 rfl ?_
        refine zx_callV (y1 := iX10_count) dL_plan_200 lL_28 vX10_count rc_0 (mX10_count hC2 (w := 4) (by omega)) rfl rfl (Nat.le_of_ble_eq_true rfl) ?_
        refine zk_i ?_
        rw [hca]
        refine zy_icmp_ne (tgt := 226) dL_plan_203 (by decide) (by omega) (fun h_203 => ?_) (fun h_203 => ?_)
        · exact absurd rfl h_203
        · refine zx_aload_n dL_plan_206 rfl ?_
          refine zx_callV (y1 := iX10_plan) dL_plan_207 lL_31 vX10_plan rc_0 (mX10_plan hC2) rfl rfl (Nat.le_of_ble_eq_true rfl) ?_
          intro v M3 he
          obtain ⟨rfl, hf3, hC3⟩ := he
          rw [hpa]
          have e33 : M3.1 33 = M1.1 33 := ((hf3 33 (by decide)).1).trans (hf2 33 (by decide)).1
          have e34 : M3.1 34 = M1.1 34 := ((hf3 34 (by decide)).1).trans (hf2 34 (by decide)).1
          refine zx_aload dL_plan_210 rfl ?_
          refine zx_iconst (v := zn_I 0) dL_plan_212 rfl ?_
          refine zy_iald (i := 0) dL_plan_213 rfl (by decide) (by omega) (by omega) ((show _ = zn_I (r : Int) from by rw [e33]; exact hs0)) ?_
          refine zx_aload dL_plan_214 rfl ?_
          refine zx_iconst (v := zn_I 1) dL_plan_216 rfl ?_
          refine zy_iald (i := 1) dL_plan_217 rfl (by decide) (by omega) (by omega) ((show _ = zn_I (w : Int) from by rw [e33]; exact hs1)) ?_
          refine zy_imul dL_plan_218 ?_
          rw [← Int.natCast_mul]
          refine zy_icmp_ne (tgt := 226) dL_plan_219 (by decide) (by omega) (fun h_219 => ?_) (fun h_219 => ?_)
          · exact absurd rfl h_219
          · refine zx_iconst (v := zn_I 1) dL_plan_222 rfl ?_
            refine zx_goto (tgt := 227) dL_plan_223 (by decide) ?_
            refine zx_iret (st := []) dL_plan_227 rfl rfl ?_
            refine ⟨rfl, zf_tr hf0 (zf_tr (zf_mono hf2 (by decide)) (zf_mono hf3 (by decide))), zk_planS (σ.1, σ.2.1, ρ, σ.2.2.2), hC3, ?_⟩
            rw [hS]
            dsimp only
            rw [hPr]
            exact ⟨⟨by rw [e33]; exact hs0, by rw [e33]; exact hs1, fun c hc => by rw [e34]; exact hH c hc⟩, rfl, rfl, rfl⟩
    obtain ⟨hf0, hC1, ⟨hs0, hs1⟩, hW, hH⟩ := id hV
    refine zx_iload dL_plan_37 rfl ?_
    refine zx_aload dL_plan_39 rfl ?_
    refine zx_iconst (v := zn_I 0) dL_plan_41 rfl ?_
    refine zy_iald (i := 0) dL_plan_42 rfl (by decide) (by omega) (by omega) (hs0) ?_
    refine zx_aload dL_plan_43 rfl ?_
    refine zx_iconst (v := zn_I 1) dL_plan_45 rfl ?_
    refine zy_iald (i := 1) dL_plan_46 rfl (by decide) (by omega) (by omega) (hs1) ?_
    refine zy_imul dL_plan_47 ?_
    rw [← Int.natCast_mul]
    refine zy_icmp_ge (tgt := 188) dL_plan_48 (by decide) (by omega) (fun h_48 => ?_) (fun h_48 => ?_)
    · have ec : r * w = c := by omega
      exact fin_ ec
    · have hcn : c < r * w := by omega
      refine zx_aload_n dL_plan_51 rfl ?_
      refine zx_iload_n dL_plan_52 rfl ?_
      refine zx_iconst (v := zn_I 1) dL_plan_53 rfl ?_
      refine zy_iadd dL_plan_54 ?_
      refine zx_iload dL_plan_55 rfl ?_
      refine zx_iconst (v := zn_I 5) dL_plan_57 rfl ?_
      refine zy_idiv (a := c) (b := 5) dL_plan_58 (by omega) ?_
      refine zy_iadd dL_plan_59 ?_
      refine zy_top (show _ = zn_I ((1 + c / 5 : Nat) : Int) from congrArg zn_I (by omega)) ?_
      refine zx_callS (y1 := iL_cell) dL_plan_60 lL_14 sL_cell (mL_cell hL (k := 1 + c / 5) (by omega)) rfl rfl (Nat.le_of_ble_eq_true rfl) ?_
      refine zk_i ?_
      refine zx_bipush (v := zn_I 6) dL_plan_63 (by decide) ?_
      refine zx_iload dL_plan_65 rfl ?_
      refine zx_iconst (v := zn_I 5) dL_plan_67 rfl ?_
      refine zy_irem (a := c) (b := 5) dL_plan_68 (by omega) ?_
      refine zy_imul dL_plan_69 ?_
      refine zx_ishr dL_plan_70 ?_
      refine zx_bipush (v := zn_I 63) dL_plan_71 (by decide) ?_
      refine zx_iand dL_plan_73 ?_
      refine zy_mask 63 (by decide) (fun v hv => ?_)
      refine zx_istore dL_plan_74 rfl (Nat.le_of_ble_eq_true rfl) ?_
      refine zx_aload dL_plan_76 rfl ?_
      refine zx_iload dL_plan_78 rfl ?_
      refine zx_iload dL_plan_80 rfl ?_
      refine zx_iconst (v := zn_I 3) dL_plan_82 rfl ?_
      refine zy_irem (a := v) (b := 3) dL_plan_83 (by omega) ?_
      refine zy_if_le (tgt := 91) dL_plan_84 (by decide) (by omega) (fun h_84 => ?_) (fun h_84 => ?_)
      · refine zx_iconst (v := zn_I 1) dL_plan_91 rfl ?_
        refine zx_iload dL_plan_92 rfl ?_
        refine zx_iconst (v := zn_I 3) dL_plan_94 rfl ?_
        refine zy_idiv (a := v) (b := 3) dL_plan_95 (by omega) ?_
        refine zx_aload_n dL_plan_96 rfl ?_
        refine zx_iload_n dL_plan_97 rfl ?_
        refine zx_callS (y1 := iL_cell) dL_plan_98 lL_14 sL_cell (mL_cell hL (k := 0) (by omega)) rfl rfl (Nat.le_of_ble_eq_true rfl) ?_
        refine zk_i ?_
        refine zx_bipush (v := zn_I 64) dL_plan_101 (by decide) ?_
        refine zy_idiv (a := lS l 0) (b := 64) dL_plan_103 (by have := lS_lt l 0; omega) ?_
        refine zx_iconst (v := zn_I 2) dL_plan_104 rfl ?_
        refine zy_irem (a := lS l 0 / 64) (b := 2) dL_plan_105 (by have := lS_lt l 0; omega) ?_
        refine zy_if_ne (tgt := 114) dL_plan_106 (by decide) (by omega) (fun h_106 => ?_) (fun h_106 => ?_)
        · refine zx_iconst (v := zn_I 3) dL_plan_114 rfl ?_
          refine zy_irem (a := v / 3) (b := 3) dL_plan_115 (by omega) ?_
          refine zy_iadd dL_plan_116 ?_
          refine zy_top (show _ = zn_I ((1 + v / 3 % 3 : Nat) : Int) from congrArg zn_I (by omega)) ?_
          exact store hcn (1 + v / 3 % 3) _ (by omega)
        · refine zx_bipush (v := zn_I 9) dL_plan_109 (by decide) ?_
          refine zx_goto (tgt := 115) dL_plan_111 (by decide) ?_
          refine zy_irem (a := v / 3) (b := 9) dL_plan_115 (by omega) ?_
          refine zy_iadd dL_plan_116 ?_
          refine zy_top (show _ = zn_I ((1 + v / 3 % 9 : Nat) : Int) from congrArg zn_I (by omega)) ?_
          exact store hcn (1 + v / 3 % 9) _ (by omega)
      · refine zx_iconst (v := zn_I 0) dL_plan_87 rfl ?_
        refine zx_goto (tgt := 117) dL_plan_88 (by decide) ?_
        exact store hcn 0 _ (by omega)
  refine zx_aload dL_plan_0 rfl ?_
  refine zx_iconst (v := zn_I 0) dL_plan_2 rfl ?_
  refine zx_iconst (v := zn_I 2) dL_plan_3 rfl ?_
  refine zx_aload_n dL_plan_4 rfl ?_
  refine zx_iload_n dL_plan_5 rfl ?_
  refine zx_callS (y1 := iL_cell) dL_plan_6 lL_14 sL_cell (mL_cell hL (k := 0) (by omega)) rfl rfl (Nat.le_of_ble_eq_true rfl) ?_
  refine zk_i ?_
  refine zx_iload_n dL_plan_9 rfl ?_
  refine zx_iconst (v := zn_I 1) dL_plan_10 rfl ?_
  refine zy_isub dL_plan_11 ?_
  refine zy_top (show _ = zn_I 4 from rfl) ?_
  refine zy_irem (a := lS l 0) (b := 4) dL_plan_12 (by have := lS_lt l 0; omega) ?_
  refine zy_iadd dL_plan_13 ?_
  refine zy_top (show _ = zn_I (r : Int) from congrArg zn_I (by omega)) ?_
  refine zy_iast (i := 0) dL_plan_14 rfl (by decide) (by omega) (by omega) ?_
  refine zx_aload dL_plan_15 rfl ?_
  refine zx_iconst (v := zn_I 1) dL_plan_17 rfl ?_
  refine zx_iconst (v := zn_I 2) dL_plan_18 rfl ?_
  refine zx_aload_n dL_plan_19 rfl ?_
  refine zx_iload_n dL_plan_20 rfl ?_
  refine zx_callS (y1 := iL_cell) dL_plan_21 lL_14 sL_cell (mL_cell hL (k := 0) (by omega)) rfl rfl (Nat.le_of_ble_eq_true rfl) ?_
  refine zk_i ?_
  refine zx_bipush (v := zn_I 8) dL_plan_24 (by decide) ?_
  refine zy_idiv (a := lS l 0) (b := 8) dL_plan_26 (by have := lS_lt l 0; omega) ?_
  refine zx_iload_n dL_plan_27 rfl ?_
  refine zy_irem (a := lS l 0 / 8) (b := 5) dL_plan_28 (by have := lS_lt l 0; omega) ?_
  refine zy_iadd dL_plan_29 ?_
  refine zy_top (show _ = zn_I (w : Int) from congrArg zn_I (by omega)) ?_
  refine zy_iast (i := 1) dL_plan_30 rfl (by decide) (by omega) (by omega) ?_
  refine zx_iconst (v := zn_I 1) dL_plan_31 rfl ?_
  refine zx_istore dL_plan_32 rfl (Nat.le_of_ble_eq_true rfl) ?_
  refine zx_iconst (v := zn_I 0) dL_plan_34 rfl ?_
  refine zx_istore dL_plan_35 rfl (Nat.le_of_ble_eq_true rfl) ?_
  exact loop 0 (Nat.zero_le _) σ.2.2.1 (1, 0, 0) (zw_s (zw_s M 33 0 (zn_I (r : Int))) 33 1 (zn_I (w : Int))) _ ⟨zf_s (zf_s zf_rf (by decide)) (by decide), zC_f (S := [33]) (zf_s (zf_s zf_rf (by decide)) (by decide)) hC (by decide), ⟨by simp [zw_s], by simp [zw_s]⟩, lW_0 hρ hr.1, fun s hs => absurd hs (Nat.not_lt_zero _)⟩ (fun q => absurd q (Nat.lt_irrefl _))
end
section
/-! THE LAW: things are told -/
theorem lB_w {M : zw_M} {τ : zQ} {t j : Nat} {x : Int32} (hB : lB M τ t) (hj : 10 * t ≤ j) : lB (zw_s M 35 j x) τ t := fun u hu => by
  obtain ⟨⟨h1, h2⟩, h3⟩ := hB u hu
  refine ⟨⟨?_, ?_⟩, fun q hq => ?_⟩
  · simp [zw_s, show ¬ 10 * u = j by omega, h1]
  · simp [zw_s, show ¬ 10 * u + 1 = j by omega, h2]
  · simp [zw_s, show ¬ 10 * u + 2 + q = j by omega, h3 q hq]
theorem lB_ext {M : zw_M} {τ τ1 : zQ} {t : Nat} (hB : lB M τ t) (h : ∀ u, u < t → τ1.2.1 u = τ.2.1 u ∧ τ1.2.2.1 u = τ.2.2.1 u ∧ τ1.2.2.2 u = τ.2.2.2 u) : lB M τ1 t := fun u hu => by
  obtain ⟨e1, e2, e3⟩ := h u hu
  rw [e1, e2, e3]
  exact hB u hu
set_option maxRecDepth 100000 in
set_option maxHeartbeats 600000 in
theorem mL_things {l : zw_Lh} {d : Nat} {M : zw_M} {σ : zZ} (hC : zC_ M σ) (hA : lA M σ.1) (hσ0 : σ.2.1.1 = 0) (hπ : 2 ≤ σ.1.1 ∧ 2 ≤ σ.1.2.1) {m : Nat} (hm : 1 ≤ m ∧ m ≤ 6) (hL : l.2.1 ≤ 260) : zw_C l (d + 6) iL_things [.ref 0, .ref 37, .int (zn_I 8), .int (zn_I (m : Int)), .ref 33, .ref 35] M (fun v M1 => v = some (.int (zn_I 1)) ∧ zw_fr (35 :: zcl) M M1 ∧ ∃ τ1 : zQ, zC_ M1 (zst σ τ1) ∧ τ1.1 = m ∧ lB M1 τ1 m) := by
  refine zw_of (by decide +kernel) (Nat.le_of_ble_eq_true rfl) ?_
  refine zy_loc (L1 := [.ref 0, .ref 37, .int (zn_I 8), .int (zn_I (m : Int)), .ref 33, .ref 35, .retAddr 0, .retAddr 0, .retAddr 0, .retAddr 0, .retAddr 0, .retAddr 0, .retAddr 0]) rfl ?_
  have hp := hC.1.1
  have h30 := zp_30 hp
  have hn0 : 0 < zp_n σ.1 := Nat.mul_pos (by omega) (by omega)
  have hs0 := hA.1
  have hs1 := hA.2.1
  have loop : ∀ t : Nat, t ≤ m → ∀ (τ1 : zQ) (M1 : zw_M) (v9 v10 v11 v12 : Value), zw_fr (35 :: zcl) M M1 → zC_ M1 (zst σ τ1) → τ1.1 = t → lB M1 τ1 t → zw_X l (d + 6) iL_things (fun v M1 => v = some (.int (zn_I 1)) ∧ zw_fr (35 :: zcl) M M1 ∧ ∃ τ1 : zQ, zC_ M1 (zst σ τ1) ∧ τ1.1 = m ∧ lB M1 τ1 m) 17 [.ref 0, .ref 37, .int (zn_I 8), .int (zn_I (m : Int)), .ref 33, .ref 35, .int (zn_I (zp_n σ.1 : Nat)), .int (zn_I 1), .int (zn_I (t : Int)), v9, v10, v11, v12] [] M1 := by
    refine zw_loop m (P := fun t => ∀ (τ1 : zQ) (M1 : zw_M) (v9 v10 v11 v12 : Value), zw_fr (35 :: zcl) M M1 → zC_ M1 (zst σ τ1) → τ1.1 = t → lB M1 τ1 t → zw_X l (d + 6) iL_things (fun v M1 => v = some (.int (zn_I 1)) ∧ zw_fr (35 :: zcl) M M1 ∧ ∃ τ1 : zQ, zC_ M1 (zst σ τ1) ∧ τ1.1 = m ∧ lB M1 τ1 m) 17 [.ref 0, .ref 37, .int (zn_I 8), .int (zn_I (m : Int)), .ref 33, .ref 35, .int (zn_I (zp_n σ.1 : Nat)), .int (zn_I 1), .int (zn_I (t : Int)), v9, v10, v11, v12] [] M1) (fun t ht ih τ1 M1 v9 v10 v11 v12 hf1 hC1 ht1 hB1 => ?_)
    have inner (htm : t < m) (x y wt : Nat) (hxl : x < 2147483648) : ∀ q : Nat, q ≤ 8 → ∀ (τ2 : zQ) (M2 : zw_M) (v12 : Value), zw_fr (35 :: zcl) M M2 → zC_ M2 (zst σ τ2) → τ2.1 = t + 1 → (τ2.2.1 t = ((x % 5 : Nat) : Int) ∧ τ2.2.2.1 t = (wt : Int)) → lB M2 τ2 t → (M2.1 35 (10 * t) = zn_I ((x % 5 : Nat) : Int) ∧ M2.1 35 (10 * t + 1) = zn_I (wt : Int)) → (x % 5 < 3 → ∀ u, u < 8 → τ2.2.2.2 t u = x / 1024 % zp_n σ.1) → (∀ u, u < q → M2.1 35 (10 * t + 2 + u) = zn_I (τ2.2.2.2 t u : Nat)) → zw_X l (d + 6) iL_things (fun v M1 => v = some (.int (zn_I 1)) ∧ zw_fr (35 :: zcl) M M1 ∧ ∃ τ1 : zQ, zC_ M1 (zst σ τ1) ∧ τ1.1 = m ∧ lB M1 τ1 m) 135 [.ref 0, .ref 37, .int (zn_I 8), .int (zn_I (m : Int)), .ref 33, .ref 35, .int (zn_I (zp_n σ.1 : Nat)), .int (zn_I 1), .int (zn_I (t : Int)), .int (zn_I (x : Int)), .int (zn_I (y : Int)), .int (zn_I (q : Int)), v12] [] M2 := by
      refine zw_loop 8 (P := fun q => ∀ (τ2 : zQ) (M2 : zw_M) (v12 : Value), zw_fr (35 :: zcl) M M2 → zC_ M2 (zst σ τ2) → τ2.1 = t + 1 → (τ2.2.1 t = ((x % 5 : Nat) : Int) ∧ τ2.2.2.1 t = (wt : Int)) → lB M2 τ2 t → (M2.1 35 (10 * t) = zn_I ((x % 5 : Nat) : Int) ∧ M2.1 35 (10 * t + 1) = zn_I (wt : Int)) → (x % 5 < 3 → ∀ u, u < 8 → τ2.2.2.2 t u = x / 1024 % zp_n σ.1) → (∀ u, u < q → M2.1 35 (10 * t + 2 + u) = zn_I (τ2.2.2.2 t u : Nat)) → zw_X l (d + 6) iL_things (fun v M1 => v = some (.int (zn_I 1)) ∧ zw_fr (35 :: zcl) M M1 ∧ ∃ τ1 : zQ, zC_ M1 (zst σ τ1) ∧ τ1.1 = m ∧ lB M1 τ1 m) 135 [.ref 0, .ref 37, .int (zn_I 8), .int (zn_I (m : Int)), .ref 33, .ref 35, .int (zn_I (zp_n σ.1 : Nat)), .int (zn_I 1), .int (zn_I (t : Int)), .int (zn_I (x : Int)), .int (zn_I (y : Int)), .int (zn_I (q : Int)), v12] [] M2) (fun q hq ih2 τ2 M2 v12 hf2 hC2 ht2 hkw hB2 hm2 hkd hq2 => ?_)
      have put (hq8 : q < 8) : ∀ (p : Nat) (v12 : Value), p < zp_n σ.1 → (x % 5 < 3 → p = x / 1024 % zp_n σ.1) → zw_X l (d + 6) iL_things (fun v M1 => v = some (.int (zn_I 1)) ∧ zw_fr (35 :: zcl) M M1 ∧ ∃ τ1 : zQ, zC_ M1 (zst σ τ1) ∧ τ1.1 = m ∧ lB M1 τ1 m) 175 [.ref 0, .ref 37, .int (zn_I 8), .int (zn_I (m : Int)), .ref 33, .ref 35, .int (zn_I (zp_n σ.1 : Nat)), .int (zn_I 1), .int (zn_I (t : Int)), .int (zn_I (x : Int)), .int (zn_I (y : Int)), .int (zn_I (q : Int)), v12] [.int (zn_I (p : Int))] M2 := by
        intro p v12 hpn hps
        refine zx_istore dL_things_175 rfl (Nat.le_of_ble_eq_true rfl) ?_
        refine zx_aload dL_things_177 rfl ?_
        refine zx_bipush (v := zn_I 10) dL_things_179 (by decide) ?_
        refine zx_iload dL_things_181 rfl ?_
        refine zy_imul dL_things_183 ?_
        refine zx_iconst (v := zn_I 2) dL_things_184 rfl ?_
        refine zy_iadd dL_things_185 ?_
        refine zx_iload dL_things_186 rfl ?_
        refine zy_iadd dL_things_188 ?_
        refine zx_iload dL_things_189 rfl ?_
        refine zy_iast (i := 10 * t + 2 + q) dL_things_191 rfl (by decide) (by omega) (by omega) ?_
        have hC3 : zC_ (zw_s M2 35 (10 * t + 2 + q) (zn_I (p : Int))) (zst σ τ2) := zC_f (S := [35]) (zf_s zf_rf (by decide)) hC2 (by decide)
        refine zx_iload dL_things_192 rfl ?_
        refine zy_if_eq (tgt := 222) dL_things_194 (by decide) (by omega) (fun h_194 => ?_) (fun h_194 => ?_)
        · exact absurd h_194 (by omega)
        · refine zx_iload dL_things_197 rfl ?_
          refine zx_iconst (v := zn_I 5) dL_things_199 rfl ?_
          refine zy_irem (a := x) (b := 5) dL_things_200 (by omega) ?_
          refine zx_iconst (v := zn_I 3) dL_things_201 rfl ?_
          refine zy_icmp_lt (tgt := 218) dL_things_202 (by decide) (by omega) (fun h_202 => ?_) (fun h_202 => ?_)
          · refine zx_iconst (v := zn_I 1) dL_things_218 rfl ?_
            refine zx_goto (tgt := 223) dL_things_219 (by decide) ?_
            refine zx_istore dL_things_223 rfl (Nat.le_of_ble_eq_true rfl) ?_
            refine zy_iinc dL_things_225 rfl rfl ?_
            refine zx_goto (tgt := 135) dL_things_228 (by decide) ?_
            refine ih2 (by omega) τ2 _ _ (zf_s hf2 (by decide)) hC3 ht2 hkw (lB_w hB2 (by omega)) ⟨by simp [zw_s, show ¬ 10 * t = 10 * t + 2 + q by omega, hm2.1], by simp [zw_s, show ¬ 10 * t + 1 = 10 * t + 2 + q by omega, hm2.2]⟩ hkd (fun u hu => ?_)
            by_cases e : u = q
            · subst e
              simp [zw_s, hkd (by omega) u (by omega), hps (by omega)]
            · simp [zw_s, e, hq2 u (by omega)]
          · refine zx_aload_n dL_things_205 rfl ?_
            refine zx_iload dL_things_206 rfl ?_
            refine zx_iload dL_things_208 rfl ?_
            refine zx_iload dL_things_210 rfl ?_
            refine zx_callV (y1 := iX10_stand) dL_things_212 lL_39 vX10_stand rc_0 (mX10_stand hC3 (z := (t : Int)) (q := (q : Int)) (s := (p : Int)) (by omega) (by omega) (by omega)) rfl rfl (Nat.le_of_ble_eq_true rfl) ?_
            intro v M3 he
            obtain ⟨rfl, hf3, hC4⟩ := he
            have hpr : (zthing (zst σ τ2) (t : Int) ∧ zqu (q : Int) ∧ zhas (zst σ τ2) (p : Int)) := ⟨⟨by omega, by show (t : Int) < τ2.1; omega⟩, ⟨by omega, by omega⟩, by omega, by show (p : Int) < zp_n σ.1; omega⟩
            have hpp : zpers (zst σ τ2) (t : Int) := by
              show τ2.2.1 (Int.toNat (t : Int)) = 3 ∨ τ2.2.1 (Int.toNat (t : Int)) = 4
              rw [Int.toNat_natCast, hkw.1]
              omega
            have hst : zk_stand (zst σ τ2) (t : Int) (q : Int) (p : Int) = (τ2.2.2.2 t q : Int) := by
              rw [zk_stand, if_neg (fun r => r hpr), if_neg (fun r => r hpp), zpl, Int.toNat_natCast, Int.toNat_natCast]
              rfl
            have hpq : τ2.2.2.2 t q < zp_n σ.1 := hC2.2.1.2.2.2.2.2.2.2 t (by show t < τ2.1; omega) q (by omega)
            rw [zk_standS, if_pos ⟨hpr, hpp⟩, Int.toNat_natCast, Int.toNat_natCast, Int.toNat_natCast] at hC4
            rw [hst]
            refine zy_if_lt (tgt := 222) dL_things_215 (by decide) (by omega) (fun h_215 => ?_) (fun h_215 => ?_)
            · exact absurd h_215 (by omega)
            · refine zx_iconst (v := zn_I 1) dL_things_218 rfl ?_
              refine zx_goto (tgt := 223) dL_things_219 (by decide) ?_
              refine zx_istore dL_things_223 rfl (Nat.le_of_ble_eq_true rfl) ?_
              refine zy_iinc dL_things_225 rfl rfl ?_
              refine zx_goto (tgt := 135) dL_things_228 (by decide) ?_
              have e35 : M3.1 35 = (zw_s M2 35 (10 * t + 2 + q) (zn_I (p : Int))).1 35 := (hf3 35 (by decide)).1
              have hB3 : lB M3 τ2 t := lB_f hf3 (lB_w hB2 (by omega)) (by decide)
              refine ih2 (by omega) (zt_at τ2 t q p) _ _ (zf_tr (zf_s hf2 (by decide)) (zf_mono hf3 (by decide))) hC4 ht2 hkw (lB_ext hB3 (fun u hu => ⟨rfl, rfl, by simp [zt_at, zt_mv, show u ≠ t by omega]⟩)) ⟨by rw [e35]; simp [zw_s, show ¬ 10 * t = 10 * t + 2 + q by omega, hm2.1], by rw [e35]; simp [zw_s, show ¬ 10 * t + 1 = 10 * t + 2 + q by omega, hm2.2]⟩ (fun r => absurd r (by omega)) (fun u hu => ?_)
              rw [e35]
              by_cases e : u = q
              · subst e
                simp [zw_s, zt_at, zt_mv]
              · simp [zw_s, zt_at, zt_mv, e, hq2 u (by omega)]
      refine zx_iload dL_things_135 rfl ?_
      refine zx_bipush (v := zn_I 8) dL_things_137 (by decide) ?_
      refine zy_icmp_ge (tgt := 231) dL_things_139 (by decide) (by omega) (fun h_139 => ?_) (fun h_139 => ?_)
      · refine zy_iinc dL_things_231 rfl rfl ?_
        refine zx_goto (tgt := 17) dL_things_234 (by decide) ?_
        have eq8 : q = 8 := by omega
        subst eq8
        refine ih (by omega) τ2 M2 _ _ _ _ hf2 hC2 ht2 (fun u hu => ?_)
        by_cases e : u = t
        · subst e
          rw [hkw.1, hkw.2]
          exact ⟨hm2, fun q hq => hq2 q hq⟩
        · exact hB2 u (by omega)
      · refine zx_iload dL_things_142 rfl ?_
        refine zx_iconst (v := zn_I 5) dL_things_144 rfl ?_
        refine zy_irem (a := x) (b := 5) dL_things_145 (by omega) ?_
        refine zx_iconst (v := zn_I 3) dL_things_146 rfl ?_
        refine zy_icmp_ge (tgt := 162) dL_things_147 (by decide) (by omega) (fun h_147 => ?_) (fun h_147 => ?_)
        · refine zx_iload dL_things_162 rfl ?_
          refine zx_iconst (v := zn_I 3) dL_things_164 rfl ?_
          refine zx_iload dL_things_165 rfl ?_
          refine zy_imul dL_things_167 ?_
          refine zx_ishr dL_things_168 ?_
          refine zx_bipush (v := zn_I 127) dL_things_169 (by decide) ?_
          refine zx_iand dL_things_171 ?_
          refine zy_mask 127 (by decide) (fun v hv => ?_)
          refine zx_iload dL_things_172 rfl ?_
          refine zy_irem (a := v) (b := zp_n σ.1) dL_things_174 (by omega) ?_
          exact put (by omega) _ _ (Nat.mod_lt _ hn0) (fun r => absurd r (by omega))
        · refine zx_iload dL_things_150 rfl ?_
          refine zx_sipush (v := zn_I 1024) dL_things_152 (by decide) ?_
          refine zy_idiv (a := x) (b := 1024) dL_things_155 (by omega) ?_
          refine zx_iload dL_things_156 rfl ?_
          refine zy_irem (a := x / 1024) (b := zp_n σ.1) dL_things_158 (by omega) ?_
          refine zx_goto (tgt := 175) dL_things_159 (by decide) ?_
          exact put (by omega) _ _ (Nat.mod_lt _ hn0) (fun _ => rfl)
    refine zx_iload dL_things_17 rfl ?_
    refine zx_iload_n dL_things_19 rfl ?_
    refine zy_icmp_ge (tgt := 237) dL_things_20 (by decide) (by omega) (fun h_20 => ?_) (fun h_20 => ?_)
    · have et : t = m := by omega
      subst et
      refine zx_iload dL_things_237 rfl ?_
      refine zx_iret (st := []) dL_things_239 rfl rfl ?_
      exact ⟨rfl, hf1, τ1, hC1, ht1, hB1⟩
    · refine zx_aload_n dL_things_23 rfl ?_
      refine zx_iload_n dL_things_24 rfl ?_
      refine zx_iconst (v := zn_I 2) dL_things_25 rfl ?_
      refine zx_iload dL_things_26 rfl ?_
      refine zy_imul dL_things_28 ?_
      refine zy_iadd dL_things_29 ?_
      refine zy_top (show _ = zn_I ((8 + 2 * t : Nat) : Int) from congrArg zn_I (by omega)) ?_
      refine zx_callS (y1 := iL_cell) dL_things_30 lL_14 sL_cell (mL_cell hL (k := 8 + 2 * t) (by omega)) rfl rfl (Nat.le_of_ble_eq_true rfl) ?_
      refine zk_i ?_
      have hxl := lS_lt l (8 + 2 * t)
      generalize lS l (8 + 2 * t) = x at hxl ⊢
      refine zx_istore dL_things_33 rfl (Nat.le_of_ble_eq_true rfl) ?_
      refine zx_aload_n dL_things_35 rfl ?_
      refine zx_iload_n dL_things_36 rfl ?_
      refine zx_iconst (v := zn_I 2) dL_things_37 rfl ?_
      refine zx_iload dL_things_38 rfl ?_
      refine zy_imul dL_things_40 ?_
      refine zy_iadd dL_things_41 ?_
      refine zx_iconst (v := zn_I 1) dL_things_42 rfl ?_
      refine zy_iadd dL_things_43 ?_
      refine zy_top (show _ = zn_I ((8 + 2 * t + 1 : Nat) : Int) from congrArg zn_I (by omega)) ?_
      refine zx_callS (y1 := iL_cell) dL_things_44 lL_14 sL_cell (mL_cell hL (k := 8 + 2 * t + 1) (by omega)) rfl rfl (Nat.le_of_ble_eq_true rfl) ?_
      refine zk_i ?_
      have hyl := lS_lt l (8 + 2 * t + 1)
      generalize lS l (8 + 2 * t + 1) = y at hyl ⊢
      refine zx_istore dL_things_47 rfl (Nat.le_of_ble_eq_true rfl) ?_
      refine zx_aload dL_things_49 rfl ?_
      refine zx_bipush (v := zn_I 10) dL_things_51 (by decide) ?_
      refine zx_iload dL_things_53 rfl ?_
      refine zy_imul dL_things_55 ?_
      refine zx_iload dL_things_56 rfl ?_
      refine zx_iconst (v := zn_I 5) dL_things_58 rfl ?_
      refine zy_irem (a := x) (b := 5) dL_things_59 (by omega) ?_
      refine zy_iast (i := 10 * t) dL_things_60 rfl (by decide) (by omega) (by omega) ?_
      refine zx_aload dL_things_61 rfl ?_
      refine zx_bipush (v := zn_I 10) dL_things_63 (by decide) ?_
      refine zx_iload dL_things_65 rfl ?_
      refine zy_imul dL_things_67 ?_
      refine zx_iconst (v := zn_I 1) dL_things_68 rfl ?_
      refine zy_iadd dL_things_69 ?_
      refine zx_iconst (v := zn_I 1) dL_things_70 rfl ?_
      refine zx_iload dL_things_71 rfl ?_
      refine zx_bipush (v := zn_I 8) dL_things_73 (by decide) ?_
      refine zy_idiv (a := x) (b := 8) dL_things_75 (by omega) ?_
      refine zx_bipush (v := zn_I 99) dL_things_76 (by decide) ?_
      refine zy_irem (a := x / 8) (b := 99) dL_things_78 (by omega) ?_
      refine zx_iload dL_things_79 rfl ?_
      refine zx_iconst (v := zn_I 2) dL_things_81 rfl ?_
      refine zy_irem (a := x) (b := 2) dL_things_82 (by omega) ?_
      refine zx_iconst (v := zn_I 1) dL_things_83 rfl ?_
      refine zy_iadd dL_things_84 ?_
      refine zy_top (show _ = zn_I ((x % 2 + 1 : Nat) : Int) from congrArg zn_I (by omega)) ?_
      refine zy_idiv (a := x / 8 % 99) (b := x % 2 + 1) dL_things_85 (by omega) ?_
      refine zy_iadd dL_things_86 ?_
      refine zy_top (show _ = zn_I ((1 + x / 8 % 99 / (x % 2 + 1) : Nat) : Int) from congrArg zn_I (by omega)) ?_
      refine zy_iast (i := 10 * t + 1) dL_things_87 rfl (by decide) (by omega) (by omega) ?_
      have hwt : 1 + x / 8 % 99 / (x % 2 + 1) ≤ 99 := by have := Nat.div_le_self (x / 8 % 99) (x % 2 + 1); omega
      obtain ⟨wt, ewt⟩ : ∃ wt, 1 + x / 8 % 99 / (x % 2 + 1) = wt := ⟨_, rfl⟩
      have hwt1 : 1 ≤ wt ∧ wt ≤ 99 := by rw [← ewt]; exact ⟨Nat.le_add_right _ _, hwt⟩
      rw [ewt]
      have hC2 : zC_ (zw_s (zw_s M1 35 (10 * t) (zn_I ((x % 5 : Nat) : Int))) 35 (10 * t + 1) (zn_I (wt : Int))) (zst σ τ1) := zC_f (S := [35]) (zf_s (zf_s zf_rf (by decide)) (by decide)) hC1 (by decide)
      refine zx_iload dL_things_88 rfl ?_
      refine zy_if_eq (tgt := 129) dL_things_90 (by decide) (by omega) (fun h_90 => ?_) (fun h_90 => ?_)
      · exact absurd h_90 (by omega)
      · refine zx_aload_n dL_things_93 rfl ?_
        refine zx_iload dL_things_94 rfl ?_
        refine zx_iconst (v := zn_I 5) dL_things_96 rfl ?_
        refine zy_irem (a := x) (b := 5) dL_things_97 (by omega) ?_
        refine zx_aload dL_things_98 rfl ?_
        refine zx_bipush (v := zn_I 10) dL_things_100 (by decide) ?_
        refine zx_iload dL_things_102 rfl ?_
        refine zy_imul dL_things_104 ?_
        refine zx_iconst (v := zn_I 1) dL_things_105 rfl ?_
        refine zy_iadd dL_things_106 ?_
        refine zy_iald (i := 10 * t + 1) dL_things_107 rfl (by decide) (by omega) (by omega) ((show _ = zn_I (wt : Int) from by simp [zw_s])) ?_
        refine zx_iload dL_things_108 rfl ?_
        refine zx_sipush (v := zn_I 1024) dL_things_110 (by decide) ?_
        refine zy_idiv (a := x) (b := 1024) dL_things_113 (by omega) ?_
        refine zx_iload dL_things_114 rfl ?_
        refine zy_irem (a := x / 1024) (b := zp_n σ.1) dL_things_116 (by omega) ?_
        refine zx_callV (y1 := iX10_thing) dL_things_117 lL_35 vX10_thing rc_0 (mX10_thing hC2 (k := ((x % 5 : Nat) : Int)) (w := (wt : Int)) (s := ((x / 1024 % zp_n σ.1 : Nat) : Int)) (by omega) (by omega) (by have := Nat.mod_lt (x / 1024) hn0; omega)) rfl rfl (Nat.le_of_ble_eq_true rfl) ?_
        intro v M2 he
        obtain ⟨rfl, hf2, hC3⟩ := he
        have hsq := Nat.mod_lt (x / 1024) hn0
        have hc1 : ((0 ≤ ((x % 5 : Nat) : Int) ∧ ((x % 5 : Nat) : Int) ≤ 4) ∧ 1 ≤ (wt : Int) ∧ (wt : Int) ≤ 99) := by omega
        have hc2 : zhas (zst σ τ1) ((x / 1024 % zp_n σ.1 : Nat) : Int) := ⟨by omega, by show _ < ((zp_n σ.1 : Nat) : Int); omega⟩
        have hc3 : (zst σ τ1).2.1.1 < 8 := by show τ1.1 < 8; omega
        have hth : zk_thing (zst σ τ1) ((x % 5 : Nat) : Int) (wt : Int) ((x / 1024 % zp_n σ.1 : Nat) : Int) = (t : Int) := by
          rw [zk_thing, if_neg (fun r => r hc1), if_neg (fun r => r hc2), if_neg (by omega)]
          show ((τ1.1 : Nat) : Int) = _
          omega
        rw [zk_thingS, if_pos ⟨hc1, hc2, hc3⟩, Int.toNat_natCast] at hC3
        rw [hth]
        refine zx_iload dL_things_120 rfl ?_
        refine zy_icmp_ne (tgt := 129) dL_things_122 (by decide) (by omega) (fun h_122 => ?_) (fun h_122 => ?_)
        · exact absurd rfl h_122
        · refine zx_iconst (v := zn_I 1) dL_things_125 rfl ?_
          refine zx_goto (tgt := 130) dL_things_126 (by decide) ?_
          refine zx_istore dL_things_130 rfl (Nat.le_of_ble_eq_true rfl) ?_
          refine zx_iconst (v := zn_I 0) dL_things_132 rfl ?_
          refine zx_istore dL_things_133 rfl (Nat.le_of_ble_eq_true rfl) ?_
          have e35 : M2.1 35 = (zw_s (zw_s M1 35 (10 * t) (zn_I ((x % 5 : Nat) : Int))) 35 (10 * t + 1) (zn_I (wt : Int))).1 35 := (hf2 35 (by decide)).1
          have hB2 : lB M2 τ1 t := lB_f hf2 (lB_w (lB_w hB1 (Nat.le_refl _)) (by omega)) (by decide)
          exact inner (by omega) x y wt hxl 0 (Nat.zero_le _) (zt_new τ1 ((x % 5 : Nat) : Int) (wt : Int) (x / 1024 % zp_n σ.1)) M2 _ (zf_tr (zf_s (zf_s hf1 (by decide)) (by decide)) (zf_mono hf2 (by decide))) hC3 (by show τ1.1 + 1 = _; omega) ⟨by simp [zt_new, ht1], by simp [zt_new, ht1]⟩ (lB_ext hB2 (fun u hu => ⟨by simp [zt_new, show u ≠ τ1.1 by omega], by simp [zt_new, show u ≠ τ1.1 by omega], by simp [zt_new, show u ≠ τ1.1 by omega]⟩)) ⟨by rw [e35]; simp [zw_s], by rw [e35]; simp [zw_s]⟩ (fun _ u hu => by simp [zt_new, ht1]) (fun u hu => absurd hu (Nat.not_lt_zero _))
  refine zx_aload dL_things_0 rfl ?_
  refine zx_iconst (v := zn_I 0) dL_things_2 rfl ?_
  refine zy_iald (i := 0) dL_things_3 rfl (by decide) (by omega) (by omega) (hs0) ?_
  refine zx_aload dL_things_4 rfl ?_
  refine zx_iconst (v := zn_I 1) dL_things_6 rfl ?_
  refine zy_iald (i := 1) dL_things_7 rfl (by decide) (by omega) (by omega) (hs1) ?_
  refine zy_imul dL_things_8 ?_
  refine zy_top (show _ = zn_I (zp_n σ.1 : Nat) from congrArg zn_I (Int.natCast_mul σ.1.1 σ.1.2.1).symm) ?_
  refine zx_istore dL_things_9 rfl (Nat.le_of_ble_eq_true rfl) ?_
  refine zx_iconst (v := zn_I 1) dL_things_11 rfl ?_
  refine zx_istore dL_things_12 rfl (Nat.le_of_ble_eq_true rfl) ?_
  refine zx_iconst (v := zn_I 0) dL_things_14 rfl ?_
  refine zx_istore dL_things_15 rfl (Nat.le_of_ble_eq_true rfl) ?_
  exact loop 0 (Nat.zero_le _) σ.2.1 M _ _ _ _ zf_rf hC hσ0 (fun u hu => absurd hu (Nat.not_lt_zero _))
end
section
/-! THE LAW'S BODY: what holds all along -/
/-- what is known of the locals, and less -/
def zw_wk : List Value → List Value → Prop
  | [], [] => True
  | a :: L, b :: L1 => (b = .retAddr 0 ∨ a = b) ∧ zw_wk L L1
  | _, _ => False
theorem zw_wk_len : ∀ {L L1 : List Value}, zw_wk L L1 → L.length = L1.length ∧ ∀ (i : Nat) (v : Value), L1[i]? = some v → v ≠ .retAddr 0 → L[i]? = some v
  | [], [], _ => ⟨rfl, fun i v h _ => by simp at h⟩
  | a :: L, b :: L1, h => by
    obtain ⟨h1, h2⟩ := zw_wk_len h.2
    refine ⟨by simp [h1], fun i v hi hv => ?_⟩
    cases i with
    | zero =>
      simp at hi
      subst hi
      rcases h.1 with q | q
      · exact absurd q hv
      · simp [q]
    | succ i => exact h2 i v (by simpa using hi) hv
  | [], _ :: _, h => h.elim
  | _ :: _, [], h => h.elim
theorem zx_weak {l : zw_Lh} {d : Nat} {y : zw_I} {Q : Option Value → zw_M → Prop} {pc : Nat} {L L1 st : List Value} {M : zw_M} (h : zw_wk L L1) (k : zw_X l d y Q pc L1 st M) : zw_X l d y Q pc L st M := by
  intro p e s m args below meth c H locs ls G R cells slots Z hK hE hP hS hL
  obtain ⟨h1, h2⟩ := zw_wk_len h
  exact k p e s m args below meth c H locs ls G R cells slots Z hK hE hP hS ⟨by rw [← h1]; exact hL.1, hL.2.1, hL.2.2.1, fun i v hi hv => hL.2.2.2 i v (h2 i v hi hv) hv⟩
def lQ : Option Value → zw_M → Prop := fun v _ => v = some (.int (zn_I 1))
def lI (M : zw_M) (σ : zZ) (m n : Nat) : Prop := zC_ M σ ∧ lA M σ.1 ∧ lB M σ.2.1 m ∧ σ.2.1.1 = m ∧ zp_n σ.1 = n
theorem lI_z {M M1 : zw_M} {σ : zZ} {m n : Nat} (hf : zw_fr zcl M M1) (hC : zC_ M1 σ) (h : lI M σ m n) : lI M1 σ m n := ⟨hC, lA_f hf h.2.1 (by decide), lB_f hf h.2.2.1 (by decide), h.2.2.2⟩
theorem lI_36 {M M1 : zw_M} {σ : zZ} {m n : Nat} (hf : zw_fr [36] M M1) (h : lI M σ m n) : lI M1 σ m n := ⟨zC_f hf h.1 (by decide), lA_f hf h.2.1 (by decide), lB_f hf h.2.2.1 (by decide), h.2.2.2⟩
theorem lk_in {M : zw_M} {σ : zZ} {m n : Nat} (h : lI M σ m n) {t : Nat} (ht : t < m) : zthing σ (t : Int) := ⟨by omega, by have := h.2.2.2.1; omega⟩
theorem lk_as1 {M : zw_M} {σ : zZ} {m n : Nat} (h : lI M σ m n) {t k : Nat} (ht : t < m) (hk : k < 5) (hy : (k : Int) = 0 ∨ (k : Int) = σ.2.1.2.1 t ∨ ((k : Int) = 3 ∧ σ.2.1.2.1 t = 4)) : zk_as σ (t : Int) (k : Int) = (t : Int) := by
  rw [zk_as, if_neg (fun r => r (lk_in h ht)), if_neg (fun r => r ⟨by omega, by omega⟩), if_pos ?_]
  show zt_kind σ.2.1 (t : Int) = (k : Int) ∨ _
  rw [zt_kind_in (by have := h.2.2.2.1; omega)]
  omega
theorem lk_as0 {M : zw_M} {σ : zZ} {m n : Nat} (h : lI M σ m n) {t k : Nat} (ht : t < m) (hk : k < 5) (hy : ¬ ((k : Int) = 0 ∨ (k : Int) = σ.2.1.2.1 t ∨ ((k : Int) = 3 ∧ σ.2.1.2.1 t = 4))) : zk_as σ (t : Int) (k : Int) = -1 := by
  rw [zk_as, if_neg (fun r => r (lk_in h ht)), if_neg (fun r => r ⟨by omega, by omega⟩), if_neg ?_]
  show ¬ (zt_kind σ.2.1 (t : Int) = (k : Int) ∨ _)
  rw [zt_kind_in (by have := h.2.2.2.1; omega)]
  omega
theorem lk_ab0 {M : zw_M} {σ : zZ} {m n : Nat} (h : lI M σ m n) {t : Nat} (ht : t < m) : zk_about σ (t : Int) 0 = σ.2.1.2.1 t := by
  rw [zk_about, if_neg (fun r => r (lk_in h ht)), if_neg (by decide), if_pos rfl, Int.toNat_natCast]
theorem lk_ab1 {M : zw_M} {σ : zZ} {m n : Nat} (h : lI M σ m n) {t : Nat} (ht : t < m) : zk_about σ (t : Int) 1 = σ.2.1.2.2.1 t := by
  rw [zk_about, if_neg (fun r => r (lk_in h ht)), if_neg (by decide), if_neg (by decide), if_pos rfl, Int.toNat_natCast]
theorem lk_ab2 {M : zw_M} {σ : zZ} {m n : Nat} (h : lI M σ m n) {t : Nat} (ht : t < m) : zk_about σ (t : Int) 2 = zt_w σ.2.1 t := by
  rw [zk_about, if_neg (fun r => r (lk_in h ht)), if_neg (by decide), if_neg (by decide), if_neg (by decide), if_pos rfl, Int.toNat_natCast]
theorem lk_abq {M : zw_M} {σ : zZ} {m n : Nat} (h : lI M σ m n) {t q : Nat} (ht : t < m) (hq : q < 8) : zk_about σ (t : Int) (10 + (q : Int)) = (σ.2.1.2.2.2 t q : Int) := by
  rw [zk_about, if_neg (fun r => r (lk_in h ht)), if_pos ⟨by omega, by omega⟩, zpl, Int.toNat_natCast, show (10 + (q : Int) - 10).toNat = q by omega]
theorem lk_pl {τ : zQ} {t : Nat} (h : zt_per τ t) : (zt_pl τ (t + 1)).length = (zt_pl τ t).length + 1 := by rw [zt_pl, if_pos h, List.length_append]; rfl
theorem lk_pl0 {τ : zQ} {t : Nat} (h : ¬ zt_per τ t) : (zt_pl τ (t + 1)).length = (zt_pl τ t).length := by rw [zt_pl, if_neg h]
theorem lk_plle {τ : zQ} : ∀ t, (zt_pl τ t).length ≤ t
  | 0 => Nat.le_refl _
  | t + 1 => by
    have := lk_plle (τ := τ) t
    by_cases h : zt_per τ t
    · rw [lk_pl h]; omega
    · rw [lk_pl0 h]; omega
theorem lk_hH {M : zw_M} {σ : zZ} (hC : zC_ M σ) : ∀ s, s < zp_n σ.1 → 0 ≤ σ.1.2.2 s ∧ σ.1.2.2 s ≤ 9 := hC.1.2.2.2.2.2.2.2.2
set_option maxRecDepth 100000 in
set_option maxHeartbeats 600000 in
theorem lw_as {l : zw_Lh} {σ : zZ} {m n : Nat} {M : zw_M} (hI : lI M σ m n) (hm6 : 1 ≤ m ∧ m ≤ 6) (next : ∀ (M1 : zw_M), lI M1 σ m n → zw_X l 7 iL_law lQ 168 [.ref 37, .ref 0, .ref 33, .ref 34, .ref 35, .ref 36, .int (zn_I (n : Int)), .int (zn_I (m : Int)), .retAddr 0, .retAddr 0, .retAddr 0, .retAddr 0, .retAddr 0, .retAddr 0, .retAddr 0, .retAddr 0, .retAddr 0, .retAddr 0, .retAddr 0, .retAddr 0, .retAddr 0, .retAddr 0, .retAddr 0, .retAddr 0, .retAddr 0, .retAddr 0] [] M1) : zw_X l 7 iL_law lQ 85 [.ref 37, .ref 0, .ref 33, .ref 34, .ref 35, .ref 36, .int (zn_I (n : Int)), .int (zn_I (m : Int)), .int (zn_I (0 : Int)), .retAddr 0, .retAddr 0, .retAddr 0, .retAddr 0, .retAddr 0, .retAddr 0, .retAddr 0, .retAddr 0, .retAddr 0, .retAddr 0, .retAddr 0, .retAddr 0, .retAddr 0, .retAddr 0, .retAddr 0, .retAddr 0, .retAddr 0] [] M := by
  have loop : ∀ t : Nat, t ≤ m → ∀ (M1 : zw_M), lI M1 σ m n → zw_X l 7 iL_law lQ 85 [.ref 37, .ref 0, .ref 33, .ref 34, .ref 35, .ref 36, .int (zn_I (n : Int)), .int (zn_I (m : Int)), .int (zn_I (t : Int)), .retAddr 0, .retAddr 0, .retAddr 0, .retAddr 0, .retAddr 0, .retAddr 0, .retAddr 0, .retAddr 0, .retAddr 0, .retAddr 0, .retAddr 0, .retAddr 0, .retAddr 0, .retAddr 0, .retAddr 0, .retAddr 0, .retAddr 0] [] M1 := by
    refine zw_loop m (P := fun t => ∀ (M1 : zw_M), lI M1 σ m n → zw_X l 7 iL_law lQ 85 [.ref 37, .ref 0, .ref 33, .ref 34, .ref 35, .ref 36, .int (zn_I (n : Int)), .int (zn_I (m : Int)), .int (zn_I (t : Int)), .retAddr 0, .retAddr 0, .retAddr 0, .retAddr 0, .retAddr 0, .retAddr 0, .retAddr 0, .retAddr 0, .retAddr 0, .retAddr 0, .retAddr 0, .retAddr 0, .retAddr 0, .retAddr 0, .retAddr 0, .retAddr 0, .retAddr 0] [] M1) (fun t ht ih M1 hI1 => ?_)
    have inner (htm : t < m) : ∀ k : Nat, k ≤ 5 → ∀ (M2 : zw_M), lI M2 σ m n → zw_X l 7 iL_law lQ 95 [.ref 37, .ref 0, .ref 33, .ref 34, .ref 35, .ref 36, .int (zn_I (n : Int)), .int (zn_I (m : Int)), .int (zn_I (t : Int)), .int (zn_I (k : Int)), .retAddr 0, .retAddr 0, .retAddr 0, .retAddr 0, .retAddr 0, .retAddr 0, .retAddr 0, .retAddr 0, .retAddr 0, .retAddr 0, .retAddr 0, .retAddr 0, .retAddr 0, .retAddr 0, .retAddr 0, .retAddr 0] [] M2 := by
      refine zw_loop 5 (P := fun k => ∀ (M2 : zw_M), lI M2 σ m n → zw_X l 7 iL_law lQ 95 [.ref 37, .ref 0, .ref 33, .ref 34, .ref 35, .ref 36, .int (zn_I (n : Int)), .int (zn_I (m : Int)), .int (zn_I (t : Int)), .int (zn_I (k : Int)), .retAddr 0, .retAddr 0, .retAddr 0, .retAddr 0, .retAddr 0, .retAddr 0, .retAddr 0, .retAddr 0, .retAddr 0, .retAddr 0, .retAddr 0, .retAddr 0, .retAddr 0, .retAddr 0, .retAddr 0, .retAddr 0] [] M2) (fun k hk ih2 M2 hI2 => ?_)
      obtain ⟨hC, hA, hB, hm, hn⟩ := id hI2
      refine zx_iload dL_law_95 rfl ?_
      refine zx_iconst (v := zn_I 5) dL_law_97 rfl ?_
      refine zy_icmp_ge (tgt := 162) dL_law_98 (by decide) (by omega) (fun h_98 => ?_) (fun h_98 => ?_)
      · refine zy_iinc dL_law_162 rfl rfl ?_
        refine zx_goto (tgt := 85) dL_law_165 (by decide) ?_
        refine zx_weak (L1 := [.ref 37, .ref 0, .ref 33, .ref 34, .ref 35, .ref 36, .int (zn_I (n : Int)), .int (zn_I (m : Int)), .int (zn_I ((t + 1 : Nat) : Int)), .retAddr 0, .retAddr 0, .retAddr 0, .retAddr 0, .retAddr 0, .retAddr 0, .retAddr 0, .retAddr 0, .retAddr 0, .retAddr 0, .retAddr 0, .retAddr 0, .retAddr 0, .retAddr 0, .retAddr 0, .retAddr 0, .retAddr 0]) ⟨Or.inr rfl, ⟨Or.inr rfl, ⟨Or.inr rfl, ⟨Or.inr rfl, ⟨Or.inr rfl, ⟨Or.inr rfl, ⟨Or.inr rfl, ⟨Or.inr rfl, ⟨Or.inr rfl, ⟨Or.inl rfl, ⟨Or.inl rfl, ⟨Or.inl rfl, ⟨Or.inl rfl, ⟨Or.inl rfl, ⟨Or.inl rfl, ⟨Or.inl rfl, ⟨Or.inl rfl, ⟨Or.inl rfl, ⟨Or.inl rfl, ⟨Or.inl rfl, ⟨Or.inl rfl, ⟨Or.inl rfl, ⟨Or.inl rfl, ⟨Or.inl rfl, ⟨Or.inl rfl, ⟨Or.inl rfl, trivial⟩⟩⟩⟩⟩⟩⟩⟩⟩⟩⟩⟩⟩⟩⟩⟩⟩⟩⟩⟩⟩⟩⟩⟩⟩⟩ ?_
        exact ih htm _ hI2
      · refine zx_aload_n dL_law_101 rfl ?_
        refine zx_iload dL_law_102 rfl ?_
        refine zx_iload dL_law_104 rfl ?_
        refine zx_callV (y1 := iX10_as) dL_law_106 lL_62 vX10_as rc_0 (mX10_as hC (z := (t : Int)) (k := (k : Int)) (by omega) (by omega)) rfl rfl (Nat.le_of_ble_eq_true rfl) ?_
        intro v M3 he
        obtain ⟨rfl, hf, hC3⟩ := he
        have hI3 := lI_z hf hC3 hI2
        have hkr := hC.2.1.2.2.2.2.2.1 t (by omega)
        refine zx_iload dL_law_109 rfl ?_
        refine zy_if_eq (tgt := 145) dL_law_111 (by decide) (by omega) (fun h_111 => ?_) (fun h_111 => ?_)
        · rw [lk_as1 hI2 htm (by omega) (by omega)]
          refine zx_iload dL_law_145 rfl ?_
          refine zx_goto (tgt := 151) dL_law_147 (by decide) ?_
          refine zy_icmp_eq (tgt := 156) dL_law_151 (by decide) (by omega) (fun h_151 => ?_) (fun h_151 => ?_)
          · refine zy_iinc dL_law_156 rfl rfl ?_
            refine zx_goto (tgt := 95) dL_law_159 (by decide) ?_
            exact ih2 (by omega) _ hI3
          · exact absurd rfl h_151
        · refine zx_iload dL_law_114 rfl ?_
          refine zx_aload dL_law_116 rfl ?_
          refine zx_bipush (v := zn_I 10) dL_law_118 (by decide) ?_
          refine zx_iload dL_law_120 rfl ?_
          refine zy_imul dL_law_122 ?_
          refine zy_iald (i := 10 * t) dL_law_123 rfl (by decide) (by omega) (by omega) (((lB_f hf hB (by decide)) t htm).1.1) ?_
          refine zy_icmp_eq (tgt := 145) dL_law_124 (by decide) (by omega) (fun h_124 => ?_) (fun h_124 => ?_)
          · rw [lk_as1 hI2 htm (by omega) (by omega)]
            refine zx_iload dL_law_145 rfl ?_
            refine zx_goto (tgt := 151) dL_law_147 (by decide) ?_
            refine zy_icmp_eq (tgt := 156) dL_law_151 (by decide) (by omega) (fun h_151 => ?_) (fun h_151 => ?_)
            · refine zy_iinc dL_law_156 rfl rfl ?_
              refine zx_goto (tgt := 95) dL_law_159 (by decide) ?_
              exact ih2 (by omega) _ hI3
            · exact absurd rfl h_151
          · refine zx_iload dL_law_127 rfl ?_
            refine zx_iconst (v := zn_I 3) dL_law_129 rfl ?_
            refine zy_icmp_ne (tgt := 150) dL_law_130 (by decide) (by omega) (fun h_130 => ?_) (fun h_130 => ?_)
            · rw [lk_as0 hI2 htm (by omega) (by omega)]
              refine zx_iconst (v := zn_I (-1)) dL_law_150 rfl ?_
              refine zy_icmp_eq (tgt := 156) dL_law_151 (by decide) (by omega) (fun h_151 => ?_) (fun h_151 => ?_)
              · refine zy_iinc dL_law_156 rfl rfl ?_
                refine zx_goto (tgt := 95) dL_law_159 (by decide) ?_
                exact ih2 (by omega) _ hI3
              · exact absurd rfl h_151
            · refine zx_aload dL_law_133 rfl ?_
              refine zx_bipush (v := zn_I 10) dL_law_135 (by decide) ?_
              refine zx_iload dL_law_137 rfl ?_
              refine zy_imul dL_law_139 ?_
              refine zy_iald (i := 10 * t) dL_law_140 rfl (by decide) (by omega) (by omega) (((lB_f hf hB (by decide)) t htm).1.1) ?_
              refine zx_iconst (v := zn_I 4) dL_law_141 rfl ?_
              refine zy_icmp_ne (tgt := 150) dL_law_142 (by decide) (by omega) (fun h_142 => ?_) (fun h_142 => ?_)
              · rw [lk_as0 hI2 htm (by omega) (by omega)]
                refine zx_iconst (v := zn_I (-1)) dL_law_150 rfl ?_
                refine zy_icmp_eq (tgt := 156) dL_law_151 (by decide) (by omega) (fun h_151 => ?_) (fun h_151 => ?_)
                · refine zy_iinc dL_law_156 rfl rfl ?_
                  refine zx_goto (tgt := 95) dL_law_159 (by decide) ?_
                  exact ih2 (by omega) _ hI3
                · exact absurd rfl h_151
              · rw [lk_as1 hI2 htm (by omega) (by omega)]
                refine zx_iload dL_law_145 rfl ?_
                refine zx_goto (tgt := 151) dL_law_147 (by decide) ?_
                refine zy_icmp_eq (tgt := 156) dL_law_151 (by decide) (by omega) (fun h_151 => ?_) (fun h_151 => ?_)
                · refine zy_iinc dL_law_156 rfl rfl ?_
                  refine zx_goto (tgt := 95) dL_law_159 (by decide) ?_
                  exact ih2 (by omega) _ hI3
                · exact absurd rfl h_151
    refine zx_iload dL_law_85 rfl ?_
    refine zx_iload dL_law_87 rfl ?_
    refine zy_icmp_ge (tgt := 168) dL_law_89 (by decide) (by omega) (fun h_89 => ?_) (fun h_89 => ?_)
    · refine zx_weak (L1 := [.ref 37, .ref 0, .ref 33, .ref 34, .ref 35, .ref 36, .int (zn_I (n : Int)), .int (zn_I (m : Int)), .retAddr 0, .retAddr 0, .retAddr 0, .retAddr 0, .retAddr 0, .retAddr 0, .retAddr 0, .retAddr 0, .retAddr 0, .retAddr 0, .retAddr 0, .retAddr 0, .retAddr 0, .retAddr 0, .retAddr 0, .retAddr 0, .retAddr 0, .retAddr 0]) ⟨Or.inr rfl, ⟨Or.inr rfl, ⟨Or.inr rfl, ⟨Or.inr rfl, ⟨Or.inr rfl, ⟨Or.inr rfl, ⟨Or.inr rfl, ⟨Or.inr rfl, ⟨Or.inl rfl, ⟨Or.inl rfl, ⟨Or.inl rfl, ⟨Or.inl rfl, ⟨Or.inl rfl, ⟨Or.inl rfl, ⟨Or.inl rfl, ⟨Or.inl rfl, ⟨Or.inl rfl, ⟨Or.inl rfl, ⟨Or.inl rfl, ⟨Or.inl rfl, ⟨Or.inl rfl, ⟨Or.inl rfl, ⟨Or.inl rfl, ⟨Or.inl rfl, ⟨Or.inl rfl, ⟨Or.inl rfl, trivial⟩⟩⟩⟩⟩⟩⟩⟩⟩⟩⟩⟩⟩⟩⟩⟩⟩⟩⟩⟩⟩⟩⟩⟩⟩⟩ ?_
      exact next _ hI1
    · refine zx_iconst (v := zn_I 0) dL_law_92 rfl ?_
      refine zx_istore dL_law_93 rfl (Nat.le_of_ble_eq_true rfl) ?_
      exact inner (by omega) 0 (Nat.zero_le _) _ hI1
  exact loop 0 (Nat.zero_le _) M hI
set_option maxRecDepth 100000 in
set_option maxHeartbeats 600000 in
theorem lw_about {l : zw_Lh} {σ : zZ} {m n : Nat} {M : zw_M} {u x c : Nat} (hI : lI M σ m n) (hm6 : 1 ≤ m ∧ m ≤ 6) (next : ∀ (M1 : zw_M), lI M1 σ m n → zw_X l 7 iL_law lQ 690 [.ref 37, .ref 0, .ref 33, .ref 34, .ref 35, .ref 36, .int (zn_I (n : Int)), .int (zn_I (m : Int)), .int (zn_I (u : Int)), .int (zn_I (x : Int)), .retAddr 0, .retAddr 0, .retAddr 0, .int (zn_I (c : Int)), .retAddr 0, .int (zn_I (((zt_pl σ.2.1 m).length : Nat) : Int)), .retAddr 0, .retAddr 0, .retAddr 0, .retAddr 0, .retAddr 0, .retAddr 0, .retAddr 0, .retAddr 0, .retAddr 0, .retAddr 0] [] M1) : zw_X l 7 iL_law lQ 547 [.ref 37, .ref 0, .ref 33, .ref 34, .ref 35, .ref 36, .int (zn_I (n : Int)), .int (zn_I (m : Int)), .int (zn_I (u : Int)), .int (zn_I (x : Int)), .retAddr 0, .retAddr 0, .retAddr 0, .int (zn_I (c : Int)), .retAddr 0, .retAddr 0, .retAddr 0, .retAddr 0, .retAddr 0, .retAddr 0, .retAddr 0, .retAddr 0, .retAddr 0, .retAddr 0, .retAddr 0, .retAddr 0] [] M := by
  have loop : ∀ t : Nat, t ≤ m → ∀ (M1 : zw_M), lI M1 σ m n → zw_X l 7 iL_law lQ 553 [.ref 37, .ref 0, .ref 33, .ref 34, .ref 35, .ref 36, .int (zn_I (n : Int)), .int (zn_I (m : Int)), .int (zn_I (u : Int)), .int (zn_I (x : Int)), .retAddr 0, .retAddr 0, .retAddr 0, .int (zn_I (c : Int)), .retAddr 0, .int (zn_I (((zt_pl σ.2.1 t).length : Nat) : Int)), .int (zn_I (t : Int)), .retAddr 0, .retAddr 0, .retAddr 0, .retAddr 0, .retAddr 0, .retAddr 0, .retAddr 0, .retAddr 0, .retAddr 0] [] M1 := by
    refine zw_loop m (P := fun t => ∀ (M1 : zw_M), lI M1 σ m n → zw_X l 7 iL_law lQ 553 [.ref 37, .ref 0, .ref 33, .ref 34, .ref 35, .ref 36, .int (zn_I (n : Int)), .int (zn_I (m : Int)), .int (zn_I (u : Int)), .int (zn_I (x : Int)), .retAddr 0, .retAddr 0, .retAddr 0, .int (zn_I (c : Int)), .retAddr 0, .int (zn_I (((zt_pl σ.2.1 t).length : Nat) : Int)), .int (zn_I (t : Int)), .retAddr 0, .retAddr 0, .retAddr 0, .retAddr 0, .retAddr 0, .retAddr 0, .retAddr 0, .retAddr 0, .retAddr 0] [] M1) (fun t ht ih M1 hI1 => ?_)
    have inner (htm : t < m) : ∀ k : Nat, k ≤ 8 → ∀ (M2 : zw_M), lI M2 σ m n → zw_X l 7 iL_law lQ 642 [.ref 37, .ref 0, .ref 33, .ref 34, .ref 35, .ref 36, .int (zn_I (n : Int)), .int (zn_I (m : Int)), .int (zn_I (u : Int)), .int (zn_I (x : Int)), .retAddr 0, .retAddr 0, .retAddr 0, .int (zn_I (c : Int)), .retAddr 0, .int (zn_I (((zt_pl σ.2.1 (t + 1)).length : Nat) : Int)), .int (zn_I (t : Int)), .int (zn_I (k : Int)), .retAddr 0, .retAddr 0, .retAddr 0, .retAddr 0, .retAddr 0, .retAddr 0, .retAddr 0, .retAddr 0] [] M2 := by
      refine zw_loop 8 (P := fun k => ∀ (M2 : zw_M), lI M2 σ m n → zw_X l 7 iL_law lQ 642 [.ref 37, .ref 0, .ref 33, .ref 34, .ref 35, .ref 36, .int (zn_I (n : Int)), .int (zn_I (m : Int)), .int (zn_I (u : Int)), .int (zn_I (x : Int)), .retAddr 0, .retAddr 0, .retAddr 0, .int (zn_I (c : Int)), .retAddr 0, .int (zn_I (((zt_pl σ.2.1 (t + 1)).length : Nat) : Int)), .int (zn_I (t : Int)), .int (zn_I (k : Int)), .retAddr 0, .retAddr 0, .retAddr 0, .retAddr 0, .retAddr 0, .retAddr 0, .retAddr 0, .retAddr 0] [] M2) (fun k hk ih2 M2 hI2 => ?_)
      obtain ⟨hC, hA, hB, hm, hn⟩ := id hI2
      refine zx_iload dL_law_642 rfl ?_
      refine zx_bipush (v := zn_I 8) dL_law_644 (by decide) ?_
      refine zy_icmp_ge (tgt := 684) dL_law_646 (by decide) (by omega) (fun h_646 => ?_) (fun h_646 => ?_)
      · refine zy_iinc dL_law_684 rfl rfl ?_
        refine zx_goto (tgt := 553) dL_law_687 (by decide) ?_
        refine zx_weak (L1 := [.ref 37, .ref 0, .ref 33, .ref 34, .ref 35, .ref 36, .int (zn_I (n : Int)), .int (zn_I (m : Int)), .int (zn_I (u : Int)), .int (zn_I (x : Int)), .retAddr 0, .retAddr 0, .retAddr 0, .int (zn_I (c : Int)), .retAddr 0, .int (zn_I (((zt_pl σ.2.1 (t + 1)).length : Nat) : Int)), .int (zn_I ((t + 1 : Nat) : Int)), .retAddr 0, .retAddr 0, .retAddr 0, .retAddr 0, .retAddr 0, .retAddr 0, .retAddr 0, .retAddr 0, .retAddr 0]) ⟨Or.inr rfl, ⟨Or.inr rfl, ⟨Or.inr rfl, ⟨Or.inr rfl, ⟨Or.inr rfl, ⟨Or.inr rfl, ⟨Or.inr rfl, ⟨Or.inr rfl, ⟨Or.inr rfl, ⟨Or.inr rfl, ⟨Or.inl rfl, ⟨Or.inl rfl, ⟨Or.inl rfl, ⟨Or.inr rfl, ⟨Or.inl rfl, ⟨Or.inr rfl, ⟨Or.inr rfl, ⟨Or.inl rfl, ⟨Or.inl rfl, ⟨Or.inl rfl, ⟨Or.inl rfl, ⟨Or.inl rfl, ⟨Or.inl rfl, ⟨Or.inl rfl, ⟨Or.inl rfl, ⟨Or.inl rfl, trivial⟩⟩⟩⟩⟩⟩⟩⟩⟩⟩⟩⟩⟩⟩⟩⟩⟩⟩⟩⟩⟩⟩⟩⟩⟩⟩ ?_
        exact ih htm _ hI2
      · refine zx_aload_n dL_law_649 rfl ?_
        refine zx_iload dL_law_650 rfl ?_
        refine zx_bipush (v := zn_I 10) dL_law_652 (by decide) ?_
        refine zx_iload dL_law_654 rfl ?_
        refine zy_iadd dL_law_656 ?_
        refine zx_callV (y1 := iX10_about) dL_law_657 lL_71 vX10_about rc_0 (mX10_about hC (z := (t : Int)) (w := 10 + (k : Int)) (by omega) (by omega)) rfl rfl (Nat.le_of_ble_eq_true rfl) ?_
        intro v M3 he
        obtain ⟨rfl, hf5, hC5⟩ := he
        have hI5 := lI_z hf5 hC5 hI2
        have hB5 := hI5.2.2.1
        rw [lk_abq hI2 htm (by omega)]
        have hpr := hC.2.1.2.2.2.2.2.2.2 t (by omega) k (by omega)
        have hp30 := zp_30 hC.1.1
        refine zx_aload dL_law_660 rfl ?_
        refine zx_bipush (v := zn_I 10) dL_law_662 (by decide) ?_
        refine zx_iload dL_law_664 rfl ?_
        refine zy_imul dL_law_666 ?_
        refine zx_iconst (v := zn_I 2) dL_law_667 rfl ?_
        refine zy_iadd dL_law_668 ?_
        refine zx_iload dL_law_669 rfl ?_
        refine zy_iadd dL_law_671 ?_
        refine zy_iald (i := 10 * t + 2 + k) dL_law_672 rfl (by decide) (by omega) (by omega) ((hB5 t htm).2 k (by omega)) ?_
        refine zy_icmp_eq (tgt := 678) dL_law_673 (by decide) (by omega) (fun h_673 => ?_) (fun h_673 => ?_)
        · refine zy_iinc dL_law_678 rfl rfl ?_
          refine zx_goto (tgt := 642) dL_law_681 (by decide) ?_
          exact ih2 (by omega) _ hI5
        · exact absurd rfl h_673
    obtain ⟨hC, hA, hB, hm, hn⟩ := id hI1
    have add (htm : t < m) : ∀ z : Int, (((zt_pl σ.2.1 t).length : Nat) : Int) + z = (((zt_pl σ.2.1 (t + 1)).length : Nat) : Int) → zw_X l 7 iL_law lQ 579 [.ref 37, .ref 0, .ref 33, .ref 34, .ref 35, .ref 36, .int (zn_I (n : Int)), .int (zn_I (m : Int)), .int (zn_I (u : Int)), .int (zn_I (x : Int)), .retAddr 0, .retAddr 0, .retAddr 0, .int (zn_I (c : Int)), .retAddr 0, .int (zn_I (((zt_pl σ.2.1 t).length : Nat) : Int)), .int (zn_I (t : Int)), .retAddr 0, .retAddr 0, .retAddr 0, .retAddr 0, .retAddr 0, .retAddr 0, .retAddr 0, .retAddr 0, .retAddr 0] [.int (zn_I z), .int (zn_I (((zt_pl σ.2.1 t).length : Nat) : Int))] M1 := by
      intro z hz
      have hkr := hC.2.1.2.2.2.2.2.1 t (by omega)
      have hwr := zt_w_rng hC.2.1 (show t < σ.2.1.1 by omega)
      have hwr2 := hC.2.1.2.2.2.2.2.2.1 t (by omega)
      refine zy_iadd dL_law_579 ?_
      refine zy_top (congrArg zn_I hz) ?_
      refine zx_istore dL_law_580 rfl (Nat.le_of_ble_eq_true rfl) ?_
      refine zx_aload_n dL_law_582 rfl ?_
      refine zx_iload dL_law_583 rfl ?_
      refine zx_iconst (v := zn_I 0) dL_law_585 rfl ?_
      refine zx_callV (y1 := iX10_about) dL_law_586 lL_71 vX10_about rc_0 (mX10_about hC (z := (t : Int)) (w := 0) (by omega) (by omega)) rfl rfl (Nat.le_of_ble_eq_true rfl) ?_
      intro v M6 he
      obtain ⟨rfl, hf6, hC6⟩ := he
      have hI6 := lI_z hf6 hC6 hI1
      have hB6 := hI6.2.2.1
      rw [lk_ab0 hI1 htm]
      refine zx_aload dL_law_589 rfl ?_
      refine zx_bipush (v := zn_I 10) dL_law_591 (by decide) ?_
      refine zx_iload dL_law_593 rfl ?_
      refine zy_imul dL_law_595 ?_
      refine zy_iald (i := 10 * t) dL_law_596 rfl (by decide) (by omega) (by omega) ((hB6 t htm).1.1) ?_
      refine zy_icmp_ne (tgt := 637) dL_law_597 (by decide) (by omega) (fun h_597 => ?_) (fun h_597 => ?_)
      · exact absurd rfl h_597
      · refine zx_aload_n dL_law_600 rfl ?_
        refine zx_iload dL_law_601 rfl ?_
        refine zx_iconst (v := zn_I 1) dL_law_603 rfl ?_
        refine zx_callV (y1 := iX10_about) dL_law_604 lL_71 vX10_about rc_0 (mX10_about hC6 (z := (t : Int)) (w := 1) (by omega) (by omega)) rfl rfl (Nat.le_of_ble_eq_true rfl) ?_
        intro v M7 he
        obtain ⟨rfl, hf7, hC7⟩ := he
        have hI7 := lI_z hf7 hC7 hI6
        have hB7 := hI7.2.2.1
        rw [lk_ab1 hI6 htm]
        refine zx_aload dL_law_607 rfl ?_
        refine zx_bipush (v := zn_I 10) dL_law_609 (by decide) ?_
        refine zx_iload dL_law_611 rfl ?_
        refine zy_imul dL_law_613 ?_
        refine zx_iconst (v := zn_I 1) dL_law_614 rfl ?_
        refine zy_iadd dL_law_615 ?_
        refine zy_iald (i := 10 * t + 1) dL_law_616 rfl (by decide) (by omega) (by omega) ((hB7 t htm).1.2) ?_
        refine zy_icmp_ne (tgt := 637) dL_law_617 (by decide) (by omega) (fun h_617 => ?_) (fun h_617 => ?_)
        · exact absurd rfl h_617
        · refine zx_aload_n dL_law_620 rfl ?_
          refine zx_iload dL_law_621 rfl ?_
          refine zx_iconst (v := zn_I 2) dL_law_623 rfl ?_
          refine zx_callV (y1 := iX10_about) dL_law_624 lL_71 vX10_about rc_0 (mX10_about hC7 (z := (t : Int)) (w := 2) (by omega) (by omega)) rfl rfl (Nat.le_of_ble_eq_true rfl) ?_
          intro v M8 he
          obtain ⟨rfl, hf8, hC8⟩ := he
          have hI8 := lI_z hf8 hC8 hI7
          have hB8 := hI8.2.2.1
          rw [lk_ab2 hI7 htm]
          refine zx_aload dL_law_627 rfl ?_
          refine zx_iload dL_law_629 rfl ?_
          refine zx_callS (y1 := iL_weighs) dL_law_631 lL_48 sL_weighs (mL_weighs hC8.2.1 hB8 (by omega) (by omega) (t := t) htm) rfl rfl (Nat.le_of_ble_eq_true rfl) ?_
          refine zk_i ?_
          refine zy_icmp_eq (tgt := 639) dL_law_634 (by decide) (by omega) (fun h_634 => ?_) (fun h_634 => ?_)
          · refine zx_iconst (v := zn_I 0) dL_law_639 rfl ?_
            refine zx_istore dL_law_640 rfl (Nat.le_of_ble_eq_true rfl) ?_
            exact inner htm 0 (Nat.zero_le _) _ hI8
          · exact absurd rfl h_634
    refine zx_iload dL_law_553 rfl ?_
    refine zx_iload dL_law_555 rfl ?_
    refine zy_icmp_ge (tgt := 690) dL_law_557 (by decide) (by omega) (fun h_557 => ?_) (fun h_557 => ?_)
    · have et : t = m := by omega
      subst et
      refine zx_weak (L1 := [.ref 37, .ref 0, .ref 33, .ref 34, .ref 35, .ref 36, .int (zn_I (n : Int)), .int (zn_I (t : Int)), .int (zn_I (u : Int)), .int (zn_I (x : Int)), .retAddr 0, .retAddr 0, .retAddr 0, .int (zn_I (c : Int)), .retAddr 0, .int (zn_I (((zt_pl σ.2.1 t).length : Nat) : Int)), .retAddr 0, .retAddr 0, .retAddr 0, .retAddr 0, .retAddr 0, .retAddr 0, .retAddr 0, .retAddr 0, .retAddr 0, .retAddr 0]) ⟨Or.inr rfl, ⟨Or.inr rfl, ⟨Or.inr rfl, ⟨Or.inr rfl, ⟨Or.inr rfl, ⟨Or.inr rfl, ⟨Or.inr rfl, ⟨Or.inr rfl, ⟨Or.inr rfl, ⟨Or.inr rfl, ⟨Or.inl rfl, ⟨Or.inl rfl, ⟨Or.inl rfl, ⟨Or.inr rfl, ⟨Or.inl rfl, ⟨Or.inr rfl, ⟨Or.inl rfl, ⟨Or.inl rfl, ⟨Or.inl rfl, ⟨Or.inl rfl, ⟨Or.inl rfl, ⟨Or.inl rfl, ⟨Or.inl rfl, ⟨Or.inl rfl, ⟨Or.inl rfl, ⟨Or.inl rfl, trivial⟩⟩⟩⟩⟩⟩⟩⟩⟩⟩⟩⟩⟩⟩⟩⟩⟩⟩⟩⟩⟩⟩⟩⟩⟩⟩ ?_
      exact next _ hI1
    · have htm : t < m := by omega
      have hkr := hC.2.1.2.2.2.2.2.1 t (by omega)
      have hlt := lk_plle (τ := σ.2.1) t
      refine zx_iload dL_law_560 rfl ?_
      refine zx_aload dL_law_562 rfl ?_
      refine zx_bipush (v := zn_I 10) dL_law_564 (by decide) ?_
      refine zx_iload dL_law_566 rfl ?_
      refine zy_imul dL_law_568 ?_
      refine zy_iald (i := 10 * t) dL_law_569 rfl (by decide) (by omega) (by omega) ((hB t (by omega)).1.1) ?_
      refine zx_iconst (v := zn_I 2) dL_law_570 rfl ?_
      refine zy_icmp_le (tgt := 578) dL_law_571 (by decide) (by omega) (fun h_571 => ?_) (fun h_571 => ?_)
      · refine zx_iconst (v := zn_I 0) dL_law_578 rfl ?_
        exact add htm 0 (by rw [lk_pl0 (fun r => by rcases r with r | r <;> omega)]; omega)
      · refine zx_iconst (v := zn_I 1) dL_law_574 rfl ?_
        refine zx_goto (tgt := 579) dL_law_575 (by decide) ?_
        exact add htm 1 (by rw [lk_pl (by show _ ∨ _; omega)]; omega)
  refine zx_iconst (v := zn_I 0) dL_law_547 rfl ?_
  refine zx_istore dL_law_548 rfl (Nat.le_of_ble_eq_true rfl) ?_
  refine zx_iconst (v := zn_I 0) dL_law_550 rfl ?_
  refine zx_istore dL_law_551 rfl (Nat.le_of_ble_eq_true rfl) ?_
  exact loop 0 (Nat.zero_le _) M hI
set_option maxRecDepth 100000 in
set_option maxHeartbeats 600000 in
theorem lw_leans {l : zw_Lh} {σ : zZ} {m n : Nat} {M : zw_M} {u x c : Nat} {pp : Int32} (hI : lI M σ m n) (hm6 : 1 ≤ m ∧ m ≤ 6) (hc : c < n) (next : ∀ (M1 : zw_M), lI M1 σ m n → zw_X l 7 iL_law lQ 862 [.ref 37, .ref 0, .ref 33, .ref 34, .ref 35, .ref 36, .int (zn_I (n : Int)), .int (zn_I (m : Int)), .int (zn_I (u : Int)), .int (zn_I (x : Int)), .retAddr 0, .retAddr 0, .retAddr 0, .int (zn_I (c : Int)), .retAddr 0, .int pp, .retAddr 0, .retAddr 0, .retAddr 0, .retAddr 0, .retAddr 0, .retAddr 0, .retAddr 0, .retAddr 0, .retAddr 0, .retAddr 0] [] M1) : zw_X l 7 iL_law lQ 690 [.ref 37, .ref 0, .ref 33, .ref 34, .ref 35, .ref 36, .int (zn_I (n : Int)), .int (zn_I (m : Int)), .int (zn_I (u : Int)), .int (zn_I (x : Int)), .retAddr 0, .retAddr 0, .retAddr 0, .int (zn_I (c : Int)), .retAddr 0, .int pp, .retAddr 0, .retAddr 0, .retAddr 0, .retAddr 0, .retAddr 0, .retAddr 0, .retAddr 0, .retAddr 0, .retAddr 0, .retAddr 0] [] M := by
  have loop : ∀ k : Nat, k ≤ 8 → ∀ (M1 : zw_M), lI M1 σ m n → zw_X l 7 iL_law lQ 693 [.ref 37, .ref 0, .ref 33, .ref 34, .ref 35, .ref 36, .int (zn_I (n : Int)), .int (zn_I (m : Int)), .int (zn_I (u : Int)), .int (zn_I (x : Int)), .retAddr 0, .retAddr 0, .retAddr 0, .int (zn_I (c : Int)), .retAddr 0, .int pp, .int (zn_I (k : Int)), .retAddr 0, .retAddr 0, .retAddr 0, .retAddr 0, .retAddr 0, .retAddr 0, .retAddr 0, .retAddr 0, .retAddr 0] [] M1 := by
    refine zw_loop 8 (P := fun k => ∀ (M1 : zw_M), lI M1 σ m n → zw_X l 7 iL_law lQ 693 [.ref 37, .ref 0, .ref 33, .ref 34, .ref 35, .ref 36, .int (zn_I (n : Int)), .int (zn_I (m : Int)), .int (zn_I (u : Int)), .int (zn_I (x : Int)), .retAddr 0, .retAddr 0, .retAddr 0, .int (zn_I (c : Int)), .retAddr 0, .int pp, .int (zn_I (k : Int)), .retAddr 0, .retAddr 0, .retAddr 0, .retAddr 0, .retAddr 0, .retAddr 0, .retAddr 0, .retAddr 0, .retAddr 0] [] M1) (fun k hk ih M1 hI1 => ?_)
    obtain ⟨hC, hA, hB, hm, hn⟩ := id hI1
    have h30 := zp_30 hC.1.1
    have aft (hk8 : k < 8) : zw_X l 7 iL_law lQ 782 [.ref 37, .ref 0, .ref 33, .ref 34, .ref 35, .ref 36, .int (zn_I (n : Int)), .int (zn_I (m : Int)), .int (zn_I (u : Int)), .int (zn_I (x : Int)), .retAddr 0, .retAddr 0, .retAddr 0, .int (zn_I (c : Int)), .retAddr 0, .int pp, .int (zn_I (k : Int)), .int (zn_I (zl_e σ.1 σ.2.1 k σ.2.1.1)), .int (zn_I (zl_s σ.1 σ.2.1 k σ.2.1.1)), .int (zn_I ((σ.2.1.1 : Nat) : Int)), .retAddr 0, .retAddr 0, .retAddr 0, .retAddr 0, .retAddr 0, .retAddr 0] [] M1 := by
      have hqu : zqu (k : Int) := ⟨by omega, by omega⟩
      have hrg := zl_rng hC.1.1 hC.2.1 hk8
      refine zy_loc (L1 := [.ref 37, .ref 0, .ref 33, .ref 34, .ref 35, .ref 36, .int (zn_I (n : Int)), .int (zn_I (m : Int)), .int (zn_I (u : Int)), .int (zn_I (x : Int)), .retAddr 0, .retAddr 0, .retAddr 0, .int (zn_I (c : Int)), .retAddr 0, .int pp, .int (zn_I (k : Int)), .int (zn_I (zl_E σ.1 σ.2.1 k)), .int (zn_I (zl_S σ.1 σ.2.1 k)), .int (zn_I ((σ.2.1.1 : Nat) : Int)), .retAddr 0, .retAddr 0, .retAddr 0, .retAddr 0, .retAddr 0, .retAddr 0]) rfl ?_
      refine zx_aload_n dL_law_782 rfl ?_
      refine zx_iload dL_law_783 rfl ?_
      refine zx_iconst (v := zn_I 0) dL_law_785 rfl ?_
      refine zx_callV (y1 := iX10_leans) dL_law_786 lL_74 vX10_leans rc_0 (mX10_leans hC (q := (k : Int)) (w := 0) (by omega) (by omega)) rfl rfl (Nat.le_of_ble_eq_true rfl) ?_
      intro v M2 he
      obtain ⟨rfl, hf2, hC2⟩ := he
      have hI2 := lI_z hf2 hC2 hI1
      rw [show zk_leans σ (k : Int) 0 = zl_E σ.1 σ.2.1 k from by rw [zk_leans, if_neg (fun r => r hqu), if_pos rfl, Int.toNat_natCast]]
      refine zx_iload dL_law_789 rfl ?_
      refine zy_icmp_ne (tgt := 854) dL_law_791 (by decide) (by omega) (fun h_791 => ?_) (fun h_791 => ?_)
      · exact absurd rfl h_791
      · refine zx_aload_n dL_law_794 rfl ?_
        refine zx_iload dL_law_795 rfl ?_
        refine zx_iconst (v := zn_I 1) dL_law_797 rfl ?_
        refine zx_callV (y1 := iX10_leans) dL_law_798 lL_74 vX10_leans rc_0 (mX10_leans hC2 (q := (k : Int)) (w := 1) (by omega) (by omega)) rfl rfl (Nat.le_of_ble_eq_true rfl) ?_
        intro v M3 he
        obtain ⟨rfl, hf3, hC3⟩ := he
        have hI3 := lI_z hf3 hC3 hI2
        rw [show zk_leans σ (k : Int) 1 = zl_S σ.1 σ.2.1 k from by rw [zk_leans, if_neg (fun r => r hqu), if_neg (by decide), if_pos rfl, Int.toNat_natCast]]
        refine zx_iload dL_law_801 rfl ?_
        refine zy_icmp_ne (tgt := 854) dL_law_803 (by decide) (by omega) (fun h_803 => ?_) (fun h_803 => ?_)
        · exact absurd rfl h_803
        · refine zx_aload_n dL_law_806 rfl ?_
          refine zx_iload dL_law_807 rfl ?_
          refine zx_callV (y1 := iX10_wet) dL_law_809 lL_77 vX10_wet rc_0 (mX10_wet hC3 (q := (k : Int)) (by omega)) rfl rfl (Nat.le_of_ble_eq_true rfl) ?_
          intro v M4 he
          obtain ⟨rfl, hf4, hC4⟩ := he
          have hI4 := lI_z hf4 hC4 hI3
          rw [show zk_wet σ (k : Int) = (zwet σ.1 σ.2.1 k : Int) from by rw [zk_wet, if_pos hqu, Int.toNat_natCast]]
          refine zx_aload_n dL_law_812 rfl ?_
          refine zx_aload_n dL_law_813 rfl ?_
          refine zx_iload dL_law_814 rfl ?_
          refine zx_iload dL_law_816 rfl ?_
          refine zx_callS (y1 := iL_wet) dL_law_818 lL_51 sL_wet (mL_wet hC4.1.1 hI4.2.1 (lk_hH hC4) (by omega) (by omega)) rfl rfl (Nat.le_of_ble_eq_true rfl) ?_
          refine zk_i ?_
          refine zy_icmp_ne (tgt := 854) dL_law_821 (by decide) (by have := zwet_30 hC.1.1 σ.2.1 k; unfold zwet at this ⊢; omega) (fun h_821 => ?_) (fun h_821 => ?_)
          · exact absurd rfl h_821
          · refine zx_aload_n dL_law_824 rfl ?_
            refine zx_iload dL_law_825 rfl ?_
            refine zx_iload dL_law_827 rfl ?_
            refine zx_callV (y1 := iX10_dip) dL_law_829 lL_79 vX10_dip rc_0 (mX10_dip hC4 (s := (c : Int)) (q := (k : Int)) (by omega) (by omega)) rfl rfl (Nat.le_of_ble_eq_true rfl) ?_
            intro v M5 he
            obtain ⟨rfl, hf5, hC5⟩ := he
            have hI5 := lI_z hf5 hC5 hI4
            rw [show zk_dip σ (c : Int) (k : Int) = zp_dip σ.1 c (zl_E σ.1 σ.2.1 k) (zl_S σ.1 σ.2.1 k) from by rw [zk_dip, if_neg (fun r => r ⟨⟨by omega, by omega⟩, hqu⟩), Int.toNat_natCast, Int.toNat_natCast]]
            refine zx_iload dL_law_832 rfl ?_
            refine zx_aload_n dL_law_834 rfl ?_
            refine zx_iload dL_law_835 rfl ?_
            refine zx_callS (y1 := iL_east) dL_law_837 lL_42 sL_east (mL_east hC5.1.1 hI5.2.1 (c := c) (by omega)) rfl rfl (Nat.le_of_ble_eq_true rfl) ?_
            refine zk_i ?_
            refine zy_imul dL_law_840 ?_
            refine zx_iload dL_law_841 rfl ?_
            refine zx_aload_n dL_law_843 rfl ?_
            refine zx_iload dL_law_844 rfl ?_
            refine zx_callS (y1 := iL_south) dL_law_846 lL_45 sL_south (mL_south hC5.1.1 hI5.2.1 (c := c) (by omega)) rfl rfl (Nat.le_of_ble_eq_true rfl) ?_
            refine zk_i ?_
            refine zy_imul dL_law_849 ?_
            refine zy_iadd dL_law_850 ?_
            refine zy_icmp_eq (tgt := 856) dL_law_851 (by decide) (by have := zp_dip_rng (a := zl_E σ.1 σ.2.1 k) (b := zl_S σ.1 σ.2.1 k) (B := 8000) hC.1.1 (show c < zp_n σ.1 by omega) (by omega) (by omega); unfold zp_dip at this ⊢; omega) (fun h_851 => ?_) (fun h_851 => ?_)
            · refine zy_iinc dL_law_856 rfl rfl ?_
              refine zx_goto (tgt := 693) dL_law_859 (by decide) ?_
              refine zx_weak (L1 := [.ref 37, .ref 0, .ref 33, .ref 34, .ref 35, .ref 36, .int (zn_I (n : Int)), .int (zn_I (m : Int)), .int (zn_I (u : Int)), .int (zn_I (x : Int)), .retAddr 0, .retAddr 0, .retAddr 0, .int (zn_I (c : Int)), .retAddr 0, .int pp, .int (zn_I ((k + 1 : Nat) : Int)), .retAddr 0, .retAddr 0, .retAddr 0, .retAddr 0, .retAddr 0, .retAddr 0, .retAddr 0, .retAddr 0, .retAddr 0]) ⟨Or.inr rfl, ⟨Or.inr rfl, ⟨Or.inr rfl, ⟨Or.inr rfl, ⟨Or.inr rfl, ⟨Or.inr rfl, ⟨Or.inr rfl, ⟨Or.inr rfl, ⟨Or.inr rfl, ⟨Or.inr rfl, ⟨Or.inl rfl, ⟨Or.inl rfl, ⟨Or.inl rfl, ⟨Or.inr rfl, ⟨Or.inl rfl, ⟨Or.inr rfl, ⟨Or.inr rfl, ⟨Or.inl rfl, ⟨Or.inl rfl, ⟨Or.inl rfl, ⟨Or.inl rfl, ⟨Or.inl rfl, ⟨Or.inl rfl, ⟨Or.inl rfl, ⟨Or.inl rfl, ⟨Or.inl rfl, trivial⟩⟩⟩⟩⟩⟩⟩⟩⟩⟩⟩⟩⟩⟩⟩⟩⟩⟩⟩⟩⟩⟩⟩⟩⟩⟩ ?_
              exact ih hk8 _ hI5
            · exact absurd rfl h_851
    have inner (hk8 : k < 8) : ∀ t : Nat, t ≤ m → zw_X l 7 iL_law lQ 709 [.ref 37, .ref 0, .ref 33, .ref 34, .ref 35, .ref 36, .int (zn_I (n : Int)), .int (zn_I (m : Int)), .int (zn_I (u : Int)), .int (zn_I (x : Int)), .retAddr 0, .retAddr 0, .retAddr 0, .int (zn_I (c : Int)), .retAddr 0, .int pp, .int (zn_I (k : Int)), .int (zn_I (zl_e σ.1 σ.2.1 k t)), .int (zn_I (zl_s σ.1 σ.2.1 k t)), .int (zn_I (t : Int)), .retAddr 0, .retAddr 0, .retAddr 0, .retAddr 0, .retAddr 0, .retAddr 0] [] M1 := by
      refine zw_loop m (P := fun t => zw_X l 7 iL_law lQ 709 [.ref 37, .ref 0, .ref 33, .ref 34, .ref 35, .ref 36, .int (zn_I (n : Int)), .int (zn_I (m : Int)), .int (zn_I (u : Int)), .int (zn_I (x : Int)), .retAddr 0, .retAddr 0, .retAddr 0, .int (zn_I (c : Int)), .retAddr 0, .int pp, .int (zn_I (k : Int)), .int (zn_I (zl_e σ.1 σ.2.1 k t)), .int (zn_I (zl_s σ.1 σ.2.1 k t)), .int (zn_I (t : Int)), .retAddr 0, .retAddr 0, .retAddr 0, .retAddr 0, .retAddr 0, .retAddr 0] [] M1) (fun t ht ih2 => ?_)
      refine zx_iload dL_law_709 rfl ?_
      refine zx_iload dL_law_711 rfl ?_
      refine zy_icmp_ge (tgt := 782) dL_law_713 (by decide) (by omega) (fun h_713 => ?_) (fun h_713 => ?_)
      · have et : t = σ.2.1.1 := by omega
        subst et
        exact aft hk8
      · have htm : t < m := by omega
        have hpl := hC.2.1.2.2.2.2.2.2.2 t (by omega) k hk8
        refine zx_iload dL_law_716 rfl ?_
        refine zx_aload dL_law_718 rfl ?_
        refine zx_iload dL_law_720 rfl ?_
        refine zx_callS (y1 := iL_weighs) dL_law_722 lL_48 sL_weighs (mL_weighs hC.2.1 hB (by omega) (by omega) (t := t) htm) rfl rfl (Nat.le_of_ble_eq_true rfl) ?_
        refine zk_i ?_
        refine zx_aload_n dL_law_725 rfl ?_
        refine zx_aload dL_law_726 rfl ?_
        refine zx_bipush (v := zn_I 10) dL_law_728 (by decide) ?_
        refine zx_iload dL_law_730 rfl ?_
        refine zy_imul dL_law_732 ?_
        refine zx_iconst (v := zn_I 2) dL_law_733 rfl ?_
        refine zy_iadd dL_law_734 ?_
        refine zx_iload dL_law_735 rfl ?_
        refine zy_iadd dL_law_737 ?_
        refine zy_iald (i := 10 * t + 2 + k) dL_law_738 rfl (by decide) (by omega) (by omega) ((hB t (by omega)).2 k hk8) ?_
        refine zx_callS (y1 := iL_east) dL_law_739 lL_42 sL_east (mL_east hC.1.1 hA (c := σ.2.1.2.2.2 t k) hpl) rfl rfl (Nat.le_of_ble_eq_true rfl) ?_
        refine zk_i ?_
        refine zy_imul dL_law_742 ?_
        refine zy_iadd dL_law_743 ?_
        refine zx_istore dL_law_744 rfl (Nat.le_of_ble_eq_true rfl) ?_
        refine zx_iload dL_law_746 rfl ?_
        refine zx_aload dL_law_748 rfl ?_
        refine zx_iload dL_law_750 rfl ?_
        refine zx_callS (y1 := iL_weighs) dL_law_752 lL_48 sL_weighs (mL_weighs hC.2.1 hB (by omega) (by omega) (t := t) htm) rfl rfl (Nat.le_of_ble_eq_true rfl) ?_
        refine zk_i ?_
        refine zx_aload_n dL_law_755 rfl ?_
        refine zx_aload dL_law_756 rfl ?_
        refine zx_bipush (v := zn_I 10) dL_law_758 (by decide) ?_
        refine zx_iload dL_law_760 rfl ?_
        refine zy_imul dL_law_762 ?_
        refine zx_iconst (v := zn_I 2) dL_law_763 rfl ?_
        refine zy_iadd dL_law_764 ?_
        refine zx_iload dL_law_765 rfl ?_
        refine zy_iadd dL_law_767 ?_
        refine zy_iald (i := 10 * t + 2 + k) dL_law_768 rfl (by decide) (by omega) (by omega) ((hB t (by omega)).2 k hk8) ?_
        refine zx_callS (y1 := iL_south) dL_law_769 lL_45 sL_south (mL_south hC.1.1 hA (c := σ.2.1.2.2.2 t k) hpl) rfl rfl (Nat.le_of_ble_eq_true rfl) ?_
        refine zk_i ?_
        refine zy_imul dL_law_772 ?_
        refine zy_iadd dL_law_773 ?_
        refine zx_istore dL_law_774 rfl (Nat.le_of_ble_eq_true rfl) ?_
        refine zy_iinc dL_law_776 rfl rfl ?_
        refine zx_goto (tgt := 709) dL_law_779 (by decide) ?_
        exact ih2 (by omega)
    refine zx_iload dL_law_693 rfl ?_
    refine zx_bipush (v := zn_I 8) dL_law_695 (by decide) ?_
    refine zy_icmp_ge (tgt := 862) dL_law_697 (by decide) (by omega) (fun h_697 => ?_) (fun h_697 => ?_)
    · refine zx_weak (L1 := [.ref 37, .ref 0, .ref 33, .ref 34, .ref 35, .ref 36, .int (zn_I (n : Int)), .int (zn_I (m : Int)), .int (zn_I (u : Int)), .int (zn_I (x : Int)), .retAddr 0, .retAddr 0, .retAddr 0, .int (zn_I (c : Int)), .retAddr 0, .int pp, .retAddr 0, .retAddr 0, .retAddr 0, .retAddr 0, .retAddr 0, .retAddr 0, .retAddr 0, .retAddr 0, .retAddr 0, .retAddr 0]) ⟨Or.inr rfl, ⟨Or.inr rfl, ⟨Or.inr rfl, ⟨Or.inr rfl, ⟨Or.inr rfl, ⟨Or.inr rfl, ⟨Or.inr rfl, ⟨Or.inr rfl, ⟨Or.inr rfl, ⟨Or.inr rfl, ⟨Or.inl rfl, ⟨Or.inl rfl, ⟨Or.inl rfl, ⟨Or.inr rfl, ⟨Or.inl rfl, ⟨Or.inr rfl, ⟨Or.inl rfl, ⟨Or.inl rfl, ⟨Or.inl rfl, ⟨Or.inl rfl, ⟨Or.inl rfl, ⟨Or.inl rfl, ⟨Or.inl rfl, ⟨Or.inl rfl, ⟨Or.inl rfl, ⟨Or.inl rfl, trivial⟩⟩⟩⟩⟩⟩⟩⟩⟩⟩⟩⟩⟩⟩⟩⟩⟩⟩⟩⟩⟩⟩⟩⟩⟩⟩ ?_
      exact next _ hI1
    · refine zx_iconst (v := zn_I 0) dL_law_700 rfl ?_
      refine zx_istore dL_law_701 rfl (Nat.le_of_ble_eq_true rfl) ?_
      refine zx_iconst (v := zn_I 0) dL_law_703 rfl ?_
      refine zx_istore dL_law_704 rfl (Nat.le_of_ble_eq_true rfl) ?_
      refine zx_iconst (v := zn_I 0) dL_law_706 rfl ?_
      refine zx_istore dL_law_707 rfl (Nat.le_of_ble_eq_true rfl) ?_
      exact inner (by omega) 0 (Nat.zero_le _)
  refine zx_iconst (v := zn_I 0) dL_law_690 rfl ?_
  refine zx_istore dL_law_691 rfl (Nat.le_of_ble_eq_true rfl) ?_
  exact loop 0 (Nat.zero_le _) M hI
end
section
/-! THE LAW: who was late -/
def lw_are (τ : zQ) (set : Nat) : Nat → Bool
  | 0 => true
  | t + 1 => lw_are τ set t && (!set.testBit t || decide (zt_per τ t))
def lw_pl (τ : zQ) (Q set t : Nat) : Nat := if set.testBit t = true then τ.2.2.2 t (Q - 1) else τ.2.2.2 t Q
def lw_W (π : zP) (τ : zQ) (Q m set : Nat) : Int := if lw_are τ set m = true then ((zp_bits π (lE π τ (lw_pl τ Q set) m) (lT π τ (lw_pl τ Q set) m) (zp_n π) : Nat) : Int) else -1
theorem lE_add {π : zP} {τ : zQ} {Q set : Nat} : ∀ t, t ≤ τ.1 → lE π τ (lw_pl τ Q set) t = zl_e π τ Q t + zl_add (zl_ce π τ Q) set t
  | 0, _ => rfl
  | t + 1, h => by
    have ih := lE_add (π := π) (τ := τ) (Q := Q) (set := set) t (by omega)
    rw [lE, zl_e, zl_add, ih, zl_ce, lw_pl]
    by_cases hb : set.testBit t = true
    · rw [if_pos hb, if_pos hb, if_pos (show t < τ.1 by omega), Int.mul_sub]; omega
    · rw [if_neg hb, if_neg hb]; omega
theorem lT_add {π : zP} {τ : zQ} {Q set : Nat} : ∀ t, t ≤ τ.1 → lT π τ (lw_pl τ Q set) t = zl_s π τ Q t + zl_add (zl_cs π τ Q) set t
  | 0, _ => rfl
  | t + 1, h => by
    have ih := lT_add (π := π) (τ := τ) (Q := Q) (set := set) t (by omega)
    rw [lT, zl_s, zl_add, ih, zl_cs, lw_pl]
    by_cases hb : set.testBit t = true
    · rw [if_pos hb, if_pos hb, if_pos (show t < τ.1 by omega), Int.mul_sub]; omega
    · rw [if_neg hb, if_neg hb]; omega
theorem zl_add_more {f : Nat → Int} {set m : Nat} (h : ∀ t, m ≤ t → f t = 0) : ∀ j, zl_add f set (m + j) = zl_add f set m
  | 0 => rfl
  | j + 1 => by
    rw [← Nat.add_assoc, zl_add, zl_add_more h j, h (m + j) (by omega)]
    split <;> omega
theorem lw_if {π : zP} {τ : zQ} {Q set : Nat} (h8 : τ.1 ≤ 8) : zl_if π τ Q set = zp_bits π (lE π τ (lw_pl τ Q set) τ.1) (lT π τ (lw_pl τ Q set) τ.1) (zp_n π) := by
  have e1 := zl_add_more (f := zl_ce π τ Q) (set := set) (m := τ.1) (fun t ht => by rw [zl_ce, if_neg (by omega)]) (8 - τ.1)
  have e2 := zl_add_more (f := zl_cs π τ Q) (set := set) (m := τ.1) (fun t ht => by rw [zl_cs, if_neg (by omega)]) (8 - τ.1)
  rw [show τ.1 + (8 - τ.1) = 8 by omega] at e1 e2
  rw [zl_if, e1, e2, lE_add _ (Nat.le_refl _), lT_add _ (Nat.le_refl _), zl_E, zl_S]
theorem lb_sub : ∀ s : Nat, s < 64 → ∀ p : Nat, p < 64 → ((zn_I (s : Int) &&& (zn_I (p : Int) ^^^ zn_I (-1)) = 0) ↔ s &&& p = s) := by decide +kernel
theorem lb_bit : ∀ s : Nat, s < 64 → ∀ t : Nat, t < 6 → (zn_I (s : Int) >>> (zn_I (t : Int) &&& 31)) &&& zn_I 1 = zn_I (if s.testBit t = true then 1 else 0) := by decide +kernel
theorem lb_pb {τ : zQ} : ∀ m t, (zt_pb τ m).testBit t = decide (t < m ∧ zt_per τ t)
  | 0, t => by simp [zt_pb]
  | m + 1, t => by
    have ih := lb_pb (τ := τ) m t
    rw [zt_pb]
    by_cases hp : zt_per τ m
    · rw [if_pos hp]
      have h := Nat.two_pow_add_eq_or_of_lt (zt_pb_lt τ m) 1
      rw [Nat.mul_one] at h
      rw [Nat.add_comm, h, Nat.testBit_or, Nat.testBit_two_pow, ih]
      by_cases e : m = t
      · subst e
        rw [decide_eq_true rfl, Bool.true_or]
        exact (decide_eq_true ⟨Nat.lt_succ_self _, hp⟩).symm
      · rw [decide_eq_false e, Bool.false_or]
        exact decide_eq_decide.mpr ⟨fun r => ⟨by omega, r.2⟩, fun r => ⟨by omega, r.2⟩⟩
    · rw [if_neg hp, Nat.add_zero, ih]
      exact decide_eq_decide.mpr ⟨fun r => ⟨by omega, r.2⟩, fun r => ⟨by
        rcases Nat.lt_or_ge t m with q | q
        · exact q
        · exact absurd (by rw [show m = t by omega]; exact r.2) hp, r.2⟩⟩
theorem lb_are {τ : zQ} {set : Nat} : ∀ m, lw_are τ set m = true ↔ ∀ t, t < m → set.testBit t = true → zt_per τ t
  | 0 => ⟨fun _ t ht => absurd ht (Nat.not_lt_zero _), fun _ => rfl⟩
  | m + 1 => by
    have ih := lb_are (τ := τ) (set := set) m
    rw [lw_are, Bool.and_eq_true, ih]
    constructor
    · rintro ⟨h1, h2⟩ t ht hb
      rcases Nat.lt_or_ge t m with q | q
      · exact h1 t q hb
      · have : t = m := by omega
        subst this
        rw [hb] at h2
        simpa using h2
    · intro h
      refine ⟨fun t ht hb => h t (by omega) hb, ?_⟩
      cases hb : set.testBit m with
      | false => rfl
      | true => simpa using h m (Nat.lt_succ_self _) hb
theorem lb_are_sub {τ : zQ} {set m : Nat} (hs : set < 2 ^ m) : lw_are τ set m = true ↔ set &&& zt_pb τ m = set := by
  rw [lb_are]
  constructor
  · intro h
    apply Nat.eq_of_testBit_eq
    intro i
    rw [Nat.testBit_and, lb_pb]
    cases hb : set.testBit i with
    | false => rfl
    | true =>
      have hi : i < m := by
        rcases Nat.lt_or_ge i m with q | q
        · exact q
        · rw [Nat.testBit_lt_two_pow (Nat.lt_of_lt_of_le hs (Nat.pow_le_pow_right (by decide) q))] at hb
          cases hb
      rw [decide_eq_true ⟨hi, h i hi hb⟩]
      rfl
  · intro h t ht hb
    have e : (set &&& zt_pb τ m).testBit t = true := by rw [h]; exact hb
    rw [Nat.testBit_and, lb_pb, Bool.and_eq_true] at e
    exact (of_decide_eq_true e.2).2
theorem lb_pow {m : Nat} (hm : m ≤ 6) : 2 ^ m ≤ 64 := Nat.pow_le_pow_right (show 0 < 2 by decide) hm
theorem lw_ok {π : zP} {τ : zQ} {Q m set : Nat} {D : Int} (hm : τ.1 = m) (h6 : m ≤ 6) (hs : set < 2 ^ m) (hD : 0 ≤ D) : zl_ok π τ Q D set = decide (lw_W π τ Q m set = D) := by
  subst hm
  have h64 := lb_pow h6
  have hp := zt_pb_lt τ τ.1
  have e1 := lb_sub set (by omega) (zt_pb τ τ.1) (by omega)
  have e2 := lb_are_sub (τ := τ) hs
  unfold zl_ok
  by_cases ha : lw_are τ set τ.1 = true
  · rw [decide_eq_true (e1.mpr (e2.mp ha)), Bool.true_and, lw_W, if_pos ha, lw_if (by omega)]
  · rw [decide_eq_false (fun r => ha (e2.mpr (e1.mp r))), Bool.false_and, lw_W, if_neg ha]
    exact (decide_eq_false (by omega)).symm
/-- the law's own count of the sets -/
def lF (f : Nat → Bool) : Nat → Nat × Nat × Nat
  | 0 => (0, 0, 0)
  | s + 1 => if f s = true then ((lF f s).1 + 1, (if (lF f s).1 = 0 then s else (lF f s).2.1 &&& s), (lF f s).2.2 ||| s) else lF f s
theorem lF_rng {f : Nat → Bool} : ∀ s, s ≤ 64 → (lF f s).1 ≤ s ∧ (lF f s).2.1 < 64 ∧ (lF f s).2.2 < 64
  | 0, _ => by simp [lF]
  | s + 1, h => by
    have ih := lF_rng (f := f) s (by omega)
    rw [lF]
    split
    · refine ⟨by dsimp only; omega, ?_, Nat.or_lt_two_pow (n := 6) ih.2.2 (by omega)⟩
      dsimp only
      split
      · omega
      · exact Nat.lt_of_le_of_lt Nat.and_le_left ih.2.1
    · omega
theorem lF_go {f g : Nat → Bool} {pb : Nat} : ∀ s, (∀ u, u < s → g u = f u ∧ (f u = true → u &&& pb = u)) → (lF f s).1 = (zl_go g pb s).1 ∧ (lF f s).2.2 = (zl_go g pb s).2.2 ∧ ((zl_go g pb s).1 = 0 → (lF f s).2.1 = 0 ∧ (zl_go g pb s).2.1 = pb) ∧ ((zl_go g pb s).1 ≠ 0 → (lF f s).2.1 = (zl_go g pb s).2.1)
  | 0, _ => ⟨rfl, rfl, fun _ => ⟨rfl, rfl⟩, fun h => absurd rfl h⟩
  | s + 1, h => by
    obtain ⟨h1, h2, h3, h4⟩ := lF_go (f := f) (g := g) (pb := pb) s (fun u hu => h u (by omega))
    obtain ⟨e1, e2⟩ := h s (Nat.lt_succ_self _)
    rw [lF, zl_go, e1]
    by_cases hf : f s = true
    · rw [if_pos hf, if_pos hf]
      dsimp only
      refine ⟨by rw [h1], by rw [h2], fun q => absurd q (Nat.succ_ne_zero _), fun _ => ?_⟩
      by_cases q : (zl_go g pb s).1 = 0
      · rw [if_pos (by rw [h1]; exact q), (h3 q).2, Nat.and_comm, e2 hf]
      · rw [if_neg (by rw [h1]; exact q), h4 q]
    · rw [if_neg hf, if_neg hf]
      exact ⟨h1, h2, h3, h4⟩
theorem lF_more {f : Nat → Bool} {a : Nat} : ∀ j, (∀ u, a ≤ u → u < a + j → f u = false) → lF f (a + j) = lF f a
  | 0, _ => rfl
  | j + 1, h => by
    rw [← Nat.add_assoc, lF, h (a + j) (by omega) (by omega), if_neg (by decide)]
    exact lF_more j (fun u h1 h2 => h u h1 (by omega))
/-- the sets that the law counts -/
def lw_f (π : zP) (τ : zQ) (Q m : Nat) (D : Int) (s : Nat) : Bool := decide (lw_W π τ Q m s = D)
theorem lw_ans {π : zP} {τ : zQ} {Q m : Nat} {D : Int} (hm : τ.1 = m) (h6 : m ≤ 6) (hD : 0 ≤ D) : zl_ans π τ Q D 0 = (lF (lw_f π τ Q m D) (2 ^ m)).1 ∧ zl_ans π τ Q D 1 = (lF (lw_f π τ Q m D) (2 ^ m)).2.1 ∧ zl_ans π τ Q D 2 = (lF (lw_f π τ Q m D) (2 ^ m)).2.2 := by
  have hp : zt_pb τ m < 2 ^ m := zt_pb_lt τ m
  have sub : ∀ u, u < 2 ^ m → lw_f π τ Q m D u = true → u &&& zt_pb τ m = u := fun u hu hf => by
    have hW : lw_W π τ Q m u = D := of_decide_eq_true hf
    refine (lb_are_sub hu).mp (Classical.byContradiction fun q => ?_)
    rw [lw_W, if_neg q] at hW
    omega
  have eM := lF_more (f := lw_f π τ Q m D) (a := zt_pb τ m + 1) (2 ^ m - (zt_pb τ m + 1)) (fun u h1 h2 => by
    cases hf : lw_f π τ Q m D u with
    | false => rfl
    | true =>
      have e := sub u (by omega) hf
      have : u ≤ zt_pb τ m := by
        have h9 : u &&& zt_pb τ m ≤ zt_pb τ m := Nat.and_le_right
        rw [e] at h9
        exact h9
      omega)
  rw [show zt_pb τ m + 1 + (2 ^ m - (zt_pb τ m + 1)) = 2 ^ m by omega] at eM
  obtain ⟨g1, g2, g3, g4⟩ := lF_go (f := lw_f π τ Q m D) (g := zl_ok π τ Q D) (pb := zt_pb τ m) (zt_pb τ m + 1) (fun u hu => ⟨lw_ok hm h6 (by omega) hD, sub u (by omega)⟩)
  rw [eM]
  have eL : zl_late π τ Q D = zl_go (zl_ok π τ Q D) (zt_pb τ m) (zt_pb τ m + 1) := by rw [zl_late, hm]
  refine ⟨?_, ?_, ?_⟩
  · rw [zl_ans, if_pos rfl, eL, g1]
  · rw [zl_ans, if_neg (by decide), if_pos rfl, eL]
    by_cases q : (zl_go (zl_ok π τ Q D) (zt_pb τ m) (zt_pb τ m + 1)).1 = 0
    · rw [if_pos q, (g3 q).1]
    · rw [if_neg q, g4 q]
  · rw [zl_ans, if_neg (by decide), if_neg (by decide), eL, g2]
theorem lk_late {M : zw_M} {σ : zZ} {m n : Nat} (h : lI M σ m n) (hn : 0 < n) {Q j : Nat} {D x : Int} (hQ : 1 ≤ Q ∧ Q < 8) (hD : 0 ≤ D ∧ D < (2 ^ n : Nat)) (hx : x = (j : Int)) (hj : j < 3) : zk_late σ (Q : Int) D x = (zl_ans σ.1 σ.2.1 Q D j : Int) := by
  subst hx
  have hn2 := h.2.2.2.2
  rw [zk_late, if_neg (fun r => r ⟨⟨by omega, by omega⟩, by omega⟩), if_neg (fun r => r ⟨by rw [hn2]; exact hD, by omega, by omega⟩), if_neg (by omega), Int.toNat_natCast, Int.toNat_natCast]
theorem lw_W_rng {M : zw_M} {σ : zZ} {m n : Nat} (h : lI M σ m n) {Q set : Nat} : -1 ≤ lw_W σ.1 σ.2.1 Q m set ∧ lw_W σ.1 σ.2.1 Q m set < (2 ^ n : Nat) := by
  have hn2 := h.2.2.2.2
  have := zp_bits_lt σ.1 (lE σ.1 σ.2.1 (lw_pl σ.2.1 Q set) m) (lT σ.1 σ.2.1 (lw_pl σ.2.1 Q set) m) (zp_n σ.1)
  have h2 := Nat.two_pow_pos n
  unfold lw_W
  rw [hn2] at this ⊢
  split <;> omega
set_option maxRecDepth 100000 in
set_option maxHeartbeats 600000 in
theorem lw_set {l : zw_Lh} {σ : zZ} {m n : Nat} {M : zw_M} {Q set u x c : Nat} {pp w17 w18 w19 w20 w21 w22 : Int32} (hI : lI M σ m n) (hm6 : 1 ≤ m ∧ m ≤ 6) (hQ : 1 ≤ Q ∧ Q < 8) (hset : set < 2 ^ m) (next : ∀ (M1 : zw_M) (az : Int), lI M1 σ m n → ((az = 1 ∧ lw_are σ.2.1 set m = true) ∨ (az = 0 ∧ lw_are σ.2.1 set m = false)) → zw_X l 7 iL_law lQ 1019 [.ref 37, .ref 0, .ref 33, .ref 34, .ref 35, .ref 36, .int (zn_I (n : Int)), .int (zn_I (m : Int)), .int (zn_I (u : Int)), .int (zn_I (x : Int)), .retAddr 0, .retAddr 0, .retAddr 0, .int (zn_I (c : Int)), .retAddr 0, .int pp, .int (zn_I (Q : Int)), .int w17, .int w18, .int w19, .int w20, .int w21, .int w22, .int (zn_I (set : Int)), .int (zn_I az), .int (zn_I (lw_W σ.1 σ.2.1 Q m set))] [] M1) : zw_X l 7 iL_law lQ 918 [.ref 37, .ref 0, .ref 33, .ref 34, .ref 35, .ref 36, .int (zn_I (n : Int)), .int (zn_I (m : Int)), .int (zn_I (u : Int)), .int (zn_I (x : Int)), .retAddr 0, .retAddr 0, .retAddr 0, .int (zn_I (c : Int)), .retAddr 0, .int pp, .int (zn_I (Q : Int)), .int w17, .int w18, .int w19, .int w20, .int w21, .int w22, .int (zn_I (set : Int)), .retAddr 0, .retAddr 0] [] M := by
  obtain ⟨hC, hA, hB, hm, hn⟩ := id hI
  have h64 := lb_pow hm6.2
  have hpl : ∀ u, u < m → lw_pl σ.2.1 Q set u < zp_n σ.1 := fun u hu => by
    unfold lw_pl
    split
    · exact hC.2.1.2.2.2.2.2.2.2 u (by omega) (Q - 1) (by omega)
    · exact hC.2.1.2.2.2.2.2.2.2 u (by omega) Q (by omega)
  have loop : ∀ t : Nat, t ≤ m → ∀ (M1 : zw_M) (az : Int), zw_fr [36] M M1 → ((az = 1 ∧ lw_are σ.2.1 set t = true) ∨ (az = 0 ∧ lw_are σ.2.1 set t = false)) → (∀ u, u < t → M1.1 36 u = zn_I (lw_pl σ.2.1 Q set u : Nat)) → zw_X l 7 iL_law lQ 924 [.ref 37, .ref 0, .ref 33, .ref 34, .ref 35, .ref 36, .int (zn_I (n : Int)), .int (zn_I (m : Int)), .int (zn_I (u : Int)), .int (zn_I (x : Int)), .retAddr 0, .retAddr 0, .retAddr 0, .int (zn_I (c : Int)), .retAddr 0, .int pp, .int (zn_I (Q : Int)), .int w17, .int w18, .int w19, .int w20, .int w21, .int w22, .int (zn_I (set : Int)), .int (zn_I az), .int (zn_I (t : Int))] [] M1 := by
    refine zw_loop m (P := fun t => ∀ (M1 : zw_M) (az : Int), zw_fr [36] M M1 → ((az = 1 ∧ lw_are σ.2.1 set t = true) ∨ (az = 0 ∧ lw_are σ.2.1 set t = false)) → (∀ u, u < t → M1.1 36 u = zn_I (lw_pl σ.2.1 Q set u : Nat)) → zw_X l 7 iL_law lQ 924 [.ref 37, .ref 0, .ref 33, .ref 34, .ref 35, .ref 36, .int (zn_I (n : Int)), .int (zn_I (m : Int)), .int (zn_I (u : Int)), .int (zn_I (x : Int)), .retAddr 0, .retAddr 0, .retAddr 0, .int (zn_I (c : Int)), .retAddr 0, .int pp, .int (zn_I (Q : Int)), .int w17, .int w18, .int w19, .int w20, .int w21, .int w22, .int (zn_I (set : Int)), .int (zn_I az), .int (zn_I (t : Int))] [] M1) (fun t ht ih M1 az hf haz h36 => ?_)
    have hI1 := lI_36 hf hI
    have hC1 := hI1.1
    have hB1 := hI1.2.2.1
    have st (htm : t < m) : ∀ (zz : Int), ((zz = 1 ∧ lw_are σ.2.1 set (t + 1) = true) ∨ (zz = 0 ∧ lw_are σ.2.1 set (t + 1) = false)) → zw_X l 7 iL_law lQ 963 [.ref 37, .ref 0, .ref 33, .ref 34, .ref 35, .ref 36, .int (zn_I (n : Int)), .int (zn_I (m : Int)), .int (zn_I (u : Int)), .int (zn_I (x : Int)), .retAddr 0, .retAddr 0, .retAddr 0, .int (zn_I (c : Int)), .retAddr 0, .int pp, .int (zn_I (Q : Int)), .int w17, .int w18, .int w19, .int w20, .int w21, .int w22, .int (zn_I (set : Int)), .int (zn_I az), .int (zn_I (t : Int))] [.int (zn_I zz)] M1 := by
      intro zz hzz
      obtain ⟨bz, hbz, ebz⟩ : ∃ bz : Int, ((bz = 1 ∧ set.testBit t = true) ∨ (bz = 0 ∧ set.testBit t = false)) ∧ (zn_I (set : Int) >>> (zn_I (t : Int) &&& 31)) &&& zn_I 1 = zn_I bz := by
        rw [lb_bit set (by omega) t (by omega)]
        cases hb : set.testBit t with
        | true => exact ⟨1, Or.inl ⟨rfl, rfl⟩, by rw [if_pos rfl]⟩
        | false => exact ⟨0, Or.inr ⟨rfl, rfl⟩, by rw [if_neg (by decide)]⟩
      have hval : M1.1 35 (10 * t + 2 + (Q - bz.toNat)) = zn_I (lw_pl σ.2.1 Q set t : Nat) := by
        rcases hbz with ⟨rfl, hb⟩ | ⟨rfl, hb⟩
        · rw [lw_pl, if_pos hb]; exact (hB1 t htm).2 (Q - 1) (by omega)
        · rw [lw_pl, if_neg (by rw [hb]; decide)]; exact (hB1 t htm).2 Q (by omega)
      refine zx_istore dL_law_963 rfl (Nat.le_of_ble_eq_true rfl) ?_
      refine zx_aload dL_law_965 rfl ?_
      refine zx_iload dL_law_967 rfl ?_
      refine zx_aload dL_law_969 rfl ?_
      refine zx_bipush (v := zn_I 10) dL_law_971 (by decide) ?_
      refine zx_iload dL_law_973 rfl ?_
      refine zy_imul dL_law_975 ?_
      refine zx_iconst (v := zn_I 2) dL_law_976 rfl ?_
      refine zy_iadd dL_law_977 ?_
      refine zx_iload dL_law_978 rfl ?_
      refine zy_iadd dL_law_980 ?_
      refine zx_iload dL_law_981 rfl ?_
      refine zx_iload dL_law_983 rfl ?_
      refine zx_ishr dL_law_985 ?_
      refine zx_iconst (v := zn_I 1) dL_law_986 rfl ?_
      skip
      refine zx_iand dL_law_987 ?_
      refine zy_top ebz ?_
      refine zy_isub dL_law_988 ?_
      refine zy_iald (i := 10 * t + 2 + (Q - bz.toNat)) dL_law_989 rfl (by decide) (by omega) (by omega) (hval) ?_
      refine zy_iast (i := t) dL_law_990 rfl (by decide) (by omega) (by omega) ?_
      refine zy_iinc dL_law_991 rfl rfl ?_
      refine zx_goto (tgt := 924) dL_law_994 (by decide) ?_
      refine ih htm _ _ (zf_s hf (by decide)) hzz (fun u hu => ?_)
      by_cases e : u = t
      · subst e; simp [zw_s]
      · simp [zw_s, e, h36 u (by omega)]
    refine zx_iload dL_law_924 rfl ?_
    refine zx_iload dL_law_926 rfl ?_
    refine zy_icmp_ge (tgt := 997) dL_law_928 (by decide) (by omega) (fun h_928 => ?_) (fun h_928 => ?_)
    · have et : t = m := by omega
      subst et
      refine zx_iload dL_law_997 rfl ?_
      refine zy_if_eq (tgt := 1016) dL_law_999 (by decide) (by omega) (fun h_999 => ?_) (fun h_999 => ?_)
      · refine zx_iconst (v := zn_I (-1)) dL_law_1016 rfl ?_
        have ha : lw_are σ.2.1 set t = false := by
          rcases haz with r | r
          · omega
          · exact r.2
        refine zy_top (b := zn_I (lw_W σ.1 σ.2.1 Q t set)) (congrArg zn_I (by rw [lw_W, if_neg (by rw [ha]; decide)])) ?_
        refine zx_istore dL_law_1017 rfl (Nat.le_of_ble_eq_true rfl) ?_
        exact next _ _ hI1 haz
      · refine zx_aload_n dL_law_1002 rfl ?_
        refine zx_aload_n dL_law_1003 rfl ?_
        refine zx_aload dL_law_1004 rfl ?_
        refine zx_iload dL_law_1006 rfl ?_
        refine zx_aload dL_law_1008 rfl ?_
        refine zx_callS (y1 := iL_wetAt) dL_law_1010 lL_82 sL_wetAt (mL_wetAt hC1.1.1 hI1.2.1 (lk_hH hC1) hC1.2.1 hB1 (by omega) (by omega) (pl := lw_pl σ.2.1 Q set) (fun u hu => ⟨h36 u (by omega), hpl u hu⟩)) rfl rfl (Nat.le_of_ble_eq_true rfl) ?_
        refine zk_i ?_
        refine zx_goto (tgt := 1017) dL_law_1013 (by decide) ?_
        have ha : lw_are σ.2.1 set t = true := by
          rcases haz with r | r
          · exact r.2
          · omega
        refine zy_top (b := zn_I (lw_W σ.1 σ.2.1 Q t set)) (congrArg zn_I (by rw [lw_W, if_pos ha])) ?_
        refine zx_istore dL_law_1017 rfl (Nat.le_of_ble_eq_true rfl) ?_
        exact next _ _ hI1 haz
    · have htm : t < m := by omega
      obtain ⟨bz, hbz, ebz⟩ : ∃ bz : Int, ((bz = 1 ∧ set.testBit t = true) ∨ (bz = 0 ∧ set.testBit t = false)) ∧ (zn_I (set : Int) >>> (zn_I (t : Int) &&& 31)) &&& zn_I 1 = zn_I bz := by
        rw [lb_bit set (by omega) t (by omega)]
        cases hb : set.testBit t with
        | true => exact ⟨1, Or.inl ⟨rfl, rfl⟩, by rw [if_pos rfl]⟩
        | false => exact ⟨0, Or.inr ⟨rfl, rfl⟩, by rw [if_neg (by decide)]⟩
      have hkr := hC1.2.1.2.2.2.2.2.1 t (by omega)
      refine zx_iload dL_law_931 rfl ?_
      refine zy_if_eq (tgt := 962) dL_law_933 (by decide) (by omega) (fun h_933 => ?_) (fun h_933 => ?_)
      · refine zx_iconst (v := zn_I 0) dL_law_962 rfl ?_
        have ha : lw_are σ.2.1 set t = false := by
          rcases haz with r | r
          · omega
          · exact r.2
        exact st htm 0 (Or.inr ⟨rfl, by rw [lw_are, ha]; rfl⟩)
      · refine zx_iload dL_law_936 rfl ?_
        refine zx_iload dL_law_938 rfl ?_
        refine zx_ishr dL_law_940 ?_
        refine zx_iconst (v := zn_I 1) dL_law_941 rfl ?_
        refine zx_iand dL_law_942 ?_
        refine zy_top ebz ?_
        refine zy_if_eq (tgt := 958) dL_law_943 (by decide) (by omega) (fun h_943 => ?_) (fun h_943 => ?_)
        · refine zx_iconst (v := zn_I 1) dL_law_958 rfl ?_
          refine zx_goto (tgt := 963) dL_law_959 (by decide) ?_
          have ha : lw_are σ.2.1 set t = true := by
            rcases haz with r | r
            · exact r.2
            · omega
          have hb : set.testBit t = false := by
            rcases hbz with r | r
            · omega
            · exact r.2
          exact st htm 1 (Or.inl ⟨rfl, by rw [lw_are, ha, hb]; rfl⟩)
        · refine zx_aload dL_law_946 rfl ?_
          refine zx_bipush (v := zn_I 10) dL_law_948 (by decide) ?_
          refine zx_iload dL_law_950 rfl ?_
          refine zy_imul dL_law_952 ?_
          refine zy_iald (i := 10 * t) dL_law_953 rfl (by decide) (by omega) (by omega) (((hB1 t (by omega)).1.1)) ?_
          refine zx_iconst (v := zn_I 2) dL_law_954 rfl ?_
          refine zy_icmp_le (tgt := 962) dL_law_955 (by decide) (by omega) (fun h_955 => ?_) (fun h_955 => ?_)
          · refine zx_iconst (v := zn_I 0) dL_law_962 rfl ?_
            have hb : set.testBit t = true := by
              rcases hbz with r | r
              · exact r.2
              · omega
            have hnp : ¬ zt_per σ.2.1 t := fun r => by rcases r with r | r <;> omega
            exact st htm 0 (Or.inr ⟨rfl, by rw [lw_are, hb, decide_eq_false hnp, Bool.not_true, Bool.false_or, Bool.and_false]⟩)
          · refine zx_iconst (v := zn_I 1) dL_law_958 rfl ?_
            refine zx_goto (tgt := 963) dL_law_959 (by decide) ?_
            have ha : lw_are σ.2.1 set t = true := by
              rcases haz with r | r
              · exact r.2
              · omega
            have hpp : zt_per σ.2.1 t := by show _ ∨ _; omega
            exact st htm 1 (Or.inl ⟨rfl, by rw [lw_are, ha, decide_eq_true hpp, Bool.or_true, Bool.and_true]⟩)
  refine zx_iconst (v := zn_I 1) dL_law_918 rfl ?_
  refine zx_istore dL_law_919 rfl (Nat.le_of_ble_eq_true rfl) ?_
  refine zx_iconst (v := zn_I 0) dL_law_921 rfl ?_
  refine zx_istore dL_law_922 rfl (Nat.le_of_ble_eq_true rfl) ?_
  exact loop 0 (Nat.zero_le _) M 1 zf_rf (Or.inl ⟨rfl, rfl⟩) (fun u hu => absurd hu (Nat.not_lt_zero _))
set_option maxRecDepth 100000 in
set_option maxHeartbeats 600000 in
theorem lw_passes {l : zw_Lh} {σ : zZ} {m n : Nat} {M : zw_M} {Q lt u x c : Nat} {pp : Int32} (hI : lI M σ m n) (hm6 : 1 ≤ m ∧ m ≤ 6) (hn0 : 0 < n) (hQ : 1 ≤ Q ∧ Q < 8) (hlt : lt < 2 ^ m) (next : ∀ (M1 : zw_M), lI M1 σ m n → zw_X l 7 iL_law lQ 1147 [.ref 37, .ref 0, .ref 33, .ref 34, .ref 35, .ref 36, .int (zn_I (n : Int)), .int (zn_I (m : Int)), .int (zn_I (u : Int)), .int (zn_I (x : Int)), .retAddr 0, .retAddr 0, .retAddr 0, .int (zn_I (c : Int)), .retAddr 0, .int pp, .retAddr 0, .retAddr 0, .retAddr 0, .retAddr 0, .retAddr 0, .retAddr 0, .retAddr 0, .retAddr 0, .retAddr 0, .retAddr 0] [] M1) : zw_X l 7 iL_law lQ 891 [.ref 37, .ref 0, .ref 33, .ref 34, .ref 35, .ref 36, .int (zn_I (n : Int)), .int (zn_I (m : Int)), .int (zn_I (u : Int)), .int (zn_I (x : Int)), .retAddr 0, .retAddr 0, .retAddr 0, .int (zn_I (c : Int)), .retAddr 0, .int pp, .int (zn_I (Q : Int)), .int (zn_I ((lt : Nat) : Int)), .int (zn_I 0), .int (zn_I 0), .retAddr 0, .retAddr 0, .retAddr 0, .retAddr 0, .retAddr 0, .retAddr 0] [] M := by
  have h64 := lb_pow hm6.2
  have hn30 : n ≤ 30 := by have := zp_30 hI.1.1.1; have := hI.2.2.2.2; omega
  have h30p : 2 ^ n ≤ 2 ^ 30 := Nat.pow_le_pow_right (by decide) hn30
  have p2 : ∀ (M1 : zw_M), lI M1 σ m n → zw_X l 7 iL_law lQ 891 [.ref 37, .ref 0, .ref 33, .ref 34, .ref 35, .ref 36, .int (zn_I (n : Int)), .int (zn_I (m : Int)), .int (zn_I (u : Int)), .int (zn_I (x : Int)), .retAddr 0, .retAddr 0, .retAddr 0, .int (zn_I (c : Int)), .retAddr 0, .int pp, .int (zn_I (Q : Int)), .int (zn_I ((lt : Nat) : Int)), .retAddr 0, .int (zn_I (0 + 1 + 1)), .retAddr 0, .retAddr 0, .retAddr 0, .retAddr 0, .retAddr 0, .retAddr 0] [] M1 := by
    intro M1 hI1
    refine zx_iload dL_law_891 rfl ?_
    refine zx_iconst (v := zn_I 2) dL_law_893 rfl ?_
    refine zy_icmp_ge (tgt := 1147) dL_law_894 (by decide) (by omega) (fun h_894 => ?_) (fun h_894 => ?_)
    · refine zx_weak (L1 := [.ref 37, .ref 0, .ref 33, .ref 34, .ref 35, .ref 36, .int (zn_I (n : Int)), .int (zn_I (m : Int)), .int (zn_I (u : Int)), .int (zn_I (x : Int)), .retAddr 0, .retAddr 0, .retAddr 0, .int (zn_I (c : Int)), .retAddr 0, .int pp, .retAddr 0, .retAddr 0, .retAddr 0, .retAddr 0, .retAddr 0, .retAddr 0, .retAddr 0, .retAddr 0, .retAddr 0, .retAddr 0]) ⟨Or.inr rfl, ⟨Or.inr rfl, ⟨Or.inr rfl, ⟨Or.inr rfl, ⟨Or.inr rfl, ⟨Or.inr rfl, ⟨Or.inr rfl, ⟨Or.inr rfl, ⟨Or.inr rfl, ⟨Or.inr rfl, ⟨Or.inl rfl, ⟨Or.inl rfl, ⟨Or.inl rfl, ⟨Or.inr rfl, ⟨Or.inl rfl, ⟨Or.inr rfl, ⟨Or.inl rfl, ⟨Or.inl rfl, ⟨Or.inl rfl, ⟨Or.inl rfl, ⟨Or.inl rfl, ⟨Or.inl rfl, ⟨Or.inl rfl, ⟨Or.inl rfl, ⟨Or.inl rfl, ⟨Or.inl rfl, trivial⟩⟩⟩⟩⟩⟩⟩⟩⟩⟩⟩⟩⟩⟩⟩⟩⟩⟩⟩⟩⟩⟩⟩⟩⟩⟩ ?_
      exact next _ hI1
    · exact absurd h_894 (by omega)
  have p1 (D : Int) (hD : 0 ≤ D ∧ D < (2 ^ n : Nat)) : ∀ s : Nat, s ≤ 2 ^ m → ∀ (M1 : zw_M), lI M1 σ m n → zw_X l 7 iL_law lQ 909 [.ref 37, .ref 0, .ref 33, .ref 34, .ref 35, .ref 36, .int (zn_I (n : Int)), .int (zn_I (m : Int)), .int (zn_I (u : Int)), .int (zn_I (x : Int)), .retAddr 0, .retAddr 0, .retAddr 0, .int (zn_I (c : Int)), .retAddr 0, .int pp, .int (zn_I (Q : Int)), .int (zn_I ((lt : Nat) : Int)), .int (zn_I D), .int (zn_I (0 + 1)), .int (zn_I (((lF (lw_f σ.1 σ.2.1 Q m D) s).1 : Nat) : Int)), .int (zn_I (((lF (lw_f σ.1 σ.2.1 Q m D) s).2.1 : Nat) : Int)), .int (zn_I (((lF (lw_f σ.1 σ.2.1 Q m D) s).2.2 : Nat) : Int)), .int (zn_I (s : Int)), .retAddr 0, .retAddr 0] [] M1 := by
    have hDp := hD
    refine zw_loop (2 ^ m) (P := fun s => ∀ (M1 : zw_M), lI M1 σ m n → zw_X l 7 iL_law lQ 909 [.ref 37, .ref 0, .ref 33, .ref 34, .ref 35, .ref 36, .int (zn_I (n : Int)), .int (zn_I (m : Int)), .int (zn_I (u : Int)), .int (zn_I (x : Int)), .retAddr 0, .retAddr 0, .retAddr 0, .int (zn_I (c : Int)), .retAddr 0, .int pp, .int (zn_I (Q : Int)), .int (zn_I ((lt : Nat) : Int)), .int (zn_I D), .int (zn_I (0 + 1)), .int (zn_I (((lF (lw_f σ.1 σ.2.1 Q m D) s).1 : Nat) : Int)), .int (zn_I (((lF (lw_f σ.1 σ.2.1 Q m D) s).2.1 : Nat) : Int)), .int (zn_I (((lF (lw_f σ.1 σ.2.1 Q m D) s).2.2 : Nat) : Int)), .int (zn_I (s : Int)), .retAddr 0, .retAddr 0] [] M1) (fun s hs ih M1 hI1 => ?_)
    have end1 (es : s = 2 ^ m) : zw_X l 7 iL_law lQ 1091 [.ref 37, .ref 0, .ref 33, .ref 34, .ref 35, .ref 36, .int (zn_I (n : Int)), .int (zn_I (m : Int)), .int (zn_I (u : Int)), .int (zn_I (x : Int)), .retAddr 0, .retAddr 0, .retAddr 0, .int (zn_I (c : Int)), .retAddr 0, .int pp, .int (zn_I (Q : Int)), .int (zn_I ((lt : Nat) : Int)), .int (zn_I D), .int (zn_I (0 + 1)), .int (zn_I (((lF (lw_f σ.1 σ.2.1 Q m D) s).1 : Nat) : Int)), .int (zn_I (((lF (lw_f σ.1 σ.2.1 Q m D) s).2.1 : Nat) : Int)), .int (zn_I (((lF (lw_f σ.1 σ.2.1 Q m D) s).2.2 : Nat) : Int)), .int (zn_I (s : Int)), .retAddr 0, .retAddr 0] [] M1 := by
      have hFr := lF_rng (f := lw_f σ.1 σ.2.1 Q m D) s (by omega)
      have an := lw_ans (π := σ.1) (Q := Q) hI1.2.2.2.1 hm6.2 hD.1
      refine zx_iload dL_law_1091 rfl ?_
      refine zx_iconst (v := zn_I 1) dL_law_1093 rfl ?_
      refine zy_icmp_ne (tgt := 1141) dL_law_1094 (by decide) (by omega) (fun h_1094 => ?_) (fun h_1094 => ?_)
      · exact absurd h_1094 (by omega)
      · refine zx_aload_n dL_law_1097 rfl ?_
        refine zx_iload dL_law_1098 rfl ?_
        refine zx_iload dL_law_1100 rfl ?_
        refine zx_iconst (v := zn_I 0) dL_law_1102 rfl ?_
        refine zx_callV (y1 := iX10_late) dL_law_1103 lL_86 vX10_late rc_0 (mX10_late hI1.1 (q := (Q : Int)) (e := D) (x := 0) (by omega) (by have := h30p; have := hDp; omega) (by omega)) rfl rfl (Nat.le_of_ble_eq_true rfl) ?_
        intro v M5 he
        obtain ⟨rfl, hf5, hC5⟩ := he
        have hI5 := lI_z hf5 hC5 hI1
        rw [lk_late hI1 hn0 (x := 0) (j := 0) hQ hD rfl (by decide), an.1, ← es]
        refine zx_iload dL_law_1106 rfl ?_
        refine zy_icmp_ne (tgt := 1139) dL_law_1108 (by decide) (by omega) (fun h_1108 => ?_) (fun h_1108 => ?_)
        · exact absurd rfl h_1108
        · refine zx_aload_n dL_law_1111 rfl ?_
          refine zx_iload dL_law_1112 rfl ?_
          refine zx_iload dL_law_1114 rfl ?_
          refine zx_iconst (v := zn_I 1) dL_law_1116 rfl ?_
          refine zx_callV (y1 := iX10_late) dL_law_1117 lL_86 vX10_late rc_0 (mX10_late hC5 (q := (Q : Int)) (e := D) (x := 1) (by omega) (by have := h30p; have := hDp; omega) (by omega)) rfl rfl (Nat.le_of_ble_eq_true rfl) ?_
          intro v M6 he
          obtain ⟨rfl, hf6, hC6⟩ := he
          have hI6 := lI_z hf6 hC6 hI5
          rw [lk_late hI5 hn0 (x := 1) (j := 1) hQ hD rfl (by decide), an.2.1, ← es]
          refine zx_iload dL_law_1120 rfl ?_
          refine zy_icmp_ne (tgt := 1139) dL_law_1122 (by decide) (by omega) (fun h_1122 => ?_) (fun h_1122 => ?_)
          · exact absurd rfl h_1122
          · refine zx_aload_n dL_law_1125 rfl ?_
            refine zx_iload dL_law_1126 rfl ?_
            refine zx_iload dL_law_1128 rfl ?_
            refine zx_iconst (v := zn_I 2) dL_law_1130 rfl ?_
            refine zx_callV (y1 := iX10_late) dL_law_1131 lL_86 vX10_late rc_0 (mX10_late hC6 (q := (Q : Int)) (e := D) (x := 2) (by omega) (by have := h30p; have := hDp; omega) (by omega)) rfl rfl (Nat.le_of_ble_eq_true rfl) ?_
            intro v M7 he
            obtain ⟨rfl, hf7, hC7⟩ := he
            have hI7 := lI_z hf7 hC7 hI6
            rw [lk_late hI6 hn0 (x := 2) (j := 2) hQ hD rfl (by decide), an.2.2, ← es]
            refine zx_iload dL_law_1134 rfl ?_
            refine zy_icmp_eq (tgt := 1141) dL_law_1136 (by decide) (by omega) (fun h_1136 => ?_) (fun h_1136 => ?_)
            · refine zy_iinc dL_law_1141 rfl rfl ?_
              refine zx_goto (tgt := 891) dL_law_1144 (by decide) ?_
              refine zx_weak (L1 := [.ref 37, .ref 0, .ref 33, .ref 34, .ref 35, .ref 36, .int (zn_I (n : Int)), .int (zn_I (m : Int)), .int (zn_I (u : Int)), .int (zn_I (x : Int)), .retAddr 0, .retAddr 0, .retAddr 0, .int (zn_I (c : Int)), .retAddr 0, .int pp, .int (zn_I (Q : Int)), .int (zn_I ((lt : Nat) : Int)), .retAddr 0, .int (zn_I (0 + 1 + 1)), .retAddr 0, .retAddr 0, .retAddr 0, .retAddr 0, .retAddr 0, .retAddr 0]) ⟨Or.inr rfl, ⟨Or.inr rfl, ⟨Or.inr rfl, ⟨Or.inr rfl, ⟨Or.inr rfl, ⟨Or.inr rfl, ⟨Or.inr rfl, ⟨Or.inr rfl, ⟨Or.inr rfl, ⟨Or.inr rfl, ⟨Or.inl rfl, ⟨Or.inl rfl, ⟨Or.inl rfl, ⟨Or.inr rfl, ⟨Or.inl rfl, ⟨Or.inr rfl, ⟨Or.inr rfl, ⟨Or.inr rfl, ⟨Or.inl rfl, ⟨Or.inr rfl, ⟨Or.inl rfl, ⟨Or.inl rfl, ⟨Or.inl rfl, ⟨Or.inl rfl, ⟨Or.inl rfl, ⟨Or.inl rfl, trivial⟩⟩⟩⟩⟩⟩⟩⟩⟩⟩⟩⟩⟩⟩⟩⟩⟩⟩⟩⟩⟩⟩⟩⟩⟩⟩ ?_
              exact p2 _ hI7
            · exact absurd rfl h_1136
    refine zx_iload dL_law_909 rfl ?_
    refine zx_iconst (v := zn_I 1) dL_law_911 rfl ?_
    refine zx_iload dL_law_912 rfl ?_
    refine zx_ishl dL_law_914 ?_
    refine zy_top (show _ = zn_I ((2 ^ m : Nat) : Int) from by rw [zb_one m (by omega), zn_nat]) ?_
    refine zy_icmp_ge (tgt := 1091) dL_law_915 (by decide) (by have := h64; omega) (fun h_915 => ?_) (fun h_915 => ?_)
    · exact end1 (by omega)
    · have hsm : s < 2 ^ m := by omega
      refine lw_set hI1 hm6 hQ hsm (fun M2 az hI2 haz => ?_)
      have hWr := lw_W_rng hI2 (Q := Q) (set := s)
      have hFr := lF_rng (f := lw_f σ.1 σ.2.1 Q m D) s (by omega)
      refine zx_iload dL_law_1019 rfl ?_
      refine zy_if_ne (tgt := 1041) dL_law_1021 (by decide) (by omega) (fun h_1021 => ?_) (fun h_1021 => ?_)
      · refine zx_iload dL_law_1041 rfl ?_
        refine zx_istore dL_law_1043 rfl (Nat.le_of_ble_eq_true rfl) ?_
        refine zx_iload dL_law_1045 rfl ?_
        refine zx_iconst (v := zn_I 1) dL_law_1047 rfl ?_
        refine zy_icmp_ne (tgt := 1085) dL_law_1048 (by decide) (by omega) (fun h_1048 => ?_) (fun h_1048 => ?_)
        · exact absurd h_1048 (by omega)
        · refine zx_iload dL_law_1051 rfl ?_
          refine zx_iload dL_law_1053 rfl ?_
          refine zy_icmp_ne (tgt := 1085) dL_law_1055 (by decide) (by have := hDp; have := hWr; have := h30p; omega) (fun h_1055 => ?_) (fun h_1055 => ?_)
          · refine zy_iinc dL_law_1085 rfl rfl ?_
            refine zx_goto (tgt := 909) dL_law_1088 (by decide) ?_
            have hft : ¬ lw_f σ.1 σ.2.1 Q m D s = true := fun r => by have r2 := of_decide_eq_true (p := lw_W σ.1 σ.2.1 Q m s = D) r; omega
            have e := (show lF (lw_f σ.1 σ.2.1 Q m D) (s + 1) = lF (lw_f σ.1 σ.2.1 Q m D) s from by rw [lF, if_neg hft])
            have h9 := ih hsm M2 hI2
            rw [e] at h9
            refine zx_weak (L1 := [.ref 37, .ref 0, .ref 33, .ref 34, .ref 35, .ref 36, .int (zn_I (n : Int)), .int (zn_I (m : Int)), .int (zn_I (u : Int)), .int (zn_I (x : Int)), .retAddr 0, .retAddr 0, .retAddr 0, .int (zn_I (c : Int)), .retAddr 0, .int pp, .int (zn_I (Q : Int)), .int (zn_I ((lt : Nat) : Int)), .int (zn_I D), .int (zn_I (0 + 1)), .int (zn_I (((lF (lw_f σ.1 σ.2.1 Q m D) s).1 : Nat) : Int)), .int (zn_I (((lF (lw_f σ.1 σ.2.1 Q m D) s).2.1 : Nat) : Int)), .int (zn_I (((lF (lw_f σ.1 σ.2.1 Q m D) s).2.2 : Nat) : Int)), .int (zn_I ((s + 1 : Nat) : Int)), .retAddr 0, .retAddr 0]) ⟨Or.inr rfl, ⟨Or.inr rfl, ⟨Or.inr rfl, ⟨Or.inr rfl, ⟨Or.inr rfl, ⟨Or.inr rfl, ⟨Or.inr rfl, ⟨Or.inr rfl, ⟨Or.inr rfl, ⟨Or.inr rfl, ⟨Or.inl rfl, ⟨Or.inl rfl, ⟨Or.inl rfl, ⟨Or.inr rfl, ⟨Or.inl rfl, ⟨Or.inr rfl, ⟨Or.inr rfl, ⟨Or.inr rfl, ⟨Or.inr rfl, ⟨Or.inr rfl, ⟨Or.inr rfl, ⟨Or.inr rfl, ⟨Or.inr rfl, ⟨Or.inr rfl, ⟨Or.inl rfl, ⟨Or.inl rfl, trivial⟩⟩⟩⟩⟩⟩⟩⟩⟩⟩⟩⟩⟩⟩⟩⟩⟩⟩⟩⟩⟩⟩⟩⟩⟩⟩ ?_
            exact h9
          · refine zx_iload dL_law_1058 rfl ?_
            refine zy_if_ne (tgt := 1068) dL_law_1060 (by decide) (by omega) (fun h_1060 => ?_) (fun h_1060 => ?_)
            · refine zx_iload dL_law_1068 rfl ?_
              refine zx_iload dL_law_1070 rfl ?_
              refine zx_iand dL_law_1072 ?_
              refine zy_top (zb_and _ _) ?_
              refine zx_istore dL_law_1073 rfl (Nat.le_of_ble_eq_true rfl) ?_
              refine zx_iload dL_law_1075 rfl ?_
              refine zx_iload dL_law_1077 rfl ?_
              refine zx_ior dL_law_1079 ?_
              refine zy_top (zb_or2 _ _) ?_
              refine zx_istore dL_law_1080 rfl (Nat.le_of_ble_eq_true rfl) ?_
              refine zy_iinc dL_law_1082 rfl rfl ?_
              refine zy_iinc dL_law_1085 rfl rfl ?_
              refine zx_goto (tgt := 909) dL_law_1088 (by decide) ?_
              have hft : lw_f σ.1 σ.2.1 Q m D s = true := by unfold lw_f; exact decide_eq_true (by omega)
              have e := (show lF (lw_f σ.1 σ.2.1 Q m D) (s + 1) = ((lF (lw_f σ.1 σ.2.1 Q m D) s).1 + 1, (lF (lw_f σ.1 σ.2.1 Q m D) s).2.1 &&& s, (lF (lw_f σ.1 σ.2.1 Q m D) s).2.2 ||| s) from by rw [lF, if_pos hft, if_neg (by omega)])
              have h9 := ih hsm M2 hI2
              rw [e] at h9
              refine zx_weak (L1 := [.ref 37, .ref 0, .ref 33, .ref 34, .ref 35, .ref 36, .int (zn_I (n : Int)), .int (zn_I (m : Int)), .int (zn_I (u : Int)), .int (zn_I (x : Int)), .retAddr 0, .retAddr 0, .retAddr 0, .int (zn_I (c : Int)), .retAddr 0, .int pp, .int (zn_I (Q : Int)), .int (zn_I ((lt : Nat) : Int)), .int (zn_I D), .int (zn_I (0 + 1)), .int (zn_I (((lF (lw_f σ.1 σ.2.1 Q m D) s).1 + 1 : Nat) : Int)), .int (zn_I (((lF (lw_f σ.1 σ.2.1 Q m D) s).2.1 &&& s : Nat) : Int)), .int (zn_I (((lF (lw_f σ.1 σ.2.1 Q m D) s).2.2 ||| s : Nat) : Int)), .int (zn_I ((s + 1 : Nat) : Int)), .retAddr 0, .retAddr 0]) ⟨Or.inr rfl, ⟨Or.inr rfl, ⟨Or.inr rfl, ⟨Or.inr rfl, ⟨Or.inr rfl, ⟨Or.inr rfl, ⟨Or.inr rfl, ⟨Or.inr rfl, ⟨Or.inr rfl, ⟨Or.inr rfl, ⟨Or.inl rfl, ⟨Or.inl rfl, ⟨Or.inl rfl, ⟨Or.inr rfl, ⟨Or.inl rfl, ⟨Or.inr rfl, ⟨Or.inr rfl, ⟨Or.inr rfl, ⟨Or.inr rfl, ⟨Or.inr rfl, ⟨Or.inr rfl, ⟨Or.inr rfl, ⟨Or.inr rfl, ⟨Or.inr rfl, ⟨Or.inl rfl, ⟨Or.inl rfl, trivial⟩⟩⟩⟩⟩⟩⟩⟩⟩⟩⟩⟩⟩⟩⟩⟩⟩⟩⟩⟩⟩⟩⟩⟩⟩⟩ ?_
              exact h9
            · refine zx_iload dL_law_1063 rfl ?_
              refine zx_goto (tgt := 1073) dL_law_1065 (by decide) ?_
              skip
              refine zx_istore dL_law_1073 rfl (Nat.le_of_ble_eq_true rfl) ?_
              refine zx_iload dL_law_1075 rfl ?_
              refine zx_iload dL_law_1077 rfl ?_
              refine zx_ior dL_law_1079 ?_
              refine zy_top (zb_or2 _ _) ?_
              refine zx_istore dL_law_1080 rfl (Nat.le_of_ble_eq_true rfl) ?_
              refine zy_iinc dL_law_1082 rfl rfl ?_
              refine zy_iinc dL_law_1085 rfl rfl ?_
              refine zx_goto (tgt := 909) dL_law_1088 (by decide) ?_
              have hft : lw_f σ.1 σ.2.1 Q m D s = true := by unfold lw_f; exact decide_eq_true (by omega)
              have e := (show lF (lw_f σ.1 σ.2.1 Q m D) (s + 1) = ((lF (lw_f σ.1 σ.2.1 Q m D) s).1 + 1, s, (lF (lw_f σ.1 σ.2.1 Q m D) s).2.2 ||| s) from by rw [lF, if_pos hft, if_pos (by omega)])
              have h9 := ih hsm M2 hI2
              rw [e] at h9
              refine zx_weak (L1 := [.ref 37, .ref 0, .ref 33, .ref 34, .ref 35, .ref 36, .int (zn_I (n : Int)), .int (zn_I (m : Int)), .int (zn_I (u : Int)), .int (zn_I (x : Int)), .retAddr 0, .retAddr 0, .retAddr 0, .int (zn_I (c : Int)), .retAddr 0, .int pp, .int (zn_I (Q : Int)), .int (zn_I ((lt : Nat) : Int)), .int (zn_I D), .int (zn_I (0 + 1)), .int (zn_I (((lF (lw_f σ.1 σ.2.1 Q m D) s).1 + 1 : Nat) : Int)), .int (zn_I ((s : Nat) : Int)), .int (zn_I (((lF (lw_f σ.1 σ.2.1 Q m D) s).2.2 ||| s : Nat) : Int)), .int (zn_I ((s + 1 : Nat) : Int)), .retAddr 0, .retAddr 0]) ⟨Or.inr rfl, ⟨Or.inr rfl, ⟨Or.inr rfl, ⟨Or.inr rfl, ⟨Or.inr rfl, ⟨Or.inr rfl, ⟨Or.inr rfl, ⟨Or.inr rfl, ⟨Or.inr rfl, ⟨Or.inr rfl, ⟨Or.inl rfl, ⟨Or.inl rfl, ⟨Or.inl rfl, ⟨Or.inr rfl, ⟨Or.inl rfl, ⟨Or.inr rfl, ⟨Or.inr rfl, ⟨Or.inr rfl, ⟨Or.inr rfl, ⟨Or.inr rfl, ⟨Or.inr rfl, ⟨Or.inr rfl, ⟨Or.inr rfl, ⟨Or.inr rfl, ⟨Or.inl rfl, ⟨Or.inl rfl, trivial⟩⟩⟩⟩⟩⟩⟩⟩⟩⟩⟩⟩⟩⟩⟩⟩⟩⟩⟩⟩⟩⟩⟩⟩⟩⟩ ?_
              exact h9
      · exact absurd h_1021 (by omega)
  have p1s : ∀ (D : Int), 0 ≤ D ∧ D < (2 ^ n : Nat) → ∀ (M1 : zw_M), lI M1 σ m n → zw_X l 7 iL_law lQ 891 [.ref 37, .ref 0, .ref 33, .ref 34, .ref 35, .ref 36, .int (zn_I (n : Int)), .int (zn_I (m : Int)), .int (zn_I (u : Int)), .int (zn_I (x : Int)), .retAddr 0, .retAddr 0, .retAddr 0, .int (zn_I (c : Int)), .retAddr 0, .int pp, .int (zn_I (Q : Int)), .int (zn_I ((lt : Nat) : Int)), .int (zn_I D), .int (zn_I (0 + 1)), .retAddr 0, .retAddr 0, .retAddr 0, .retAddr 0, .retAddr 0, .retAddr 0] [] M1 := by
    intro D hD M1 hI1
    refine zx_iload dL_law_891 rfl ?_
    refine zx_iconst (v := zn_I 2) dL_law_893 rfl ?_
    refine zy_icmp_ge (tgt := 1147) dL_law_894 (by decide) (by omega) (fun h_894 => ?_) (fun h_894 => ?_)
    · exact absurd h_894 (by omega)
    · refine zx_iconst (v := zn_I 0) dL_law_897 rfl ?_
      refine zx_istore dL_law_898 rfl (Nat.le_of_ble_eq_true rfl) ?_
      refine zx_iconst (v := zn_I 0) dL_law_900 rfl ?_
      refine zx_istore dL_law_901 rfl (Nat.le_of_ble_eq_true rfl) ?_
      refine zx_iconst (v := zn_I 0) dL_law_903 rfl ?_
      refine zx_istore dL_law_904 rfl (Nat.le_of_ble_eq_true rfl) ?_
      refine zx_iconst (v := zn_I 0) dL_law_906 rfl ?_
      refine zx_istore dL_law_907 rfl (Nat.le_of_ble_eq_true rfl) ?_
      exact p1 D hD 0 (Nat.zero_le _) M1 hI1
  have p0 : ∀ s : Nat, s ≤ 2 ^ m → ∀ (M1 : zw_M) (D : Int), 0 ≤ D ∧ D < (2 ^ n : Nat) → lI M1 σ m n → zw_X l 7 iL_law lQ 909 [.ref 37, .ref 0, .ref 33, .ref 34, .ref 35, .ref 36, .int (zn_I (n : Int)), .int (zn_I (m : Int)), .int (zn_I (u : Int)), .int (zn_I (x : Int)), .retAddr 0, .retAddr 0, .retAddr 0, .int (zn_I (c : Int)), .retAddr 0, .int pp, .int (zn_I (Q : Int)), .int (zn_I ((lt : Nat) : Int)), .int (zn_I D), .int (zn_I 0), .int (zn_I 0), .int (zn_I 0), .int (zn_I 0), .int (zn_I (s : Int)), .retAddr 0, .retAddr 0] [] M1 := by
    refine zw_loop (2 ^ m) (P := fun s => ∀ (M1 : zw_M) (D : Int), 0 ≤ D ∧ D < (2 ^ n : Nat) → lI M1 σ m n → zw_X l 7 iL_law lQ 909 [.ref 37, .ref 0, .ref 33, .ref 34, .ref 35, .ref 36, .int (zn_I (n : Int)), .int (zn_I (m : Int)), .int (zn_I (u : Int)), .int (zn_I (x : Int)), .retAddr 0, .retAddr 0, .retAddr 0, .int (zn_I (c : Int)), .retAddr 0, .int pp, .int (zn_I (Q : Int)), .int (zn_I ((lt : Nat) : Int)), .int (zn_I D), .int (zn_I 0), .int (zn_I 0), .int (zn_I 0), .int (zn_I 0), .int (zn_I (s : Int)), .retAddr 0, .retAddr 0] [] M1) (fun s hs ih M1 D hD hI1 => ?_)
    have end0 : zw_X l 7 iL_law lQ 1091 [.ref 37, .ref 0, .ref 33, .ref 34, .ref 35, .ref 36, .int (zn_I (n : Int)), .int (zn_I (m : Int)), .int (zn_I (u : Int)), .int (zn_I (x : Int)), .retAddr 0, .retAddr 0, .retAddr 0, .int (zn_I (c : Int)), .retAddr 0, .int pp, .int (zn_I (Q : Int)), .int (zn_I ((lt : Nat) : Int)), .int (zn_I D), .int (zn_I 0), .int (zn_I 0), .int (zn_I 0), .int (zn_I 0), .int (zn_I (s : Int)), .retAddr 0, .retAddr 0] [] M1 := by
      refine zx_iload dL_law_1091 rfl ?_
      refine zx_iconst (v := zn_I 1) dL_law_1093 rfl ?_
      refine zy_icmp_ne (tgt := 1141) dL_law_1094 (by decide) (by omega) (fun h_1094 => ?_) (fun h_1094 => ?_)
      · refine zy_iinc dL_law_1141 rfl rfl ?_
        refine zx_goto (tgt := 891) dL_law_1144 (by decide) ?_
        refine zx_weak (L1 := [.ref 37, .ref 0, .ref 33, .ref 34, .ref 35, .ref 36, .int (zn_I (n : Int)), .int (zn_I (m : Int)), .int (zn_I (u : Int)), .int (zn_I (x : Int)), .retAddr 0, .retAddr 0, .retAddr 0, .int (zn_I (c : Int)), .retAddr 0, .int pp, .int (zn_I (Q : Int)), .int (zn_I ((lt : Nat) : Int)), .int (zn_I D), .int (zn_I (0 + 1)), .retAddr 0, .retAddr 0, .retAddr 0, .retAddr 0, .retAddr 0, .retAddr 0]) ⟨Or.inr rfl, ⟨Or.inr rfl, ⟨Or.inr rfl, ⟨Or.inr rfl, ⟨Or.inr rfl, ⟨Or.inr rfl, ⟨Or.inr rfl, ⟨Or.inr rfl, ⟨Or.inr rfl, ⟨Or.inr rfl, ⟨Or.inl rfl, ⟨Or.inl rfl, ⟨Or.inl rfl, ⟨Or.inr rfl, ⟨Or.inl rfl, ⟨Or.inr rfl, ⟨Or.inr rfl, ⟨Or.inr rfl, ⟨Or.inr rfl, ⟨Or.inr rfl, ⟨Or.inl rfl, ⟨Or.inl rfl, ⟨Or.inl rfl, ⟨Or.inl rfl, ⟨Or.inl rfl, ⟨Or.inl rfl, trivial⟩⟩⟩⟩⟩⟩⟩⟩⟩⟩⟩⟩⟩⟩⟩⟩⟩⟩⟩⟩⟩⟩⟩⟩⟩⟩ ?_
        exact p1s D hD _ hI1
      · exact absurd h_1094 (by omega)
    refine zx_iload dL_law_909 rfl ?_
    refine zx_iconst (v := zn_I 1) dL_law_911 rfl ?_
    refine zx_iload dL_law_912 rfl ?_
    refine zx_ishl dL_law_914 ?_
    refine zy_top (show _ = zn_I ((2 ^ m : Nat) : Int) from by rw [zb_one m (by omega), zn_nat]) ?_
    refine zy_icmp_ge (tgt := 1091) dL_law_915 (by decide) (by have := h64; omega) (fun h_915 => ?_) (fun h_915 => ?_)
    · exact end0
    · have hsm : s < 2 ^ m := by omega
      refine lw_set hI1 hm6 hQ hsm (fun M2 az hI2 haz => ?_)
      have hWr := lw_W_rng hI2 (Q := Q) (set := s)
      refine zx_iload dL_law_1019 rfl ?_
      refine zy_if_ne (tgt := 1041) dL_law_1021 (by decide) (by omega) (fun h_1021 => ?_) (fun h_1021 => ?_)
      · exact absurd h_1021 (by omega)
      · refine zx_iload dL_law_1024 rfl ?_
        refine zx_iload dL_law_1026 rfl ?_
        refine zy_icmp_ne (tgt := 1041) dL_law_1028 (by decide) (by have := h64; omega) (fun h_1028 => ?_) (fun h_1028 => ?_)
        · refine zx_iload dL_law_1041 rfl ?_
          refine zx_istore dL_law_1043 rfl (Nat.le_of_ble_eq_true rfl) ?_
          refine zx_iload dL_law_1045 rfl ?_
          refine zx_iconst (v := zn_I 1) dL_law_1047 rfl ?_
          refine zy_icmp_ne (tgt := 1085) dL_law_1048 (by decide) (by omega) (fun h_1048 => ?_) (fun h_1048 => ?_)
          · refine zy_iinc dL_law_1085 rfl rfl ?_
            refine zx_goto (tgt := 909) dL_law_1088 (by decide) ?_
            refine zx_weak (L1 := [.ref 37, .ref 0, .ref 33, .ref 34, .ref 35, .ref 36, .int (zn_I (n : Int)), .int (zn_I (m : Int)), .int (zn_I (u : Int)), .int (zn_I (x : Int)), .retAddr 0, .retAddr 0, .retAddr 0, .int (zn_I (c : Int)), .retAddr 0, .int pp, .int (zn_I (Q : Int)), .int (zn_I ((lt : Nat) : Int)), .int (zn_I D), .int (zn_I 0), .int (zn_I 0), .int (zn_I 0), .int (zn_I 0), .int (zn_I ((s + 1 : Nat) : Int)), .retAddr 0, .retAddr 0]) ⟨Or.inr rfl, ⟨Or.inr rfl, ⟨Or.inr rfl, ⟨Or.inr rfl, ⟨Or.inr rfl, ⟨Or.inr rfl, ⟨Or.inr rfl, ⟨Or.inr rfl, ⟨Or.inr rfl, ⟨Or.inr rfl, ⟨Or.inl rfl, ⟨Or.inl rfl, ⟨Or.inl rfl, ⟨Or.inr rfl, ⟨Or.inl rfl, ⟨Or.inr rfl, ⟨Or.inr rfl, ⟨Or.inr rfl, ⟨Or.inr rfl, ⟨Or.inr rfl, ⟨Or.inr rfl, ⟨Or.inr rfl, ⟨Or.inr rfl, ⟨Or.inr rfl, ⟨Or.inl rfl, ⟨Or.inl rfl, trivial⟩⟩⟩⟩⟩⟩⟩⟩⟩⟩⟩⟩⟩⟩⟩⟩⟩⟩⟩⟩⟩⟩⟩⟩⟩⟩ ?_
            exact ih hsm M2 D hD hI2
          · exact absurd h_1048 (by omega)
        · refine zx_iload dL_law_1031 rfl ?_
          refine zy_if_eq (tgt := 1041) dL_law_1033 (by decide) (by omega) (fun h_1033 => ?_) (fun h_1033 => ?_)
          · refine zx_iload dL_law_1041 rfl ?_
            refine zx_istore dL_law_1043 rfl (Nat.le_of_ble_eq_true rfl) ?_
            refine zx_iload dL_law_1045 rfl ?_
            refine zx_iconst (v := zn_I 1) dL_law_1047 rfl ?_
            refine zy_icmp_ne (tgt := 1085) dL_law_1048 (by decide) (by omega) (fun h_1048 => ?_) (fun h_1048 => ?_)
            · refine zy_iinc dL_law_1085 rfl rfl ?_
              refine zx_goto (tgt := 909) dL_law_1088 (by decide) ?_
              refine zx_weak (L1 := [.ref 37, .ref 0, .ref 33, .ref 34, .ref 35, .ref 36, .int (zn_I (n : Int)), .int (zn_I (m : Int)), .int (zn_I (u : Int)), .int (zn_I (x : Int)), .retAddr 0, .retAddr 0, .retAddr 0, .int (zn_I (c : Int)), .retAddr 0, .int pp, .int (zn_I (Q : Int)), .int (zn_I ((lt : Nat) : Int)), .int (zn_I D), .int (zn_I 0), .int (zn_I 0), .int (zn_I 0), .int (zn_I 0), .int (zn_I ((s + 1 : Nat) : Int)), .retAddr 0, .retAddr 0]) ⟨Or.inr rfl, ⟨Or.inr rfl, ⟨Or.inr rfl, ⟨Or.inr rfl, ⟨Or.inr rfl, ⟨Or.inr rfl, ⟨Or.inr rfl, ⟨Or.inr rfl, ⟨Or.inr rfl, ⟨Or.inr rfl, ⟨Or.inl rfl, ⟨Or.inl rfl, ⟨Or.inl rfl, ⟨Or.inr rfl, ⟨Or.inl rfl, ⟨Or.inr rfl, ⟨Or.inr rfl, ⟨Or.inr rfl, ⟨Or.inr rfl, ⟨Or.inr rfl, ⟨Or.inr rfl, ⟨Or.inr rfl, ⟨Or.inr rfl, ⟨Or.inr rfl, ⟨Or.inl rfl, ⟨Or.inl rfl, trivial⟩⟩⟩⟩⟩⟩⟩⟩⟩⟩⟩⟩⟩⟩⟩⟩⟩⟩⟩⟩⟩⟩⟩⟩⟩⟩ ?_
              exact ih hsm M2 D hD hI2
            · exact absurd h_1048 (by omega)
          · refine zx_iload dL_law_1036 rfl ?_
            refine zx_goto (tgt := 1043) dL_law_1038 (by decide) ?_
            refine zx_istore dL_law_1043 rfl (Nat.le_of_ble_eq_true rfl) ?_
            refine zx_iload dL_law_1045 rfl ?_
            refine zx_iconst (v := zn_I 1) dL_law_1047 rfl ?_
            refine zy_icmp_ne (tgt := 1085) dL_law_1048 (by decide) (by omega) (fun h_1048 => ?_) (fun h_1048 => ?_)
            · refine zy_iinc dL_law_1085 rfl rfl ?_
              refine zx_goto (tgt := 909) dL_law_1088 (by decide) ?_
              have ha : lw_are σ.2.1 s m = true := by
                rcases haz with r | r
                · exact r.2
                · omega
              have hW0 : 0 ≤ lw_W σ.1 σ.2.1 Q m s := by rw [lw_W, if_pos ha]; omega
              refine zx_weak (L1 := [.ref 37, .ref 0, .ref 33, .ref 34, .ref 35, .ref 36, .int (zn_I (n : Int)), .int (zn_I (m : Int)), .int (zn_I (u : Int)), .int (zn_I (x : Int)), .retAddr 0, .retAddr 0, .retAddr 0, .int (zn_I (c : Int)), .retAddr 0, .int pp, .int (zn_I (Q : Int)), .int (zn_I ((lt : Nat) : Int)), .int (zn_I (lw_W σ.1 σ.2.1 Q m s)), .int (zn_I 0), .int (zn_I 0), .int (zn_I 0), .int (zn_I 0), .int (zn_I ((s + 1 : Nat) : Int)), .retAddr 0, .retAddr 0]) ⟨Or.inr rfl, ⟨Or.inr rfl, ⟨Or.inr rfl, ⟨Or.inr rfl, ⟨Or.inr rfl, ⟨Or.inr rfl, ⟨Or.inr rfl, ⟨Or.inr rfl, ⟨Or.inr rfl, ⟨Or.inr rfl, ⟨Or.inl rfl, ⟨Or.inl rfl, ⟨Or.inl rfl, ⟨Or.inr rfl, ⟨Or.inl rfl, ⟨Or.inr rfl, ⟨Or.inr rfl, ⟨Or.inr rfl, ⟨Or.inr rfl, ⟨Or.inr rfl, ⟨Or.inr rfl, ⟨Or.inr rfl, ⟨Or.inr rfl, ⟨Or.inr rfl, ⟨Or.inl rfl, ⟨Or.inl rfl, trivial⟩⟩⟩⟩⟩⟩⟩⟩⟩⟩⟩⟩⟩⟩⟩⟩⟩⟩⟩⟩⟩⟩⟩⟩⟩⟩ ?_
              exact ih hsm M2 (lw_W σ.1 σ.2.1 Q m s) ⟨hW0, hWr.2⟩ hI2
            · exact absurd h_1048 (by omega)
  refine zx_iload dL_law_891 rfl ?_
  refine zx_iconst (v := zn_I 2) dL_law_893 rfl ?_
  refine zy_icmp_ge (tgt := 1147) dL_law_894 (by decide) (by omega) (fun h_894 => ?_) (fun h_894 => ?_)
  · exact absurd h_894 (by omega)
  · refine zx_iconst (v := zn_I 0) dL_law_897 rfl ?_
    refine zx_istore dL_law_898 rfl (Nat.le_of_ble_eq_true rfl) ?_
    refine zx_iconst (v := zn_I 0) dL_law_900 rfl ?_
    refine zx_istore dL_law_901 rfl (Nat.le_of_ble_eq_true rfl) ?_
    refine zx_iconst (v := zn_I 0) dL_law_903 rfl ?_
    refine zx_istore dL_law_904 rfl (Nat.le_of_ble_eq_true rfl) ?_
    refine zx_iconst (v := zn_I 0) dL_law_906 rfl ?_
    refine zx_istore dL_law_907 rfl (Nat.le_of_ble_eq_true rfl) ?_
    exact p0 0 (Nat.zero_le _) M 0 ⟨by omega, by have := Nat.two_pow_pos n; omega⟩ hI
set_option maxRecDepth 100000 in
set_option maxHeartbeats 600000 in
theorem lw_late {l : zw_Lh} {σ : zZ} {m n : Nat} {M : zw_M} {u x c : Nat} {pp : Int32} (hI : lI M σ m n) (hm6 : 1 ≤ m ∧ m ≤ 6) (hn0 : 0 < n) (hx : x < 2147483648) (next : ∀ (M1 : zw_M), lI M1 σ m n → zw_X l 7 iL_law lQ 1147 [.ref 37, .ref 0, .ref 33, .ref 34, .ref 35, .ref 36, .int (zn_I (n : Int)), .int (zn_I (m : Int)), .int (zn_I (u : Int)), .int (zn_I (x : Int)), .retAddr 0, .retAddr 0, .retAddr 0, .int (zn_I (c : Int)), .retAddr 0, .int pp, .retAddr 0, .retAddr 0, .retAddr 0, .retAddr 0, .retAddr 0, .retAddr 0, .retAddr 0, .retAddr 0, .retAddr 0, .retAddr 0] [] M1) : zw_X l 7 iL_law lQ 862 [.ref 37, .ref 0, .ref 33, .ref 34, .ref 35, .ref 36, .int (zn_I (n : Int)), .int (zn_I (m : Int)), .int (zn_I (u : Int)), .int (zn_I (x : Int)), .retAddr 0, .retAddr 0, .retAddr 0, .int (zn_I (c : Int)), .retAddr 0, .int pp, .retAddr 0, .retAddr 0, .retAddr 0, .retAddr 0, .retAddr 0, .retAddr 0, .retAddr 0, .retAddr 0, .retAddr 0, .retAddr 0] [] M := by
  have h64 := lb_pow hm6.2
  refine zx_iconst (v := zn_I 1) dL_law_862 rfl ?_
  refine zx_iload dL_law_863 rfl ?_
  refine zx_iconst (v := zn_I 3) dL_law_865 rfl ?_
  refine zy_idiv (a := x) (b := 3) dL_law_866 (by omega) ?_
  refine zx_bipush (v := zn_I 7) dL_law_867 (by decide) ?_
  refine zy_irem (a := x / 3) (b := 7) dL_law_869 (by omega) ?_
  refine zy_iadd dL_law_870 ?_
  refine zy_top (show _ = zn_I ((1 + x / 3 % 7 : Nat) : Int) from congrArg zn_I (by omega)) ?_
  obtain ⟨Q, eQ⟩ : ∃ Q, 1 + x / 3 % 7 = Q := ⟨_, rfl⟩
  have hQ : 1 ≤ Q ∧ Q < 8 := by omega
  rw [eQ]
  refine zx_istore dL_law_871 rfl (Nat.le_of_ble_eq_true rfl) ?_
  refine zx_iload dL_law_873 rfl ?_
  refine zx_bipush (v := zn_I 64) dL_law_875 (by decide) ?_
  refine zy_idiv (a := x) (b := 64) dL_law_877 (by omega) ?_
  refine zx_iconst (v := zn_I 1) dL_law_878 rfl ?_
  refine zx_iload dL_law_879 rfl ?_
  refine zx_ishl dL_law_881 ?_
  refine zy_top (show _ = zn_I ((2 ^ m : Nat) : Int) from by rw [zb_one m (by omega), zn_nat]) ?_
  refine zy_irem (a := x / 64) (b := 2 ^ m) dL_law_882 (by have := h64; have := Nat.two_pow_pos m; omega) ?_
  obtain ⟨lt, elt⟩ : ∃ lt, x / 64 % 2 ^ m = lt := ⟨_, rfl⟩
  have hlt : lt < 2 ^ m := by rw [← elt]; exact Nat.mod_lt _ (Nat.two_pow_pos m)
  rw [elt]
  refine zx_istore dL_law_883 rfl (Nat.le_of_ble_eq_true rfl) ?_
  refine zx_iconst (v := zn_I 0) dL_law_885 rfl ?_
  refine zx_istore dL_law_886 rfl (Nat.le_of_ble_eq_true rfl) ?_
  refine zx_iconst (v := zn_I 0) dL_law_888 rfl ?_
  refine zx_istore dL_law_889 rfl (Nat.le_of_ble_eq_true rfl) ?_
  exact lw_passes hI hm6 hn0 hQ hlt next
end
section
/-! THE LAW: one act of twelve -/
theorem lB_at {M : zw_M} {τ : zQ} {k a q s : Nat} (hq : q < 8) (hB : lB M τ k) : lB (zw_s M 35 (10 * a + 2 + q) (zn_I (s : Nat))) (zt_at τ a q s) k := fun u hu => by
  obtain ⟨⟨h1, h2⟩, h3⟩ := hB u hu
  refine ⟨⟨?_, ?_⟩, fun v hv => ?_⟩
  · simp [zw_s, zt_at, zt_mv, show ¬ 10 * u = 10 * a + 2 + q by omega, h1]
  · simp [zw_s, zt_at, zt_mv, show ¬ 10 * u + 1 = 10 * a + 2 + q by omega, h2]
  · by_cases e : u = a
    · subst e
      by_cases e2 : v = q
      · subst e2; simp [zw_s, zt_at, zt_mv]
      · simp [zw_s, zt_at, zt_mv, e2, h3 v hv]
    · simp [zw_s, zt_at, zt_mv, e, show ¬ 10 * u + 2 + v = 10 * a + 2 + q by omega, h3 v hv]
theorem lB_same {M : zw_M} {τ : zQ} {k j : Nat} {x : Int32} (hB : lB M τ k) (hx : M.1 35 j = x) : lB (zw_s M 35 j x) τ k := by
  have e : (zw_s M 35 j x).1 35 = M.1 35 := by
    funext i
    by_cases q : i = j
    · subst q; simp [zw_s, hx]
    · simp [zw_s, q]
  unfold lB at hB ⊢
  rw [e]
  exact hB
theorem lI_35 {M M1 : zw_M} {σ : zZ} {τ : zQ} {m n : Nat} (hf : zw_fr (35 :: zcl) M M1) (hC : zC_ M1 (zst σ τ)) (hB : lB M1 τ m) (ht : τ.1 = m) (h : lI M σ m n) : lI M1 (zst σ τ) m n := ⟨hC, lA_f hf h.2.1 (by decide), hB, ht, h.2.2.2.2⟩
theorem zC_35 {M : zw_M} {σ : zZ} {j : Nat} {x : Int32} (hC : zC_ M σ) : zC_ (zw_s M 35 j x) σ := zC_f (S := [35]) (zf_s zf_rf (by decide)) hC (by decide)
set_option maxRecDepth 100000 in
set_option maxHeartbeats 600000 in
theorem lw_stand1 {l : zw_Lh} {σ : zZ} {m n : Nat} {M : zw_M} {u x a b q c : Nat} (hI : lI M σ m n) (hm6 : 1 ≤ m ∧ m ≤ 6) (ha : a < m) (hb : b < m) (hq : q < 8) (hc : c < n) (hper : zpers σ (a : Int)) (next : ∀ (σ2 : zZ) (M1 : zw_M), lI M1 σ2 m n → zw_X l 7 iL_law lQ 547 [.ref 37, .ref 0, .ref 33, .ref 34, .ref 35, .ref 36, .int (zn_I (n : Int)), .int (zn_I (m : Int)), .int (zn_I (u : Int)), .int (zn_I (x : Int)), .retAddr 0, .retAddr 0, .retAddr 0, .int (zn_I (c : Int)), .retAddr 0, .retAddr 0, .retAddr 0, .retAddr 0, .retAddr 0, .retAddr 0, .retAddr 0, .retAddr 0, .retAddr 0, .retAddr 0, .retAddr 0, .retAddr 0] [] M1) : zw_X l 7 iL_law lQ 256 [.ref 37, .ref 0, .ref 33, .ref 34, .ref 35, .ref 36, .int (zn_I (n : Int)), .int (zn_I (m : Int)), .int (zn_I (u : Int)), .int (zn_I (x : Int)), .int (zn_I (a : Int)), .int (zn_I (b : Int)), .int (zn_I (q : Int)), .int (zn_I (c : Int)), .int (zn_I 1), .retAddr 0, .retAddr 0, .retAddr 0, .retAddr 0, .retAddr 0, .retAddr 0, .retAddr 0, .retAddr 0, .retAddr 0, .retAddr 0, .retAddr 0] [] M := by
  obtain ⟨hC, hA, hB, hm, hn⟩ := id hI
  have h30 := zp_30 hC.1.1
  have hta := lk_in hI ha
  have htb := lk_in hI hb
  have hqu : zqu (q : Int) := ⟨by omega, by omega⟩
  have hhc : zhas σ (c : Int) := ⟨by omega, by omega⟩
  have hpa := hC.2.1.2.2.2.2.2.2.2 a (by omega) q hq
  have hpb := hC.2.1.2.2.2.2.2.2.2 b (by omega) q hq
  refine zx_aload dL_law_256 rfl ?_
  refine zx_bipush (v := zn_I 10) dL_law_258 (by decide) ?_
  refine zx_iload dL_law_260 rfl ?_
  refine zy_imul dL_law_262 ?_
  refine zx_iconst (v := zn_I 2) dL_law_263 rfl ?_
  refine zy_iadd dL_law_264 ?_
  refine zx_iload dL_law_265 rfl ?_
  refine zy_iadd dL_law_267 ?_
  refine zy_iald (i := 10 * a + 2 + q) dL_law_268 rfl (by decide) (by omega) (by omega) ((hB a ha).2 q hq) ?_
  refine zx_istore dL_law_269 rfl (Nat.le_of_ble_eq_true rfl) ?_
  refine zx_aload_n dL_law_271 rfl ?_
  refine zx_iload dL_law_272 rfl ?_
  refine zx_iload dL_law_274 rfl ?_
  refine zx_iload dL_law_276 rfl ?_
  refine zx_callV (y1 := iX10_stand) dL_law_278 lL_39 vX10_stand rc_0 (mX10_stand hC (z := (a : Int)) (q := (q : Int)) (s := (c : Int)) (by omega) (by omega) (by omega)) rfl rfl (Nat.le_of_ble_eq_true rfl) ?_
  intro v M2 he
  obtain ⟨rfl, hf2, hC2⟩ := he
  rw [show zk_stand σ (a : Int) (q : Int) (c : Int) = (σ.2.1.2.2.2 a q : Int) from by rw [zk_stand, if_neg (fun r => r ⟨hta, hqu, hhc⟩), if_neg (fun r => r hper), zpl, Int.toNat_natCast, Int.toNat_natCast]]
  rw [zk_standS, if_pos ⟨⟨hta, hqu, hhc⟩, hper⟩, Int.toNat_natCast, Int.toNat_natCast, Int.toNat_natCast] at hC2
  refine zx_iload dL_law_281 rfl ?_
  refine zy_if_eq (tgt := 291) dL_law_283 (by decide) (by omega) (fun h_283 => ?_) (fun h_283 => ?_)
  · exact absurd h_283 (by omega)
  · refine zx_iload dL_law_286 rfl ?_
    refine zx_goto (tgt := 293) dL_law_288 (by decide) ?_
    refine zy_icmp_eq (tgt := 298) dL_law_293 (by decide) (by omega) (fun h_293 => ?_) (fun h_293 => ?_)
    · refine zx_aload dL_law_298 rfl ?_
      refine zx_bipush (v := zn_I 10) dL_law_300 (by decide) ?_
      refine zx_iload dL_law_302 rfl ?_
      refine zy_imul dL_law_304 ?_
      refine zx_iconst (v := zn_I 2) dL_law_305 rfl ?_
      refine zy_iadd dL_law_306 ?_
      refine zx_iload dL_law_307 rfl ?_
      refine zy_iadd dL_law_309 ?_
      refine zx_iload dL_law_310 rfl ?_
      refine zy_if_eq (tgt := 320) dL_law_312 (by decide) (by omega) (fun h_312 => ?_) (fun h_312 => ?_)
      · exact absurd h_312 (by omega)
      · refine zx_iload dL_law_315 rfl ?_
        refine zx_goto (tgt := 322) dL_law_317 (by decide) ?_
        refine zy_iast (i := 10 * a + 2 + q) dL_law_322 rfl (by decide) (by omega) (by omega) ?_
        refine zx_goto (tgt := 547) dL_law_323 (by decide) ?_
        refine zx_weak (L1 := [.ref 37, .ref 0, .ref 33, .ref 34, .ref 35, .ref 36, .int (zn_I (n : Int)), .int (zn_I (m : Int)), .int (zn_I (u : Int)), .int (zn_I (x : Int)), .retAddr 0, .retAddr 0, .retAddr 0, .int (zn_I (c : Int)), .retAddr 0, .retAddr 0, .retAddr 0, .retAddr 0, .retAddr 0, .retAddr 0, .retAddr 0, .retAddr 0, .retAddr 0, .retAddr 0, .retAddr 0, .retAddr 0]) ⟨Or.inr rfl, ⟨Or.inr rfl, ⟨Or.inr rfl, ⟨Or.inr rfl, ⟨Or.inr rfl, ⟨Or.inr rfl, ⟨Or.inr rfl, ⟨Or.inr rfl, ⟨Or.inr rfl, ⟨Or.inr rfl, ⟨Or.inl rfl, ⟨Or.inl rfl, ⟨Or.inl rfl, ⟨Or.inr rfl, ⟨Or.inl rfl, ⟨Or.inl rfl, ⟨Or.inl rfl, ⟨Or.inl rfl, ⟨Or.inl rfl, ⟨Or.inl rfl, ⟨Or.inl rfl, ⟨Or.inl rfl, ⟨Or.inl rfl, ⟨Or.inl rfl, ⟨Or.inl rfl, ⟨Or.inl rfl, trivial⟩⟩⟩⟩⟩⟩⟩⟩⟩⟩⟩⟩⟩⟩⟩⟩⟩⟩⟩⟩⟩⟩⟩⟩⟩⟩ ?_
        exact next _ _ (lI_35 (zf_s (zf_mono hf2 (by decide)) (by decide)) (zC_35 hC2) (lB_at hq (lB_f hf2 hB (by decide))) hm hI)
    · exact absurd rfl h_293
set_option maxRecDepth 100000 in
set_option maxHeartbeats 600000 in
theorem lw_stand0 {l : zw_Lh} {σ : zZ} {m n : Nat} {M : zw_M} {u x a b q c : Nat} (hI : lI M σ m n) (hm6 : 1 ≤ m ∧ m ≤ 6) (ha : a < m) (hb : b < m) (hq : q < 8) (hc : c < n) (hper : ¬ zpers σ (a : Int)) (next : ∀ (σ2 : zZ) (M1 : zw_M), lI M1 σ2 m n → zw_X l 7 iL_law lQ 547 [.ref 37, .ref 0, .ref 33, .ref 34, .ref 35, .ref 36, .int (zn_I (n : Int)), .int (zn_I (m : Int)), .int (zn_I (u : Int)), .int (zn_I (x : Int)), .retAddr 0, .retAddr 0, .retAddr 0, .int (zn_I (c : Int)), .retAddr 0, .retAddr 0, .retAddr 0, .retAddr 0, .retAddr 0, .retAddr 0, .retAddr 0, .retAddr 0, .retAddr 0, .retAddr 0, .retAddr 0, .retAddr 0] [] M1) : zw_X l 7 iL_law lQ 256 [.ref 37, .ref 0, .ref 33, .ref 34, .ref 35, .ref 36, .int (zn_I (n : Int)), .int (zn_I (m : Int)), .int (zn_I (u : Int)), .int (zn_I (x : Int)), .int (zn_I (a : Int)), .int (zn_I (b : Int)), .int (zn_I (q : Int)), .int (zn_I (c : Int)), .int (zn_I 0), .retAddr 0, .retAddr 0, .retAddr 0, .retAddr 0, .retAddr 0, .retAddr 0, .retAddr 0, .retAddr 0, .retAddr 0, .retAddr 0, .retAddr 0] [] M := by
  obtain ⟨hC, hA, hB, hm, hn⟩ := id hI
  have h30 := zp_30 hC.1.1
  have hta := lk_in hI ha
  have htb := lk_in hI hb
  have hqu : zqu (q : Int) := ⟨by omega, by omega⟩
  have hhc : zhas σ (c : Int) := ⟨by omega, by omega⟩
  have hpa := hC.2.1.2.2.2.2.2.2.2 a (by omega) q hq
  have hpb := hC.2.1.2.2.2.2.2.2.2 b (by omega) q hq
  refine zx_aload dL_law_256 rfl ?_
  refine zx_bipush (v := zn_I 10) dL_law_258 (by decide) ?_
  refine zx_iload dL_law_260 rfl ?_
  refine zy_imul dL_law_262 ?_
  refine zx_iconst (v := zn_I 2) dL_law_263 rfl ?_
  refine zy_iadd dL_law_264 ?_
  refine zx_iload dL_law_265 rfl ?_
  refine zy_iadd dL_law_267 ?_
  refine zy_iald (i := 10 * a + 2 + q) dL_law_268 rfl (by decide) (by omega) (by omega) ((hB a ha).2 q hq) ?_
  refine zx_istore dL_law_269 rfl (Nat.le_of_ble_eq_true rfl) ?_
  refine zx_aload_n dL_law_271 rfl ?_
  refine zx_iload dL_law_272 rfl ?_
  refine zx_iload dL_law_274 rfl ?_
  refine zx_iload dL_law_276 rfl ?_
  refine zx_callV (y1 := iX10_stand) dL_law_278 lL_39 vX10_stand rc_0 (mX10_stand hC (z := (a : Int)) (q := (q : Int)) (s := (c : Int)) (by omega) (by omega) (by omega)) rfl rfl (Nat.le_of_ble_eq_true rfl) ?_
  intro v M2 he
  obtain ⟨rfl, hf2, hC2⟩ := he
  rw [show zk_stand σ (a : Int) (q : Int) (c : Int) = -103 from by rw [zk_stand, if_neg (fun r => r ⟨hta, hqu, hhc⟩), if_pos hper]]
  rw [zk_standS, if_neg (fun r => hper r.2)] at hC2
  refine zx_iload dL_law_281 rfl ?_
  refine zy_if_eq (tgt := 291) dL_law_283 (by decide) (by omega) (fun h_283 => ?_) (fun h_283 => ?_)
  · refine zx_bipush (v := zn_I (-103)) dL_law_291 (by decide) ?_
    refine zy_icmp_eq (tgt := 298) dL_law_293 (by decide) (by omega) (fun h_293 => ?_) (fun h_293 => ?_)
    · refine zx_aload dL_law_298 rfl ?_
      refine zx_bipush (v := zn_I 10) dL_law_300 (by decide) ?_
      refine zx_iload dL_law_302 rfl ?_
      refine zy_imul dL_law_304 ?_
      refine zx_iconst (v := zn_I 2) dL_law_305 rfl ?_
      refine zy_iadd dL_law_306 ?_
      refine zx_iload dL_law_307 rfl ?_
      refine zy_iadd dL_law_309 ?_
      refine zx_iload dL_law_310 rfl ?_
      refine zy_if_eq (tgt := 320) dL_law_312 (by decide) (by omega) (fun h_312 => ?_) (fun h_312 => ?_)
      · refine zx_iload dL_law_320 rfl ?_
        refine zy_iast (i := 10 * a + 2 + q) dL_law_322 rfl (by decide) (by omega) (by omega) ?_
        refine zx_goto (tgt := 547) dL_law_323 (by decide) ?_
        refine zx_weak (L1 := [.ref 37, .ref 0, .ref 33, .ref 34, .ref 35, .ref 36, .int (zn_I (n : Int)), .int (zn_I (m : Int)), .int (zn_I (u : Int)), .int (zn_I (x : Int)), .retAddr 0, .retAddr 0, .retAddr 0, .int (zn_I (c : Int)), .retAddr 0, .retAddr 0, .retAddr 0, .retAddr 0, .retAddr 0, .retAddr 0, .retAddr 0, .retAddr 0, .retAddr 0, .retAddr 0, .retAddr 0, .retAddr 0]) ⟨Or.inr rfl, ⟨Or.inr rfl, ⟨Or.inr rfl, ⟨Or.inr rfl, ⟨Or.inr rfl, ⟨Or.inr rfl, ⟨Or.inr rfl, ⟨Or.inr rfl, ⟨Or.inr rfl, ⟨Or.inr rfl, ⟨Or.inl rfl, ⟨Or.inl rfl, ⟨Or.inl rfl, ⟨Or.inr rfl, ⟨Or.inl rfl, ⟨Or.inl rfl, ⟨Or.inl rfl, ⟨Or.inl rfl, ⟨Or.inl rfl, ⟨Or.inl rfl, ⟨Or.inl rfl, ⟨Or.inl rfl, ⟨Or.inl rfl, ⟨Or.inl rfl, ⟨Or.inl rfl, ⟨Or.inl rfl, trivial⟩⟩⟩⟩⟩⟩⟩⟩⟩⟩⟩⟩⟩⟩⟩⟩⟩⟩⟩⟩⟩⟩⟩⟩⟩⟩ ?_
        exact next σ _ (lI_35 (τ := σ.2.1) (zf_s (zf_mono hf2 (by decide)) (by decide)) (zC_35 hC2) (lB_same (lB_f hf2 hB (by decide)) (((lB_f hf2 hB (by decide)) a ha).2 q hq)) hm hI)
      · exact absurd h_312 (by omega)
    · exact absurd rfl h_293
  · exact absurd h_283 (by omega)
set_option maxRecDepth 100000 in
set_option maxHeartbeats 600000 in
theorem lw_put1 {l : zw_Lh} {σ : zZ} {m n : Nat} {M : zw_M} {u x a b q c : Nat} (hI : lI M σ m n) (hm6 : 1 ≤ m ∧ m ≤ 6) (ha : a < m) (hb : b < m) (hq : q < 8) (hc : c < n) (hper : zpers σ (a : Int)) (next : ∀ (σ2 : zZ) (M1 : zw_M), lI M1 σ2 m n → zw_X l 7 iL_law lQ 547 [.ref 37, .ref 0, .ref 33, .ref 34, .ref 35, .ref 36, .int (zn_I (n : Int)), .int (zn_I (m : Int)), .int (zn_I (u : Int)), .int (zn_I (x : Int)), .retAddr 0, .retAddr 0, .retAddr 0, .int (zn_I (c : Int)), .retAddr 0, .retAddr 0, .retAddr 0, .retAddr 0, .retAddr 0, .retAddr 0, .retAddr 0, .retAddr 0, .retAddr 0, .retAddr 0, .retAddr 0, .retAddr 0] [] M1) : zw_X l 7 iL_law lQ 334 [.ref 37, .ref 0, .ref 33, .ref 34, .ref 35, .ref 36, .int (zn_I (n : Int)), .int (zn_I (m : Int)), .int (zn_I (u : Int)), .int (zn_I (x : Int)), .int (zn_I (a : Int)), .int (zn_I (b : Int)), .int (zn_I (q : Int)), .int (zn_I (c : Int)), .int (zn_I 1), .retAddr 0, .retAddr 0, .retAddr 0, .retAddr 0, .retAddr 0, .retAddr 0, .retAddr 0, .retAddr 0, .retAddr 0, .retAddr 0, .retAddr 0] [] M := by
  obtain ⟨hC, hA, hB, hm, hn⟩ := id hI
  have h30 := zp_30 hC.1.1
  have hta := lk_in hI ha
  have htb := lk_in hI hb
  have hqu : zqu (q : Int) := ⟨by omega, by omega⟩
  have hhc : zhas σ (c : Int) := ⟨by omega, by omega⟩
  have hpa := hC.2.1.2.2.2.2.2.2.2 a (by omega) q hq
  have hpb := hC.2.1.2.2.2.2.2.2.2 b (by omega) q hq
  refine zx_aload_n dL_law_334 rfl ?_
  refine zx_iload dL_law_335 rfl ?_
  refine zx_iload dL_law_337 rfl ?_
  refine zx_callV (y1 := iX10_put) dL_law_339 lL_66 vX10_put rc_0 (mX10_put hC (z := (a : Int)) (s := (c : Int)) (by omega) (by omega)) rfl rfl (Nat.le_of_ble_eq_true rfl) ?_
  intro v M2 he
  obtain ⟨rfl, hf2, hC2⟩ := he
  rw [show zk_put σ (a : Int) (c : Int) = -103 from by rw [zk_put, if_neg (fun r => r ⟨hta, hhc⟩), if_pos hper]]
  rw [zk_putS, if_neg (fun r => r.2 hper)] at hC2
  refine zx_iload dL_law_342 rfl ?_
  refine zy_if_eq (tgt := 352) dL_law_344 (by decide) (by omega) (fun h_344 => ?_) (fun h_344 => ?_)
  · exact absurd h_344 (by omega)
  · refine zx_bipush (v := zn_I (-103)) dL_law_347 (by decide) ?_
    refine zx_goto (tgt := 362) dL_law_349 (by decide) ?_
    refine zy_icmp_eq (tgt := 367) dL_law_362 (by decide) (by omega) (fun h_362 => ?_) (fun h_362 => ?_)
    · refine zx_iconst (v := zn_I 0) dL_law_367 rfl ?_
      refine zx_istore dL_law_368 rfl (Nat.le_of_ble_eq_true rfl) ?_
      refine zx_iload dL_law_370 rfl ?_
      refine zx_bipush (v := zn_I 8) dL_law_372 (by decide) ?_
      refine zy_icmp_ge (tgt := 403) dL_law_374 (by decide) (by omega) (fun h_374 => ?_) (fun h_374 => ?_)
      · exact absurd h_374 (by omega)
      · refine zx_iload dL_law_377 rfl ?_
        refine zy_if_ne (tgt := 403) dL_law_379 (by decide) (by omega) (fun h_379 => ?_) (fun h_379 => ?_)
        · refine zx_goto (tgt := 547) dL_law_403 (by decide) ?_
          refine zx_weak (L1 := [.ref 37, .ref 0, .ref 33, .ref 34, .ref 35, .ref 36, .int (zn_I (n : Int)), .int (zn_I (m : Int)), .int (zn_I (u : Int)), .int (zn_I (x : Int)), .retAddr 0, .retAddr 0, .retAddr 0, .int (zn_I (c : Int)), .retAddr 0, .retAddr 0, .retAddr 0, .retAddr 0, .retAddr 0, .retAddr 0, .retAddr 0, .retAddr 0, .retAddr 0, .retAddr 0, .retAddr 0, .retAddr 0]) ⟨Or.inr rfl, ⟨Or.inr rfl, ⟨Or.inr rfl, ⟨Or.inr rfl, ⟨Or.inr rfl, ⟨Or.inr rfl, ⟨Or.inr rfl, ⟨Or.inr rfl, ⟨Or.inr rfl, ⟨Or.inr rfl, ⟨Or.inl rfl, ⟨Or.inl rfl, ⟨Or.inl rfl, ⟨Or.inr rfl, ⟨Or.inl rfl, ⟨Or.inl rfl, ⟨Or.inl rfl, ⟨Or.inl rfl, ⟨Or.inl rfl, ⟨Or.inl rfl, ⟨Or.inl rfl, ⟨Or.inl rfl, ⟨Or.inl rfl, ⟨Or.inl rfl, ⟨Or.inl rfl, ⟨Or.inl rfl, trivial⟩⟩⟩⟩⟩⟩⟩⟩⟩⟩⟩⟩⟩⟩⟩⟩⟩⟩⟩⟩⟩⟩⟩⟩⟩⟩ ?_
          exact next σ _ (lI_z hf2 hC2 hI)
        · exact absurd h_379 (by omega)
    · exact absurd rfl h_362
set_option maxRecDepth 100000 in
set_option maxHeartbeats 600000 in
theorem lw_put0 {l : zw_Lh} {σ : zZ} {m n : Nat} {M : zw_M} {u x a b q c : Nat} (hI : lI M σ m n) (hm6 : 1 ≤ m ∧ m ≤ 6) (ha : a < m) (hb : b < m) (hq : q < 8) (hc : c < n) (hper : ¬ zpers σ (a : Int)) (next : ∀ (σ2 : zZ) (M1 : zw_M), lI M1 σ2 m n → zw_X l 7 iL_law lQ 547 [.ref 37, .ref 0, .ref 33, .ref 34, .ref 35, .ref 36, .int (zn_I (n : Int)), .int (zn_I (m : Int)), .int (zn_I (u : Int)), .int (zn_I (x : Int)), .retAddr 0, .retAddr 0, .retAddr 0, .int (zn_I (c : Int)), .retAddr 0, .retAddr 0, .retAddr 0, .retAddr 0, .retAddr 0, .retAddr 0, .retAddr 0, .retAddr 0, .retAddr 0, .retAddr 0, .retAddr 0, .retAddr 0] [] M1) : zw_X l 7 iL_law lQ 334 [.ref 37, .ref 0, .ref 33, .ref 34, .ref 35, .ref 36, .int (zn_I (n : Int)), .int (zn_I (m : Int)), .int (zn_I (u : Int)), .int (zn_I (x : Int)), .int (zn_I (a : Int)), .int (zn_I (b : Int)), .int (zn_I (q : Int)), .int (zn_I (c : Int)), .int (zn_I 0), .retAddr 0, .retAddr 0, .retAddr 0, .retAddr 0, .retAddr 0, .retAddr 0, .retAddr 0, .retAddr 0, .retAddr 0, .retAddr 0, .retAddr 0] [] M := by
  obtain ⟨hC, hA, hB, hm, hn⟩ := id hI
  have h30 := zp_30 hC.1.1
  have hta := lk_in hI ha
  have htb := lk_in hI hb
  have hqu : zqu (q : Int) := ⟨by omega, by omega⟩
  have hhc : zhas σ (c : Int) := ⟨by omega, by omega⟩
  have hpa := hC.2.1.2.2.2.2.2.2.2 a (by omega) q hq
  have hpb := hC.2.1.2.2.2.2.2.2.2 b (by omega) q hq
  refine zx_aload_n dL_law_334 rfl ?_
  refine zx_iload dL_law_335 rfl ?_
  refine zx_iload dL_law_337 rfl ?_
  refine zx_callV (y1 := iX10_put) dL_law_339 lL_66 vX10_put rc_0 (mX10_put hC (z := (a : Int)) (s := (c : Int)) (by omega) (by omega)) rfl rfl (Nat.le_of_ble_eq_true rfl) ?_
  intro v M2 he
  obtain ⟨rfl, hf2, hC2⟩ := he
  rw [show zk_put σ (a : Int) (c : Int) = (σ.2.1.2.2.2 a 0 : Int) from by rw [zk_put, if_neg (fun r => r ⟨hta, hhc⟩), if_neg hper, zpl, Int.toNat_natCast]; rfl]
  rw [zk_putS, if_pos ⟨⟨hta, hhc⟩, hper⟩, Int.toNat_natCast, Int.toNat_natCast] at hC2
  have hB2 := lB_f hf2 hB (by decide)
  have hA2 := lA_f hf2 hA (by decide)
  have hv0 : M2.1 35 (10 * a + 2) = zn_I (σ.2.1.2.2.2 a 0 : Nat) := (hB2 a ha).2 0 (by decide)
  have hp0 := hC.2.1.2.2.2.2.2.2.2 a (by omega) 0 (by decide)
  have loop : ∀ k : Nat, k ≤ 8 → ∀ (M1 : zw_M), zw_fr [35] M2 M1 → (∀ j, M1.1 35 j = if 10 * a + 2 ≤ j ∧ j < 10 * a + 2 + k then zn_I (c : Int) else M2.1 35 j) → zw_X l 7 iL_law lQ 370 [.ref 37, .ref 0, .ref 33, .ref 34, .ref 35, .ref 36, .int (zn_I (n : Int)), .int (zn_I (m : Int)), .int (zn_I (u : Int)), .int (zn_I (x : Int)), .int (zn_I (a : Int)), .int (zn_I (b : Int)), .int (zn_I (q : Int)), .int (zn_I (c : Int)), .int (zn_I 0), .int (zn_I (k : Int)), .retAddr 0, .retAddr 0, .retAddr 0, .retAddr 0, .retAddr 0, .retAddr 0, .retAddr 0, .retAddr 0, .retAddr 0, .retAddr 0] [] M1 := by
    refine zw_loop 8 (P := fun k => ∀ (M1 : zw_M), zw_fr [35] M2 M1 → (∀ j, M1.1 35 j = if 10 * a + 2 ≤ j ∧ j < 10 * a + 2 + k then zn_I (c : Int) else M2.1 35 j) → zw_X l 7 iL_law lQ 370 [.ref 37, .ref 0, .ref 33, .ref 34, .ref 35, .ref 36, .int (zn_I (n : Int)), .int (zn_I (m : Int)), .int (zn_I (u : Int)), .int (zn_I (x : Int)), .int (zn_I (a : Int)), .int (zn_I (b : Int)), .int (zn_I (q : Int)), .int (zn_I (c : Int)), .int (zn_I 0), .int (zn_I (k : Int)), .retAddr 0, .retAddr 0, .retAddr 0, .retAddr 0, .retAddr 0, .retAddr 0, .retAddr 0, .retAddr 0, .retAddr 0, .retAddr 0] [] M1) (fun k hk ih M1 hf hj => ?_)
    refine zx_iload dL_law_370 rfl ?_
    refine zx_bipush (v := zn_I 8) dL_law_372 (by decide) ?_
    refine zy_icmp_ge (tgt := 403) dL_law_374 (by decide) (by omega) (fun h_374 => ?_) (fun h_374 => ?_)
    · refine zx_goto (tgt := 547) dL_law_403 (by decide) ?_
      have ek : k = 8 := by omega
      subst ek
      refine zx_weak (L1 := [.ref 37, .ref 0, .ref 33, .ref 34, .ref 35, .ref 36, .int (zn_I (n : Int)), .int (zn_I (m : Int)), .int (zn_I (u : Int)), .int (zn_I (x : Int)), .retAddr 0, .retAddr 0, .retAddr 0, .int (zn_I (c : Int)), .retAddr 0, .retAddr 0, .retAddr 0, .retAddr 0, .retAddr 0, .retAddr 0, .retAddr 0, .retAddr 0, .retAddr 0, .retAddr 0, .retAddr 0, .retAddr 0]) ⟨Or.inr rfl, ⟨Or.inr rfl, ⟨Or.inr rfl, ⟨Or.inr rfl, ⟨Or.inr rfl, ⟨Or.inr rfl, ⟨Or.inr rfl, ⟨Or.inr rfl, ⟨Or.inr rfl, ⟨Or.inr rfl, ⟨Or.inl rfl, ⟨Or.inl rfl, ⟨Or.inl rfl, ⟨Or.inr rfl, ⟨Or.inl rfl, ⟨Or.inl rfl, ⟨Or.inl rfl, ⟨Or.inl rfl, ⟨Or.inl rfl, ⟨Or.inl rfl, ⟨Or.inl rfl, ⟨Or.inl rfl, ⟨Or.inl rfl, ⟨Or.inl rfl, ⟨Or.inl rfl, ⟨Or.inl rfl, trivial⟩⟩⟩⟩⟩⟩⟩⟩⟩⟩⟩⟩⟩⟩⟩⟩⟩⟩⟩⟩⟩⟩⟩⟩⟩⟩ ?_
      refine next _ _ ⟨zC_f hf hC2 (by decide), lA_f hf hA2 (by decide), fun v hv => ?_, hm, hn⟩
      obtain ⟨⟨e1, e2⟩, e3⟩ := hB2 v hv
      refine ⟨⟨?_, ?_⟩, fun p hp => ?_⟩
      · rw [hj, if_neg (by omega)]; exact e1
      · rw [hj, if_neg (by omega)]; exact e2
      · by_cases e : v = a
        · subst e
          rw [hj, if_pos (by omega)]
          simp [zst, zt_mv]
        · rw [hj, if_neg (by omega), e3 p hp]
          simp [zst, zt_mv, e]
    · refine zx_iload dL_law_377 rfl ?_
      refine zy_if_ne (tgt := 403) dL_law_379 (by decide) (by omega) (fun h_379 => ?_) (fun h_379 => ?_)
      · exact absurd h_379 (by omega)
      · refine zx_aload dL_law_382 rfl ?_
        refine zx_bipush (v := zn_I 10) dL_law_384 (by decide) ?_
        refine zx_iload dL_law_386 rfl ?_
        refine zy_imul dL_law_388 ?_
        refine zx_iconst (v := zn_I 2) dL_law_389 rfl ?_
        refine zy_iadd dL_law_390 ?_
        refine zx_iload dL_law_391 rfl ?_
        refine zy_iadd dL_law_393 ?_
        refine zx_iload dL_law_394 rfl ?_
        refine zy_iast (i := 10 * a + 2 + k) dL_law_396 rfl (by decide) (by omega) (by omega) ?_
        refine zy_iinc dL_law_397 rfl rfl ?_
        refine zx_goto (tgt := 370) dL_law_400 (by decide) ?_
        refine ih (by omega) _ (zf_s hf (by decide)) (fun j => ?_)
        by_cases e : j = 10 * a + 2 + k
        · subst e
          rw [if_pos (by omega)]
          simp [zw_s]
        · have h1 := hj j
          simp only [zw_s, e, and_false, if_false]
          rw [h1]
          by_cases r : 10 * a + 2 ≤ j ∧ j < 10 * a + 2 + k
          · rw [if_pos r, if_pos (by omega)]
          · rw [if_neg r, if_neg (by omega)]
  refine zx_iload dL_law_342 rfl ?_
  refine zy_if_eq (tgt := 352) dL_law_344 (by decide) (by omega) (fun h_344 => ?_) (fun h_344 => ?_)
  · refine zx_aload dL_law_352 rfl ?_
    refine zx_bipush (v := zn_I 10) dL_law_354 (by decide) ?_
    refine zx_iload dL_law_356 rfl ?_
    refine zy_imul dL_law_358 ?_
    refine zx_iconst (v := zn_I 2) dL_law_359 rfl ?_
    refine zy_iadd dL_law_360 ?_
    refine zy_iald (i := 10 * a + 2) dL_law_361 rfl (by decide) (by omega) (by omega) (hv0) ?_
    refine zy_icmp_eq (tgt := 367) dL_law_362 (by decide) (by omega) (fun h_362 => ?_) (fun h_362 => ?_)
    · refine zx_iconst (v := zn_I 0) dL_law_367 rfl ?_
      refine zx_istore dL_law_368 rfl (Nat.le_of_ble_eq_true rfl) ?_
      exact loop 0 (Nat.zero_le _) M2 zf_rf (fun j => by rw [if_neg (by omega)])
    · exact absurd rfl h_362
  · exact absurd h_344 (by omega)
set_option maxRecDepth 100000 in
set_option maxHeartbeats 600000 in
theorem lw_trade1 {l : zw_Lh} {σ : zZ} {m n : Nat} {M : zw_M} {u x a b q c : Nat} (hI : lI M σ m n) (hm6 : 1 ≤ m ∧ m ≤ 6) (ha : a < m) (hb : b < m) (hq : q < 8) (hc : c < n) {gz : Int} (hper : (zpers σ (a : Int) ∧ zpers σ (b : Int))) (next : ∀ (σ2 : zZ) (M1 : zw_M), lI M1 σ2 m n → zw_X l 7 iL_law lQ 547 [.ref 37, .ref 0, .ref 33, .ref 34, .ref 35, .ref 36, .int (zn_I (n : Int)), .int (zn_I (m : Int)), .int (zn_I (u : Int)), .int (zn_I (x : Int)), .retAddr 0, .retAddr 0, .retAddr 0, .int (zn_I (c : Int)), .retAddr 0, .retAddr 0, .retAddr 0, .retAddr 0, .retAddr 0, .retAddr 0, .retAddr 0, .retAddr 0, .retAddr 0, .retAddr 0, .retAddr 0, .retAddr 0] [] M1) : zw_X l 7 iL_law lQ 428 [.ref 37, .ref 0, .ref 33, .ref 34, .ref 35, .ref 36, .int (zn_I (n : Int)), .int (zn_I (m : Int)), .int (zn_I (u : Int)), .int (zn_I (x : Int)), .int (zn_I (a : Int)), .int (zn_I (b : Int)), .int (zn_I (q : Int)), .int (zn_I (c : Int)), .int (zn_I gz), .retAddr 0, .retAddr 0, .retAddr 0, .retAddr 0, .retAddr 0, .retAddr 0, .retAddr 0, .retAddr 0, .retAddr 0, .retAddr 0, .retAddr 0] [.int (zn_I 1)] M := by
  obtain ⟨hC, hA, hB, hm, hn⟩ := id hI
  have h30 := zp_30 hC.1.1
  have hta := lk_in hI ha
  have htb := lk_in hI hb
  have hqu : zqu (q : Int) := ⟨by omega, by omega⟩
  have hhc : zhas σ (c : Int) := ⟨by omega, by omega⟩
  have hpa := hC.2.1.2.2.2.2.2.2.2 a (by omega) q hq
  have hpb := hC.2.1.2.2.2.2.2.2.2 b (by omega) q hq
  refine zx_istore dL_law_428 rfl (Nat.le_of_ble_eq_true rfl) ?_
  refine zx_aload dL_law_430 rfl ?_
  refine zx_bipush (v := zn_I 10) dL_law_432 (by decide) ?_
  refine zx_iload dL_law_434 rfl ?_
  refine zy_imul dL_law_436 ?_
  refine zx_iconst (v := zn_I 2) dL_law_437 rfl ?_
  refine zy_iadd dL_law_438 ?_
  refine zx_iload dL_law_439 rfl ?_
  refine zy_iadd dL_law_441 ?_
  refine zy_iald (i := 10 * a + 2 + q) dL_law_442 rfl (by decide) (by omega) (by omega) ((hB a ha).2 q hq) ?_
  refine zx_istore dL_law_443 rfl (Nat.le_of_ble_eq_true rfl) ?_
  refine zx_aload dL_law_445 rfl ?_
  refine zx_bipush (v := zn_I 10) dL_law_447 (by decide) ?_
  refine zx_iload dL_law_449 rfl ?_
  refine zy_imul dL_law_451 ?_
  refine zx_iconst (v := zn_I 2) dL_law_452 rfl ?_
  refine zy_iadd dL_law_453 ?_
  refine zx_iload dL_law_454 rfl ?_
  refine zy_iadd dL_law_456 ?_
  refine zy_iald (i := 10 * b + 2 + q) dL_law_457 rfl (by decide) (by omega) (by omega) ((hB b hb).2 q hq) ?_
  refine zx_istore dL_law_458 rfl (Nat.le_of_ble_eq_true rfl) ?_
  refine zx_aload_n dL_law_460 rfl ?_
  refine zx_iload dL_law_461 rfl ?_
  refine zx_iload dL_law_463 rfl ?_
  refine zx_iload dL_law_465 rfl ?_
  refine zx_callV (y1 := iX10_trade) dL_law_467 lL_68 vX10_trade rc_0 (mX10_trade hC (a := (a : Int)) (b := (b : Int)) (q := (q : Int)) (by omega) (by omega) (by omega)) rfl rfl (Nat.le_of_ble_eq_true rfl) ?_
  intro v M2 he
  obtain ⟨rfl, hf2, hC2⟩ := he
  rw [zk_tradeS, if_pos ⟨⟨hta, htb, hqu⟩, hper⟩, Int.toNat_natCast, Int.toNat_natCast, Int.toNat_natCast] at hC2
  have ht0 : σ.2.1.2.2.2 a q = σ.2.1.2.2.2 b q → zk_trade σ (a : Int) (b : Int) (q : Int) = 0 := fun e => by
    rw [zk_trade, if_neg (fun r => r ⟨hta, htb, hqu⟩), if_neg (fun r => r hper), if_pos (by rw [zpl, zpl, Int.toNat_natCast, Int.toNat_natCast, Int.toNat_natCast]; exact e)]
  have ht1 : σ.2.1.2.2.2 a q ≠ σ.2.1.2.2.2 b q → zk_trade σ (a : Int) (b : Int) (q : Int) = 1 := fun e => by
    rw [zk_trade, if_neg (fun r => r ⟨hta, htb, hqu⟩), if_neg (fun r => r hper), if_neg (by rw [zpl, zpl, Int.toNat_natCast, Int.toNat_natCast, Int.toNat_natCast]; exact e)]
  have ea : zpl σ (a : Int) (q : Int) = σ.2.1.2.2.2 a q := by rw [zpl, Int.toNat_natCast, Int.toNat_natCast]
  have eb : zpl σ (b : Int) (q : Int) = σ.2.1.2.2.2 b q := by rw [zpl, Int.toNat_natCast, Int.toNat_natCast]
  rw [ea, eb] at hC2
  refine zx_iload dL_law_470 rfl ?_
  refine zy_if_eq (tgt := 490) dL_law_472 (by decide) (by omega) (fun h_472 => ?_) (fun h_472 => ?_)
  · exact absurd h_472 (by omega)
  · refine zx_iload dL_law_475 rfl ?_
    refine zx_iload dL_law_477 rfl ?_
    refine zy_icmp_ne (tgt := 486) dL_law_479 (by decide) (by omega) (fun h_479 => ?_) (fun h_479 => ?_)
    · refine zx_iconst (v := zn_I 1) dL_law_486 rfl ?_
      refine zx_goto (tgt := 492) dL_law_487 (by decide) ?_
      rw [ht1 (by omega)]
      refine zy_icmp_eq (tgt := 497) dL_law_492 (by decide) (by omega) (fun h_492 => ?_) (fun h_492 => ?_)
      · refine zx_aload dL_law_497 rfl ?_
        refine zx_bipush (v := zn_I 10) dL_law_499 (by decide) ?_
        refine zx_iload dL_law_501 rfl ?_
        refine zy_imul dL_law_503 ?_
        refine zx_iconst (v := zn_I 2) dL_law_504 rfl ?_
        refine zy_iadd dL_law_505 ?_
        refine zx_iload dL_law_506 rfl ?_
        refine zy_iadd dL_law_508 ?_
        refine zx_iload dL_law_509 rfl ?_
        refine zy_if_eq (tgt := 519) dL_law_511 (by decide) (by omega) (fun h_511 => ?_) (fun h_511 => ?_)
        · exact absurd h_511 (by omega)
        · refine zx_iload dL_law_514 rfl ?_
          refine zx_goto (tgt := 521) dL_law_516 (by decide) ?_
          refine zy_iast (i := 10 * a + 2 + q) dL_law_521 rfl (by decide) (by omega) (by omega) ?_
          refine zx_aload dL_law_522 rfl ?_
          refine zx_bipush (v := zn_I 10) dL_law_524 (by decide) ?_
          refine zx_iload dL_law_526 rfl ?_
          refine zy_imul dL_law_528 ?_
          refine zx_iconst (v := zn_I 2) dL_law_529 rfl ?_
          refine zy_iadd dL_law_530 ?_
          refine zx_iload dL_law_531 rfl ?_
          refine zy_iadd dL_law_533 ?_
          refine zx_iload dL_law_534 rfl ?_
          refine zy_if_eq (tgt := 544) dL_law_536 (by decide) (by omega) (fun h_536 => ?_) (fun h_536 => ?_)
          · exact absurd h_536 (by omega)
          · refine zx_iload dL_law_539 rfl ?_
            refine zx_goto (tgt := 546) dL_law_541 (by decide) ?_
            refine zy_iast (i := 10 * b + 2 + q) dL_law_546 rfl (by decide) (by omega) (by omega) ?_
            refine zx_weak (L1 := [.ref 37, .ref 0, .ref 33, .ref 34, .ref 35, .ref 36, .int (zn_I (n : Int)), .int (zn_I (m : Int)), .int (zn_I (u : Int)), .int (zn_I (x : Int)), .retAddr 0, .retAddr 0, .retAddr 0, .int (zn_I (c : Int)), .retAddr 0, .retAddr 0, .retAddr 0, .retAddr 0, .retAddr 0, .retAddr 0, .retAddr 0, .retAddr 0, .retAddr 0, .retAddr 0, .retAddr 0, .retAddr 0]) ⟨Or.inr rfl, ⟨Or.inr rfl, ⟨Or.inr rfl, ⟨Or.inr rfl, ⟨Or.inr rfl, ⟨Or.inr rfl, ⟨Or.inr rfl, ⟨Or.inr rfl, ⟨Or.inr rfl, ⟨Or.inr rfl, ⟨Or.inl rfl, ⟨Or.inl rfl, ⟨Or.inl rfl, ⟨Or.inr rfl, ⟨Or.inl rfl, ⟨Or.inl rfl, ⟨Or.inl rfl, ⟨Or.inl rfl, ⟨Or.inl rfl, ⟨Or.inl rfl, ⟨Or.inl rfl, ⟨Or.inl rfl, ⟨Or.inl rfl, ⟨Or.inl rfl, ⟨Or.inl rfl, ⟨Or.inl rfl, trivial⟩⟩⟩⟩⟩⟩⟩⟩⟩⟩⟩⟩⟩⟩⟩⟩⟩⟩⟩⟩⟩⟩⟩⟩⟩⟩ ?_
            exact next _ _ (lI_35 (zf_s (zf_s (zf_mono hf2 (by decide)) (by decide)) (by decide)) (zC_35 (zC_35 hC2)) (lB_at hq (lB_at hq (lB_f hf2 hB (by decide)))) hm hI)
      · exact absurd rfl h_492
    · refine zx_iconst (v := zn_I 0) dL_law_482 rfl ?_
      refine zx_goto (tgt := 492) dL_law_483 (by decide) ?_
      rw [ht0 (by omega)]
      refine zy_icmp_eq (tgt := 497) dL_law_492 (by decide) (by omega) (fun h_492 => ?_) (fun h_492 => ?_)
      · refine zx_aload dL_law_497 rfl ?_
        refine zx_bipush (v := zn_I 10) dL_law_499 (by decide) ?_
        refine zx_iload dL_law_501 rfl ?_
        refine zy_imul dL_law_503 ?_
        refine zx_iconst (v := zn_I 2) dL_law_504 rfl ?_
        refine zy_iadd dL_law_505 ?_
        refine zx_iload dL_law_506 rfl ?_
        refine zy_iadd dL_law_508 ?_
        refine zx_iload dL_law_509 rfl ?_
        refine zy_if_eq (tgt := 519) dL_law_511 (by decide) (by omega) (fun h_511 => ?_) (fun h_511 => ?_)
        · exact absurd h_511 (by omega)
        · refine zx_iload dL_law_514 rfl ?_
          refine zx_goto (tgt := 521) dL_law_516 (by decide) ?_
          refine zy_iast (i := 10 * a + 2 + q) dL_law_521 rfl (by decide) (by omega) (by omega) ?_
          refine zx_aload dL_law_522 rfl ?_
          refine zx_bipush (v := zn_I 10) dL_law_524 (by decide) ?_
          refine zx_iload dL_law_526 rfl ?_
          refine zy_imul dL_law_528 ?_
          refine zx_iconst (v := zn_I 2) dL_law_529 rfl ?_
          refine zy_iadd dL_law_530 ?_
          refine zx_iload dL_law_531 rfl ?_
          refine zy_iadd dL_law_533 ?_
          refine zx_iload dL_law_534 rfl ?_
          refine zy_if_eq (tgt := 544) dL_law_536 (by decide) (by omega) (fun h_536 => ?_) (fun h_536 => ?_)
          · exact absurd h_536 (by omega)
          · refine zx_iload dL_law_539 rfl ?_
            refine zx_goto (tgt := 546) dL_law_541 (by decide) ?_
            refine zy_iast (i := 10 * b + 2 + q) dL_law_546 rfl (by decide) (by omega) (by omega) ?_
            refine zx_weak (L1 := [.ref 37, .ref 0, .ref 33, .ref 34, .ref 35, .ref 36, .int (zn_I (n : Int)), .int (zn_I (m : Int)), .int (zn_I (u : Int)), .int (zn_I (x : Int)), .retAddr 0, .retAddr 0, .retAddr 0, .int (zn_I (c : Int)), .retAddr 0, .retAddr 0, .retAddr 0, .retAddr 0, .retAddr 0, .retAddr 0, .retAddr 0, .retAddr 0, .retAddr 0, .retAddr 0, .retAddr 0, .retAddr 0]) ⟨Or.inr rfl, ⟨Or.inr rfl, ⟨Or.inr rfl, ⟨Or.inr rfl, ⟨Or.inr rfl, ⟨Or.inr rfl, ⟨Or.inr rfl, ⟨Or.inr rfl, ⟨Or.inr rfl, ⟨Or.inr rfl, ⟨Or.inl rfl, ⟨Or.inl rfl, ⟨Or.inl rfl, ⟨Or.inr rfl, ⟨Or.inl rfl, ⟨Or.inl rfl, ⟨Or.inl rfl, ⟨Or.inl rfl, ⟨Or.inl rfl, ⟨Or.inl rfl, ⟨Or.inl rfl, ⟨Or.inl rfl, ⟨Or.inl rfl, ⟨Or.inl rfl, ⟨Or.inl rfl, ⟨Or.inl rfl, trivial⟩⟩⟩⟩⟩⟩⟩⟩⟩⟩⟩⟩⟩⟩⟩⟩⟩⟩⟩⟩⟩⟩⟩⟩⟩⟩ ?_
            exact next _ _ (lI_35 (zf_s (zf_s (zf_mono hf2 (by decide)) (by decide)) (by decide)) (zC_35 (zC_35 hC2)) (lB_at hq (lB_at hq (lB_f hf2 hB (by decide)))) hm hI)
      · exact absurd rfl h_492
set_option maxRecDepth 100000 in
set_option maxHeartbeats 600000 in
theorem lw_trade0 {l : zw_Lh} {σ : zZ} {m n : Nat} {M : zw_M} {u x a b q c : Nat} (hI : lI M σ m n) (hm6 : 1 ≤ m ∧ m ≤ 6) (ha : a < m) (hb : b < m) (hq : q < 8) (hc : c < n) {gz : Int} (hper : ¬ (zpers σ (a : Int) ∧ zpers σ (b : Int))) (next : ∀ (σ2 : zZ) (M1 : zw_M), lI M1 σ2 m n → zw_X l 7 iL_law lQ 547 [.ref 37, .ref 0, .ref 33, .ref 34, .ref 35, .ref 36, .int (zn_I (n : Int)), .int (zn_I (m : Int)), .int (zn_I (u : Int)), .int (zn_I (x : Int)), .retAddr 0, .retAddr 0, .retAddr 0, .int (zn_I (c : Int)), .retAddr 0, .retAddr 0, .retAddr 0, .retAddr 0, .retAddr 0, .retAddr 0, .retAddr 0, .retAddr 0, .retAddr 0, .retAddr 0, .retAddr 0, .retAddr 0] [] M1) : zw_X l 7 iL_law lQ 428 [.ref 37, .ref 0, .ref 33, .ref 34, .ref 35, .ref 36, .int (zn_I (n : Int)), .int (zn_I (m : Int)), .int (zn_I (u : Int)), .int (zn_I (x : Int)), .int (zn_I (a : Int)), .int (zn_I (b : Int)), .int (zn_I (q : Int)), .int (zn_I (c : Int)), .int (zn_I gz), .retAddr 0, .retAddr 0, .retAddr 0, .retAddr 0, .retAddr 0, .retAddr 0, .retAddr 0, .retAddr 0, .retAddr 0, .retAddr 0, .retAddr 0] [.int (zn_I 0)] M := by
  obtain ⟨hC, hA, hB, hm, hn⟩ := id hI
  have h30 := zp_30 hC.1.1
  have hta := lk_in hI ha
  have htb := lk_in hI hb
  have hqu : zqu (q : Int) := ⟨by omega, by omega⟩
  have hhc : zhas σ (c : Int) := ⟨by omega, by omega⟩
  have hpa := hC.2.1.2.2.2.2.2.2.2 a (by omega) q hq
  have hpb := hC.2.1.2.2.2.2.2.2.2 b (by omega) q hq
  refine zx_istore dL_law_428 rfl (Nat.le_of_ble_eq_true rfl) ?_
  refine zx_aload dL_law_430 rfl ?_
  refine zx_bipush (v := zn_I 10) dL_law_432 (by decide) ?_
  refine zx_iload dL_law_434 rfl ?_
  refine zy_imul dL_law_436 ?_
  refine zx_iconst (v := zn_I 2) dL_law_437 rfl ?_
  refine zy_iadd dL_law_438 ?_
  refine zx_iload dL_law_439 rfl ?_
  refine zy_iadd dL_law_441 ?_
  refine zy_iald (i := 10 * a + 2 + q) dL_law_442 rfl (by decide) (by omega) (by omega) ((hB a ha).2 q hq) ?_
  refine zx_istore dL_law_443 rfl (Nat.le_of_ble_eq_true rfl) ?_
  refine zx_aload dL_law_445 rfl ?_
  refine zx_bipush (v := zn_I 10) dL_law_447 (by decide) ?_
  refine zx_iload dL_law_449 rfl ?_
  refine zy_imul dL_law_451 ?_
  refine zx_iconst (v := zn_I 2) dL_law_452 rfl ?_
  refine zy_iadd dL_law_453 ?_
  refine zx_iload dL_law_454 rfl ?_
  refine zy_iadd dL_law_456 ?_
  refine zy_iald (i := 10 * b + 2 + q) dL_law_457 rfl (by decide) (by omega) (by omega) ((hB b hb).2 q hq) ?_
  refine zx_istore dL_law_458 rfl (Nat.le_of_ble_eq_true rfl) ?_
  refine zx_aload_n dL_law_460 rfl ?_
  refine zx_iload dL_law_461 rfl ?_
  refine zx_iload dL_law_463 rfl ?_
  refine zx_iload dL_law_465 rfl ?_
  refine zx_callV (y1 := iX10_trade) dL_law_467 lL_68 vX10_trade rc_0 (mX10_trade hC (a := (a : Int)) (b := (b : Int)) (q := (q : Int)) (by omega) (by omega) (by omega)) rfl rfl (Nat.le_of_ble_eq_true rfl) ?_
  intro v M2 he
  obtain ⟨rfl, hf2, hC2⟩ := he
  rw [zk_tradeS, if_neg (fun r => hper r.2)] at hC2
  rw [show zk_trade σ (a : Int) (b : Int) (q : Int) = -103 from by rw [zk_trade, if_neg (fun r => r ⟨hta, htb, hqu⟩), if_pos hper]]
  have hB2 := lB_f hf2 hB (by decide)
  have hB3 := lB_same hB2 ((hB2 a ha).2 q hq)
  refine zx_iload dL_law_470 rfl ?_
  refine zy_if_eq (tgt := 490) dL_law_472 (by decide) (by omega) (fun h_472 => ?_) (fun h_472 => ?_)
  · refine zx_bipush (v := zn_I (-103)) dL_law_490 (by decide) ?_
    refine zy_icmp_eq (tgt := 497) dL_law_492 (by decide) (by omega) (fun h_492 => ?_) (fun h_492 => ?_)
    · refine zx_aload dL_law_497 rfl ?_
      refine zx_bipush (v := zn_I 10) dL_law_499 (by decide) ?_
      refine zx_iload dL_law_501 rfl ?_
      refine zy_imul dL_law_503 ?_
      refine zx_iconst (v := zn_I 2) dL_law_504 rfl ?_
      refine zy_iadd dL_law_505 ?_
      refine zx_iload dL_law_506 rfl ?_
      refine zy_iadd dL_law_508 ?_
      refine zx_iload dL_law_509 rfl ?_
      refine zy_if_eq (tgt := 519) dL_law_511 (by decide) (by omega) (fun h_511 => ?_) (fun h_511 => ?_)
      · refine zx_iload dL_law_519 rfl ?_
        refine zy_iast (i := 10 * a + 2 + q) dL_law_521 rfl (by decide) (by omega) (by omega) ?_
        refine zx_aload dL_law_522 rfl ?_
        refine zx_bipush (v := zn_I 10) dL_law_524 (by decide) ?_
        refine zx_iload dL_law_526 rfl ?_
        refine zy_imul dL_law_528 ?_
        refine zx_iconst (v := zn_I 2) dL_law_529 rfl ?_
        refine zy_iadd dL_law_530 ?_
        refine zx_iload dL_law_531 rfl ?_
        refine zy_iadd dL_law_533 ?_
        refine zx_iload dL_law_534 rfl ?_
        refine zy_if_eq (tgt := 544) dL_law_536 (by decide) (by omega) (fun h_536 => ?_) (fun h_536 => ?_)
        · refine zx_iload dL_law_544 rfl ?_
          refine zy_iast (i := 10 * b + 2 + q) dL_law_546 rfl (by decide) (by omega) (by omega) ?_
          refine zx_weak (L1 := [.ref 37, .ref 0, .ref 33, .ref 34, .ref 35, .ref 36, .int (zn_I (n : Int)), .int (zn_I (m : Int)), .int (zn_I (u : Int)), .int (zn_I (x : Int)), .retAddr 0, .retAddr 0, .retAddr 0, .int (zn_I (c : Int)), .retAddr 0, .retAddr 0, .retAddr 0, .retAddr 0, .retAddr 0, .retAddr 0, .retAddr 0, .retAddr 0, .retAddr 0, .retAddr 0, .retAddr 0, .retAddr 0]) ⟨Or.inr rfl, ⟨Or.inr rfl, ⟨Or.inr rfl, ⟨Or.inr rfl, ⟨Or.inr rfl, ⟨Or.inr rfl, ⟨Or.inr rfl, ⟨Or.inr rfl, ⟨Or.inr rfl, ⟨Or.inr rfl, ⟨Or.inl rfl, ⟨Or.inl rfl, ⟨Or.inl rfl, ⟨Or.inr rfl, ⟨Or.inl rfl, ⟨Or.inl rfl, ⟨Or.inl rfl, ⟨Or.inl rfl, ⟨Or.inl rfl, ⟨Or.inl rfl, ⟨Or.inl rfl, ⟨Or.inl rfl, ⟨Or.inl rfl, ⟨Or.inl rfl, ⟨Or.inl rfl, ⟨Or.inl rfl, trivial⟩⟩⟩⟩⟩⟩⟩⟩⟩⟩⟩⟩⟩⟩⟩⟩⟩⟩⟩⟩⟩⟩⟩⟩⟩⟩ ?_
          exact next σ _ (lI_35 (τ := σ.2.1) (zf_s (zf_s (zf_mono hf2 (by decide)) (by decide)) (by decide)) (zC_35 (zC_35 hC2)) (lB_same hB3 ((hB3 b hb).2 q hq)) hm hI)
        · exact absurd h_536 (by omega)
      · exact absurd h_511 (by omega)
    · exact absurd rfl h_492
  · exact absurd h_472 (by omega)
set_option maxRecDepth 100000 in
set_option maxHeartbeats 600000 in
theorem lw_act {l : zw_Lh} {σ : zZ} {m n : Nat} {M : zw_M} {u x a b q c : Nat} (hI : lI M σ m n) (hm6 : 1 ≤ m ∧ m ≤ 6) (ha : a < m) (hb : b < m) (hq : q < 8) (hc : c < n) {gz : Int} (hg : (gz = 1 ∧ zpers σ (a : Int)) ∨ (gz = 0 ∧ ¬ zpers σ (a : Int))) (hx : x < 2147483648) (next : ∀ (σ2 : zZ) (M1 : zw_M), lI M1 σ2 m n → zw_X l 7 iL_law lQ 547 [.ref 37, .ref 0, .ref 33, .ref 34, .ref 35, .ref 36, .int (zn_I (n : Int)), .int (zn_I (m : Int)), .int (zn_I (u : Int)), .int (zn_I (x : Int)), .retAddr 0, .retAddr 0, .retAddr 0, .int (zn_I (c : Int)), .retAddr 0, .retAddr 0, .retAddr 0, .retAddr 0, .retAddr 0, .retAddr 0, .retAddr 0, .retAddr 0, .retAddr 0, .retAddr 0, .retAddr 0, .retAddr 0] [] M1) : zw_X l 7 iL_law lQ 249 [.ref 37, .ref 0, .ref 33, .ref 34, .ref 35, .ref 36, .int (zn_I (n : Int)), .int (zn_I (m : Int)), .int (zn_I (u : Int)), .int (zn_I (x : Int)), .int (zn_I (a : Int)), .int (zn_I (b : Int)), .int (zn_I (q : Int)), .int (zn_I (c : Int)), .int (zn_I gz), .retAddr 0, .retAddr 0, .retAddr 0, .retAddr 0, .retAddr 0, .retAddr 0, .retAddr 0, .retAddr 0, .retAddr 0, .retAddr 0, .retAddr 0] [] M := by
  obtain ⟨hC, hA, hB, hm, hn⟩ := id hI
  have h30 := zp_30 hC.1.1
  have hta := lk_in hI ha
  have htb := lk_in hI hb
  have hqu : zqu (q : Int) := ⟨by omega, by omega⟩
  have hhc : zhas σ (c : Int) := ⟨by omega, by omega⟩
  have hpa := hC.2.1.2.2.2.2.2.2.2 a (by omega) q hq
  have hpb := hC.2.1.2.2.2.2.2.2.2 b (by omega) q hq
  have hkr := hC.2.1.2.2.2.2.2.1 b (by omega)
  refine zx_iload dL_law_249 rfl ?_
  refine zx_iconst (v := zn_I 4) dL_law_251 rfl ?_
  refine zy_irem (a := x) (b := 4) dL_law_252 (by omega) ?_
  refine zy_if_ne (tgt := 326) dL_law_253 (by decide) (by omega) (fun h_253 => ?_) (fun h_253 => ?_)
  · refine zx_iload dL_law_326 rfl ?_
    refine zx_iconst (v := zn_I 4) dL_law_328 rfl ?_
    refine zy_irem (a := x) (b := 4) dL_law_329 (by omega) ?_
    refine zx_iconst (v := zn_I 1) dL_law_330 rfl ?_
    refine zy_icmp_ne (tgt := 406) dL_law_331 (by decide) (by omega) (fun h_331 => ?_) (fun h_331 => ?_)
    · refine zx_iload dL_law_406 rfl ?_
      refine zy_if_eq (tgt := 427) dL_law_408 (by decide) (by omega) (fun h_408 => ?_) (fun h_408 => ?_)
      · refine zx_iconst (v := zn_I 0) dL_law_427 rfl ?_
        exact lw_trade0 hI hm6 ha hb hq hc (fun r => by
          rcases hg with q | q
          · omega
          · exact q.2 r.1) next
      · refine zx_aload dL_law_411 rfl ?_
        refine zx_bipush (v := zn_I 10) dL_law_413 (by decide) ?_
        refine zx_iload dL_law_415 rfl ?_
        refine zy_imul dL_law_417 ?_
        refine zy_iald (i := 10 * b) dL_law_418 rfl (by decide) (by omega) (by omega) ((hB b hb).1.1) ?_
        refine zx_iconst (v := zn_I 2) dL_law_419 rfl ?_
        refine zy_icmp_le (tgt := 427) dL_law_420 (by decide) (by omega) (fun h_420 => ?_) (fun h_420 => ?_)
        · refine zx_iconst (v := zn_I 0) dL_law_427 rfl ?_
          exact lw_trade0 hI hm6 ha hb hq hc (fun r => by
            have r2 : zt_per σ.2.1 (Int.toNat (b : Int)) := r.2
            rw [Int.toNat_natCast] at r2
            rcases r2 with r2 | r2 <;> omega) next
        · refine zx_iconst (v := zn_I 1) dL_law_423 rfl ?_
          refine zx_goto (tgt := 428) dL_law_424 (by decide) ?_
          have hpb2 : zpers σ (b : Int) := by
            show zt_per σ.2.1 (Int.toNat (b : Int))
            rw [Int.toNat_natCast]
            show _ ∨ _
            omega
          exact lw_trade1 hI hm6 ha hb hq hc ⟨by
            rcases hg with q | q
            · exact q.2
            · omega, hpb2⟩ next
    · rcases hg with ⟨rfl, hp⟩ | ⟨rfl, hp⟩
      · exact lw_put1 hI hm6 ha hb hq hc hp next
      · exact lw_put0 hI hm6 ha hb hq hc hp next
  · rcases hg with ⟨rfl, hp⟩ | ⟨rfl, hp⟩
    · exact lw_stand1 hI hm6 ha hb hq hc hp next
    · exact lw_stand0 hI hm6 ha hb hq hc hp next
set_option maxRecDepth 100000 in
set_option maxHeartbeats 600000 in
theorem lw_turns {l : zw_Lh} {σ : zZ} {m n : Nat} {M : zw_M} (hL : l.2.1 ≤ 260) (hI : lI M σ m n) (hm6 : 1 ≤ m ∧ m ≤ 6) (hn0 : 0 < n) (next : ∀ (σ2 : zZ) (M1 : zw_M), lI M1 σ2 m n → zw_X l 7 iL_law lQ 1165 [.ref 37, .ref 0, .ref 33, .ref 34, .ref 35, .ref 36, .int (zn_I (n : Int)), .int (zn_I (m : Int)), .retAddr 0, .retAddr 0, .retAddr 0, .retAddr 0, .retAddr 0, .retAddr 0, .retAddr 0, .retAddr 0, .retAddr 0, .retAddr 0, .retAddr 0, .retAddr 0, .retAddr 0, .retAddr 0, .retAddr 0, .retAddr 0, .retAddr 0, .retAddr 0] [] M1) : zw_X l 7 iL_law lQ 168 [.ref 37, .ref 0, .ref 33, .ref 34, .ref 35, .ref 36, .int (zn_I (n : Int)), .int (zn_I (m : Int)), .retAddr 0, .retAddr 0, .retAddr 0, .retAddr 0, .retAddr 0, .retAddr 0, .retAddr 0, .retAddr 0, .retAddr 0, .retAddr 0, .retAddr 0, .retAddr 0, .retAddr 0, .retAddr 0, .retAddr 0, .retAddr 0, .retAddr 0, .retAddr 0] [] M := by
  have loop : ∀ u : Nat, u ≤ 12 → ∀ (σ : zZ) (M1 : zw_M), lI M1 σ m n → zw_X l 7 iL_law lQ 171 [.ref 37, .ref 0, .ref 33, .ref 34, .ref 35, .ref 36, .int (zn_I (n : Int)), .int (zn_I (m : Int)), .int (zn_I (u : Int)), .retAddr 0, .retAddr 0, .retAddr 0, .retAddr 0, .retAddr 0, .retAddr 0, .retAddr 0, .retAddr 0, .retAddr 0, .retAddr 0, .retAddr 0, .retAddr 0, .retAddr 0, .retAddr 0, .retAddr 0, .retAddr 0, .retAddr 0] [] M1 := by
    refine zw_loop 12 (P := fun u => ∀ (σ : zZ) (M1 : zw_M), lI M1 σ m n → zw_X l 7 iL_law lQ 171 [.ref 37, .ref 0, .ref 33, .ref 34, .ref 35, .ref 36, .int (zn_I (n : Int)), .int (zn_I (m : Int)), .int (zn_I (u : Int)), .retAddr 0, .retAddr 0, .retAddr 0, .retAddr 0, .retAddr 0, .retAddr 0, .retAddr 0, .retAddr 0, .retAddr 0, .retAddr 0, .retAddr 0, .retAddr 0, .retAddr 0, .retAddr 0, .retAddr 0, .retAddr 0, .retAddr 0] [] M1) (fun u hu ih σ M1 hI1 => ?_)
    obtain ⟨hC, hA, hB, hm, hn⟩ := id hI1
    have h30 := zp_30 hC.1.1
    refine zx_iload dL_law_171 rfl ?_
    refine zx_bipush (v := zn_I 12) dL_law_173 (by decide) ?_
    refine zy_icmp_ge (tgt := 1165) dL_law_175 (by decide) (by omega) (fun h_175 => ?_) (fun h_175 => ?_)
    · refine zx_weak (L1 := [.ref 37, .ref 0, .ref 33, .ref 34, .ref 35, .ref 36, .int (zn_I (n : Int)), .int (zn_I (m : Int)), .retAddr 0, .retAddr 0, .retAddr 0, .retAddr 0, .retAddr 0, .retAddr 0, .retAddr 0, .retAddr 0, .retAddr 0, .retAddr 0, .retAddr 0, .retAddr 0, .retAddr 0, .retAddr 0, .retAddr 0, .retAddr 0, .retAddr 0, .retAddr 0]) ⟨Or.inr rfl, ⟨Or.inr rfl, ⟨Or.inr rfl, ⟨Or.inr rfl, ⟨Or.inr rfl, ⟨Or.inr rfl, ⟨Or.inr rfl, ⟨Or.inr rfl, ⟨Or.inl rfl, ⟨Or.inl rfl, ⟨Or.inl rfl, ⟨Or.inl rfl, ⟨Or.inl rfl, ⟨Or.inl rfl, ⟨Or.inl rfl, ⟨Or.inl rfl, ⟨Or.inl rfl, ⟨Or.inl rfl, ⟨Or.inl rfl, ⟨Or.inl rfl, ⟨Or.inl rfl, ⟨Or.inl rfl, ⟨Or.inl rfl, ⟨Or.inl rfl, ⟨Or.inl rfl, ⟨Or.inl rfl, trivial⟩⟩⟩⟩⟩⟩⟩⟩⟩⟩⟩⟩⟩⟩⟩⟩⟩⟩⟩⟩⟩⟩⟩⟩⟩⟩ ?_
      exact next _ _ hI1
    · refine zx_aload_n dL_law_178 rfl ?_
      refine zx_bipush (v := zn_I 20) dL_law_179 (by decide) ?_
      refine zx_iload dL_law_181 rfl ?_
      refine zy_iadd dL_law_183 ?_
      refine zy_top (show _ = zn_I ((20 + u : Nat) : Int) from congrArg zn_I (by omega)) ?_
      refine zx_callS (y1 := iL_cell) dL_law_184 lL_14 sL_cell (mL_cell hL (k := 20 + u) (by omega)) rfl rfl (Nat.le_of_ble_eq_true rfl) ?_
      refine zk_i ?_
      have hxl := lS_lt l (20 + u)
      generalize lS l (20 + u) = x at hxl ⊢
      refine zx_istore dL_law_187 rfl (Nat.le_of_ble_eq_true rfl) ?_
      refine zx_iload dL_law_189 rfl ?_
      refine zx_iconst (v := zn_I 4) dL_law_191 rfl ?_
      refine zy_idiv (a := x) (b := 4) dL_law_192 (by omega) ?_
      refine zx_iload dL_law_193 rfl ?_
      refine zy_irem (a := x / 4) (b := m) dL_law_195 (by omega) ?_
      obtain ⟨a, ea⟩ : ∃ a, x / 4 % m = a := ⟨_, rfl⟩
      have haa : a < m := by rw [← ea]; exact Nat.mod_lt _ (by omega)
      rw [ea]
      refine zx_istore dL_law_196 rfl (Nat.le_of_ble_eq_true rfl) ?_
      refine zx_iload dL_law_198 rfl ?_
      refine zx_bipush (v := zn_I 32) dL_law_200 (by decide) ?_
      refine zy_idiv (a := x) (b := 32) dL_law_202 (by omega) ?_
      refine zx_iload dL_law_203 rfl ?_
      refine zy_irem (a := x / 32) (b := m) dL_law_205 (by omega) ?_
      obtain ⟨b, eb⟩ : ∃ b, x / 32 % m = b := ⟨_, rfl⟩
      have hbb : b < m := by rw [← eb]; exact Nat.mod_lt _ (by omega)
      rw [eb]
      refine zx_istore dL_law_206 rfl (Nat.le_of_ble_eq_true rfl) ?_
      refine zx_iload dL_law_208 rfl ?_
      refine zx_sipush (v := zn_I 256) dL_law_210 (by decide) ?_
      refine zy_idiv (a := x) (b := 256) dL_law_213 (by omega) ?_
      refine zx_bipush (v := zn_I 8) dL_law_214 (by decide) ?_
      refine zy_irem (a := x / 256) (b := 8) dL_law_216 (by omega) ?_
      obtain ⟨q, eq⟩ : ∃ q, x / 256 % 8 = q := ⟨_, rfl⟩
      have hqq : q < 8 := by rw [← eq]; exact Nat.mod_lt _ (by omega)
      rw [eq]
      refine zx_istore dL_law_217 rfl (Nat.le_of_ble_eq_true rfl) ?_
      refine zx_iload dL_law_219 rfl ?_
      refine zx_sipush (v := zn_I 2048) dL_law_221 (by decide) ?_
      refine zy_idiv (a := x) (b := 2048) dL_law_224 (by omega) ?_
      refine zx_iload dL_law_225 rfl ?_
      refine zy_irem (a := x / 2048) (b := n) dL_law_227 (by omega) ?_
      obtain ⟨c, ec⟩ : ∃ c, x / 2048 % n = c := ⟨_, rfl⟩
      have hcc : c < n := by rw [← ec]; exact Nat.mod_lt _ (by omega)
      rw [ec]
      have hkr := hC.2.1.2.2.2.2.2.1 a (by omega)
      refine zx_istore dL_law_228 rfl (Nat.le_of_ble_eq_true rfl) ?_
      refine zx_aload dL_law_230 rfl ?_
      refine zx_bipush (v := zn_I 10) dL_law_232 (by decide) ?_
      refine zx_iload dL_law_234 rfl ?_
      refine zy_imul dL_law_236 ?_
      refine zy_iald (i := 10 * a) dL_law_237 rfl (by decide) (by omega) (by omega) ((hB a haa).1.1) ?_
      refine zx_iconst (v := zn_I 2) dL_law_238 rfl ?_
      refine zy_icmp_le (tgt := 246) dL_law_239 (by decide) (by omega) (fun h_239 => ?_) (fun h_239 => ?_)
      · refine zx_iconst (v := zn_I 0) dL_law_246 rfl ?_
        refine zx_istore dL_law_247 rfl (Nat.le_of_ble_eq_true rfl) ?_
        refine lw_act hI1 hm6 haa hbb hqq hcc (gz := 0) (Or.inr ⟨rfl, fun r => by
          have r2 : zt_per σ.2.1 (Int.toNat (a : Int)) := r
          rw [Int.toNat_natCast] at r2
          rcases r2 with r2 | r2 <;> omega⟩) hxl (fun σ2 M2 hI2 => ?_)
        refine lw_about hI2 hm6 (fun M3 hI3 => ?_)
        refine lw_leans hI3 hm6 hcc (fun M4 hI4 => ?_)
        refine lw_late hI4 hm6 hn0 hxl (fun M5 hI5 => ?_)
        have ec : zk_count σ2 3 = (((zt_pl σ2.2.1 m).length : Nat) : Int) := by
          rw [← hI5.2.2.2.1]
          simp [zk_count, zt_m]
        refine zx_aload_n dL_law_1147 rfl ?_
        refine zx_iconst (v := zn_I 3) dL_law_1148 rfl ?_
        refine zx_callV (y1 := iX10_count) dL_law_1149 lL_28 vX10_count rc_0 (mX10_count hI5.1 (w := 3) (by omega)) rfl rfl (Nat.le_of_ble_eq_true rfl) ?_
        refine zk_i ?_
        rw [ec]
        refine zx_iload dL_law_1152 rfl ?_
        refine zy_icmp_eq (tgt := 1159) dL_law_1154 (by decide) (by have := lk_plle (τ := σ2.2.1) m; omega) (fun h_1154 => ?_) (fun h_1154 => ?_)
        · refine zy_iinc dL_law_1159 rfl rfl ?_
          refine zx_goto (tgt := 171) dL_law_1162 (by decide) ?_
          refine zx_weak (L1 := [.ref 37, .ref 0, .ref 33, .ref 34, .ref 35, .ref 36, .int (zn_I (n : Int)), .int (zn_I (m : Int)), .int (zn_I ((u + 1 : Nat) : Int)), .retAddr 0, .retAddr 0, .retAddr 0, .retAddr 0, .retAddr 0, .retAddr 0, .retAddr 0, .retAddr 0, .retAddr 0, .retAddr 0, .retAddr 0, .retAddr 0, .retAddr 0, .retAddr 0, .retAddr 0, .retAddr 0, .retAddr 0]) ⟨Or.inr rfl, ⟨Or.inr rfl, ⟨Or.inr rfl, ⟨Or.inr rfl, ⟨Or.inr rfl, ⟨Or.inr rfl, ⟨Or.inr rfl, ⟨Or.inr rfl, ⟨Or.inr rfl, ⟨Or.inl rfl, ⟨Or.inl rfl, ⟨Or.inl rfl, ⟨Or.inl rfl, ⟨Or.inl rfl, ⟨Or.inl rfl, ⟨Or.inl rfl, ⟨Or.inl rfl, ⟨Or.inl rfl, ⟨Or.inl rfl, ⟨Or.inl rfl, ⟨Or.inl rfl, ⟨Or.inl rfl, ⟨Or.inl rfl, ⟨Or.inl rfl, ⟨Or.inl rfl, ⟨Or.inl rfl, trivial⟩⟩⟩⟩⟩⟩⟩⟩⟩⟩⟩⟩⟩⟩⟩⟩⟩⟩⟩⟩⟩⟩⟩⟩⟩⟩ ?_
          exact ih (by omega) _ _ hI5
        · exact absurd rfl h_1154
      · refine zx_iconst (v := zn_I 1) dL_law_242 rfl ?_
        refine zx_goto (tgt := 247) dL_law_243 (by decide) ?_
        refine zx_istore dL_law_247 rfl (Nat.le_of_ble_eq_true rfl) ?_
        refine lw_act hI1 hm6 haa hbb hqq hcc (gz := 1) (Or.inl ⟨rfl, by show zt_per σ.2.1 (Int.toNat (a : Int)); rw [Int.toNat_natCast]; show _ ∨ _; omega⟩) hxl (fun σ2 M2 hI2 => ?_)
        refine lw_about hI2 hm6 (fun M3 hI3 => ?_)
        refine lw_leans hI3 hm6 hcc (fun M4 hI4 => ?_)
        refine lw_late hI4 hm6 hn0 hxl (fun M5 hI5 => ?_)
        have ec : zk_count σ2 3 = (((zt_pl σ2.2.1 m).length : Nat) : Int) := by
          rw [← hI5.2.2.2.1]
          simp [zk_count, zt_m]
        refine zx_aload_n dL_law_1147 rfl ?_
        refine zx_iconst (v := zn_I 3) dL_law_1148 rfl ?_
        refine zx_callV (y1 := iX10_count) dL_law_1149 lL_28 vX10_count rc_0 (mX10_count hI5.1 (w := 3) (by omega)) rfl rfl (Nat.le_of_ble_eq_true rfl) ?_
        refine zk_i ?_
        rw [ec]
        refine zx_iload dL_law_1152 rfl ?_
        refine zy_icmp_eq (tgt := 1159) dL_law_1154 (by decide) (by have := lk_plle (τ := σ2.2.1) m; omega) (fun h_1154 => ?_) (fun h_1154 => ?_)
        · refine zy_iinc dL_law_1159 rfl rfl ?_
          refine zx_goto (tgt := 171) dL_law_1162 (by decide) ?_
          refine zx_weak (L1 := [.ref 37, .ref 0, .ref 33, .ref 34, .ref 35, .ref 36, .int (zn_I (n : Int)), .int (zn_I (m : Int)), .int (zn_I ((u + 1 : Nat) : Int)), .retAddr 0, .retAddr 0, .retAddr 0, .retAddr 0, .retAddr 0, .retAddr 0, .retAddr 0, .retAddr 0, .retAddr 0, .retAddr 0, .retAddr 0, .retAddr 0, .retAddr 0, .retAddr 0, .retAddr 0, .retAddr 0, .retAddr 0]) ⟨Or.inr rfl, ⟨Or.inr rfl, ⟨Or.inr rfl, ⟨Or.inr rfl, ⟨Or.inr rfl, ⟨Or.inr rfl, ⟨Or.inr rfl, ⟨Or.inr rfl, ⟨Or.inr rfl, ⟨Or.inl rfl, ⟨Or.inl rfl, ⟨Or.inl rfl, ⟨Or.inl rfl, ⟨Or.inl rfl, ⟨Or.inl rfl, ⟨Or.inl rfl, ⟨Or.inl rfl, ⟨Or.inl rfl, ⟨Or.inl rfl, ⟨Or.inl rfl, ⟨Or.inl rfl, ⟨Or.inl rfl, ⟨Or.inl rfl, ⟨Or.inl rfl, ⟨Or.inl rfl, ⟨Or.inl rfl, trivial⟩⟩⟩⟩⟩⟩⟩⟩⟩⟩⟩⟩⟩⟩⟩⟩⟩⟩⟩⟩⟩⟩⟩⟩⟩⟩ ?_
          exact ih (by omega) _ _ hI5
        · exact absurd rfl h_1154
  refine zx_iconst (v := zn_I 0) dL_law_168 rfl ?_
  refine zx_istore dL_law_169 rfl (Nat.le_of_ble_eq_true rfl) ?_
  exact loop 0 (Nat.zero_le _) σ M hI
end
section
/-! THE LAW: what is refused; its beginning -/
set_option maxRecDepth 100000 in
set_option maxHeartbeats 600000 in
theorem lw_end {l : zw_Lh} {σ : zZ} {m n : Nat} {M : zw_M} (hI : lI M σ m n) (hm6 : 1 ≤ m ∧ m ≤ 6) (hn0 : 0 < n) : zw_X l 7 iL_law lQ 1165 [.ref 37, .ref 0, .ref 33, .ref 34, .ref 35, .ref 36, .int (zn_I (n : Int)), .int (zn_I (m : Int)), .retAddr 0, .retAddr 0, .retAddr 0, .retAddr 0, .retAddr 0, .retAddr 0, .retAddr 0, .retAddr 0, .retAddr 0, .retAddr 0, .retAddr 0, .retAddr 0, .retAddr 0, .retAddr 0, .retAddr 0, .retAddr 0, .retAddr 0, .retAddr 0] [] M := by
  obtain ⟨hC0, hA, hB, hm, hn⟩ := id hI
  have h30 := zp_30 hC0.1.1
  have h0 : zthing σ 0 := ⟨by omega, by omega⟩
  refine zx_aload_n dL_law_1165 rfl ?_
  refine zx_iload dL_law_1166 rfl ?_
  refine zx_iconst (v := zn_I 0) dL_law_1168 rfl ?_
  refine zx_callV (y1 := iX10_about) dL_law_1169 lL_71 vX10_about rc_0 (mX10_about hC0 (z := (m : Int)) (w := 0) (by omega) (by omega)) rfl rfl (Nat.le_of_ble_eq_true rfl) ?_
  intro v M1 he
  obtain ⟨rfl, hf1, hC1⟩ := he
  rw [show zk_about σ (m : Int) 0 = -101 from by rw [zk_about, if_pos (fun r => by have r2 := r.2; omega)]]
  refine zx_bipush (v := zn_I (-101)) dL_law_1172 (by decide) ?_
  refine zy_icmp_ne (tgt := 1435) dL_law_1174 (by decide) (by omega) (fun h_1174 => ?_) (fun h_1174 => ?_)
  · exact absurd rfl h_1174
  · refine zx_aload_n dL_law_1177 rfl ?_
    refine zx_iconst (v := zn_I 0) dL_law_1178 rfl ?_
    refine zx_iconst (v := zn_I 3) dL_law_1179 rfl ?_
    refine zx_callV (y1 := iX10_about) dL_law_1180 lL_71 vX10_about rc_0 (mX10_about hC1 (z := 0) (w := 3) (by omega) (by omega)) rfl rfl (Nat.le_of_ble_eq_true rfl) ?_
    intro v M2 he
    obtain ⟨rfl, hf2, hC2⟩ := he
    rw [show zk_about σ 0 3 = -102 from by rw [zk_about, if_neg (fun r => r h0), if_neg (by decide), if_neg (by decide), if_neg (by decide), if_neg (by decide)]]
    refine zx_bipush (v := zn_I (-102)) dL_law_1183 (by decide) ?_
    refine zy_icmp_ne (tgt := 1435) dL_law_1185 (by decide) (by omega) (fun h_1185 => ?_) (fun h_1185 => ?_)
    · exact absurd rfl h_1185
    · refine zx_aload_n dL_law_1188 rfl ?_
      refine zx_iconst (v := zn_I 0) dL_law_1189 rfl ?_
      refine zx_bipush (v := zn_I 9) dL_law_1190 (by decide) ?_
      refine zx_callV (y1 := iX10_about) dL_law_1192 lL_71 vX10_about rc_0 (mX10_about hC2 (z := 0) (w := 9) (by omega) (by omega)) rfl rfl (Nat.le_of_ble_eq_true rfl) ?_
      intro v M3 he
      obtain ⟨rfl, hf3, hC3⟩ := he
      rw [show zk_about σ 0 9 = -102 from by rw [zk_about, if_neg (fun r => r h0), if_neg (by decide), if_neg (by decide), if_neg (by decide), if_neg (by decide)]]
      refine zx_bipush (v := zn_I (-102)) dL_law_1195 (by decide) ?_
      refine zy_icmp_ne (tgt := 1435) dL_law_1197 (by decide) (by omega) (fun h_1197 => ?_) (fun h_1197 => ?_)
      · exact absurd rfl h_1197
      · refine zx_aload_n dL_law_1200 rfl ?_
        refine zx_iconst (v := zn_I 0) dL_law_1201 rfl ?_
        refine zx_bipush (v := zn_I 18) dL_law_1202 (by decide) ?_
        refine zx_callV (y1 := iX10_about) dL_law_1204 lL_71 vX10_about rc_0 (mX10_about hC3 (z := 0) (w := 18) (by omega) (by omega)) rfl rfl (Nat.le_of_ble_eq_true rfl) ?_
        intro v M4 he
        obtain ⟨rfl, hf4, hC4⟩ := he
        rw [show zk_about σ 0 18 = -102 from by rw [zk_about, if_neg (fun r => r h0), if_neg (by decide), if_neg (by decide), if_neg (by decide), if_neg (by decide)]]
        refine zx_bipush (v := zn_I (-102)) dL_law_1207 (by decide) ?_
        refine zy_icmp_ne (tgt := 1435) dL_law_1209 (by decide) (by omega) (fun h_1209 => ?_) (fun h_1209 => ?_)
        · exact absurd rfl h_1209
        · refine zx_aload_n dL_law_1212 rfl ?_
          refine zx_iload dL_law_1213 rfl ?_
          refine zx_iconst (v := zn_I 0) dL_law_1215 rfl ?_
          refine zx_callV (y1 := iX10_as) dL_law_1216 lL_62 vX10_as rc_0 (mX10_as hC4 (z := (m : Int)) (k := 0) (by omega) (by omega)) rfl rfl (Nat.le_of_ble_eq_true rfl) ?_
          intro v M5 he
          obtain ⟨rfl, hf5, hC5⟩ := he
          rw [show zk_as σ (m : Int) 0 = -101 from by rw [zk_as, if_pos (fun r => by have r2 := r.2; omega)]]
          refine zx_bipush (v := zn_I (-101)) dL_law_1219 (by decide) ?_
          refine zy_icmp_ne (tgt := 1435) dL_law_1221 (by decide) (by omega) (fun h_1221 => ?_) (fun h_1221 => ?_)
          · exact absurd rfl h_1221
          · refine zx_aload_n dL_law_1224 rfl ?_
            refine zx_iconst (v := zn_I 0) dL_law_1225 rfl ?_
            refine zx_iconst (v := zn_I 5) dL_law_1226 rfl ?_
            refine zx_callV (y1 := iX10_as) dL_law_1227 lL_62 vX10_as rc_0 (mX10_as hC5 (z := 0) (k := 5) (by omega) (by omega)) rfl rfl (Nat.le_of_ble_eq_true rfl) ?_
            intro v M6 he
            obtain ⟨rfl, hf6, hC6⟩ := he
            rw [show zk_as σ 0 5 = -102 from by rw [zk_as, if_neg (fun r => r h0), if_pos (by decide)]]
            refine zx_bipush (v := zn_I (-102)) dL_law_1230 (by decide) ?_
            refine zy_icmp_ne (tgt := 1435) dL_law_1232 (by decide) (by omega) (fun h_1232 => ?_) (fun h_1232 => ?_)
            · exact absurd rfl h_1232
            · refine zx_aload_n dL_law_1235 rfl ?_
              refine zx_iload dL_law_1236 rfl ?_
              refine zx_iconst (v := zn_I 0) dL_law_1238 rfl ?_
              refine zx_iconst (v := zn_I 0) dL_law_1239 rfl ?_
              refine zx_callV (y1 := iX10_stand) dL_law_1240 lL_39 vX10_stand rc_0 (mX10_stand hC6 (z := (m : Int)) (q := 0) (s := 0) (by omega) (by omega) (by omega)) rfl rfl (Nat.le_of_ble_eq_true rfl) ?_
              intro v M7 he
              obtain ⟨rfl, hf7, hC7⟩ := he
              rw [show zk_stand σ (m : Int) 0 0 = -101 from by rw [zk_stand, if_pos (fun r => by have r2 := r.1.2; omega)]]
              rw [show zk_standS σ (m : Int) 0 0 = σ from by rw [zk_standS, if_neg (fun r => by have r2 := r.1.1.2; omega)]] at hC7
              refine zx_bipush (v := zn_I (-101)) dL_law_1243 (by decide) ?_
              refine zy_icmp_ne (tgt := 1435) dL_law_1245 (by decide) (by omega) (fun h_1245 => ?_) (fun h_1245 => ?_)
              · exact absurd rfl h_1245
              · refine zx_aload_n dL_law_1248 rfl ?_
                refine zx_iconst (v := zn_I 0) dL_law_1249 rfl ?_
                refine zx_bipush (v := zn_I 8) dL_law_1250 (by decide) ?_
                refine zx_iconst (v := zn_I 0) dL_law_1252 rfl ?_
                refine zx_callV (y1 := iX10_stand) dL_law_1253 lL_39 vX10_stand rc_0 (mX10_stand hC7 (z := 0) (q := 8) (s := 0) (by omega) (by omega) (by omega)) rfl rfl (Nat.le_of_ble_eq_true rfl) ?_
                intro v M8 he
                obtain ⟨rfl, hf8, hC8⟩ := he
                rw [show zk_stand σ 0 8 0 = -101 from by rw [zk_stand, if_pos (fun r => by have r2 := r.2.1.2; omega)]]
                rw [show zk_standS σ 0 8 0 = σ from by rw [zk_standS, if_neg (fun r => by have r2 := r.1.2.1.2; omega)]] at hC8
                refine zx_bipush (v := zn_I (-101)) dL_law_1256 (by decide) ?_
                refine zy_icmp_ne (tgt := 1435) dL_law_1258 (by decide) (by omega) (fun h_1258 => ?_) (fun h_1258 => ?_)
                · exact absurd rfl h_1258
                · refine zx_aload_n dL_law_1261 rfl ?_
                  refine zx_iconst (v := zn_I 0) dL_law_1262 rfl ?_
                  refine zx_iconst (v := zn_I 0) dL_law_1263 rfl ?_
                  refine zx_iload dL_law_1264 rfl ?_
                  refine zx_callV (y1 := iX10_stand) dL_law_1266 lL_39 vX10_stand rc_0 (mX10_stand hC8 (z := 0) (q := 0) (s := (n : Int)) (by omega) (by omega) (by omega)) rfl rfl (Nat.le_of_ble_eq_true rfl) ?_
                  intro v M9 he
                  obtain ⟨rfl, hf9, hC9⟩ := he
                  rw [show zk_stand σ 0 0 (n : Int) = -101 from by rw [zk_stand, if_pos (fun r => by have r2 := r.2.2.2; omega)]]
                  rw [show zk_standS σ 0 0 (n : Int) = σ from by rw [zk_standS, if_neg (fun r => by have r2 := r.1.2.2.2; omega)]] at hC9
                  refine zx_bipush (v := zn_I (-101)) dL_law_1269 (by decide) ?_
                  refine zy_icmp_ne (tgt := 1435) dL_law_1271 (by decide) (by omega) (fun h_1271 => ?_) (fun h_1271 => ?_)
                  · exact absurd rfl h_1271
                  · refine zx_aload_n dL_law_1274 rfl ?_
                    refine zx_iload dL_law_1275 rfl ?_
                    refine zx_iconst (v := zn_I 0) dL_law_1277 rfl ?_
                    refine zx_callV (y1 := iX10_put) dL_law_1278 lL_66 vX10_put rc_0 (mX10_put hC9 (z := (m : Int)) (s := 0) (by omega) (by omega)) rfl rfl (Nat.le_of_ble_eq_true rfl) ?_
                    intro v M10 he
                    obtain ⟨rfl, hf10, hC10⟩ := he
                    rw [show zk_put σ (m : Int) 0 = -101 from by rw [zk_put, if_pos (fun r => by have r2 := r.1.2; omega)]]
                    rw [show zk_putS σ (m : Int) 0 = σ from by rw [zk_putS, if_neg (fun r => by have r2 := r.1.1.2; omega)]] at hC10
                    refine zx_bipush (v := zn_I (-101)) dL_law_1281 (by decide) ?_
                    refine zy_icmp_ne (tgt := 1435) dL_law_1283 (by decide) (by omega) (fun h_1283 => ?_) (fun h_1283 => ?_)
                    · exact absurd rfl h_1283
                    · refine zx_aload_n dL_law_1286 rfl ?_
                      refine zx_iconst (v := zn_I 0) dL_law_1287 rfl ?_
                      refine zx_iload dL_law_1288 rfl ?_
                      refine zx_callV (y1 := iX10_put) dL_law_1290 lL_66 vX10_put rc_0 (mX10_put hC10 (z := 0) (s := (n : Int)) (by omega) (by omega)) rfl rfl (Nat.le_of_ble_eq_true rfl) ?_
                      intro v M11 he
                      obtain ⟨rfl, hf11, hC11⟩ := he
                      rw [show zk_put σ 0 (n : Int) = -101 from by rw [zk_put, if_pos (fun r => by have r2 := r.2.2; omega)]]
                      rw [show zk_putS σ 0 (n : Int) = σ from by rw [zk_putS, if_neg (fun r => by have r2 := r.1.2.2; omega)]] at hC11
                      refine zx_bipush (v := zn_I (-101)) dL_law_1293 (by decide) ?_
                      refine zy_icmp_ne (tgt := 1435) dL_law_1295 (by decide) (by omega) (fun h_1295 => ?_) (fun h_1295 => ?_)
                      · exact absurd rfl h_1295
                      · refine zx_aload_n dL_law_1298 rfl ?_
                        refine zx_iconst (v := zn_I 0) dL_law_1299 rfl ?_
                        refine zx_iload dL_law_1300 rfl ?_
                        refine zx_iconst (v := zn_I 0) dL_law_1302 rfl ?_
                        refine zx_callV (y1 := iX10_trade) dL_law_1303 lL_68 vX10_trade rc_0 (mX10_trade hC11 (a := 0) (b := (m : Int)) (q := 0) (by omega) (by omega) (by omega)) rfl rfl (Nat.le_of_ble_eq_true rfl) ?_
                        intro v M12 he
                        obtain ⟨rfl, hf12, hC12⟩ := he
                        rw [show zk_trade σ 0 (m : Int) 0 = -101 from by rw [zk_trade, if_pos (fun r => by have r2 := r.2.1.2; omega)]]
                        rw [show zk_tradeS σ 0 (m : Int) 0 = σ from by rw [zk_tradeS, if_neg (fun r => by have r2 := r.1.2.1.2; omega)]] at hC12
                        refine zx_bipush (v := zn_I (-101)) dL_law_1306 (by decide) ?_
                        refine zy_icmp_ne (tgt := 1435) dL_law_1308 (by decide) (by omega) (fun h_1308 => ?_) (fun h_1308 => ?_)
                        · exact absurd rfl h_1308
                        · refine zx_aload_n dL_law_1311 rfl ?_
                          refine zx_iconst (v := zn_I 0) dL_law_1312 rfl ?_
                          refine zx_iconst (v := zn_I 0) dL_law_1313 rfl ?_
                          refine zx_bipush (v := zn_I 8) dL_law_1314 (by decide) ?_
                          refine zx_callV (y1 := iX10_trade) dL_law_1316 lL_68 vX10_trade rc_0 (mX10_trade hC12 (a := 0) (b := 0) (q := 8) (by omega) (by omega) (by omega)) rfl rfl (Nat.le_of_ble_eq_true rfl) ?_
                          intro v M13 he
                          obtain ⟨rfl, hf13, hC13⟩ := he
                          rw [show zk_trade σ 0 0 8 = -101 from by rw [zk_trade, if_pos (fun r => by have r2 := r.2.2.2; omega)]]
                          rw [show zk_tradeS σ 0 0 8 = σ from by rw [zk_tradeS, if_neg (fun r => by have r2 := r.1.2.2.2; omega)]] at hC13
                          refine zx_bipush (v := zn_I (-101)) dL_law_1319 (by decide) ?_
                          refine zy_icmp_ne (tgt := 1435) dL_law_1321 (by decide) (by omega) (fun h_1321 => ?_) (fun h_1321 => ?_)
                          · exact absurd rfl h_1321
                          · refine zx_aload_n dL_law_1324 rfl ?_
                            refine zx_bipush (v := zn_I 8) dL_law_1325 (by decide) ?_
                            refine zx_iconst (v := zn_I 0) dL_law_1327 rfl ?_
                            refine zx_callV (y1 := iX10_leans) dL_law_1328 lL_74 vX10_leans rc_0 (mX10_leans hC13 (q := 8) (w := 0) (by omega) (by omega)) rfl rfl (Nat.le_of_ble_eq_true rfl) ?_
                            intro v M14 he
                            obtain ⟨rfl, hf14, hC14⟩ := he
                            rw [show zk_leans σ 8 0 = -100101 from by rw [zk_leans, if_pos (by decide)]]
                            refine zx_ldc dL_law_1331 kL_89 ?_
                            refine zy_top (show (-100101 : Int32) = zn_I (-100101) from by decide) ?_
                            refine zy_icmp_ne (tgt := 1435) dL_law_1333 (by decide) (by omega) (fun h_1333 => ?_) (fun h_1333 => ?_)
                            · exact absurd rfl h_1333
                            · refine zx_aload_n dL_law_1336 rfl ?_
                              refine zx_iconst (v := zn_I 0) dL_law_1337 rfl ?_
                              refine zx_iconst (v := zn_I 2) dL_law_1338 rfl ?_
                              refine zx_callV (y1 := iX10_leans) dL_law_1339 lL_74 vX10_leans rc_0 (mX10_leans hC14 (q := 0) (w := 2) (by omega) (by omega)) rfl rfl (Nat.le_of_ble_eq_true rfl) ?_
                              intro v M15 he
                              obtain ⟨rfl, hf15, hC15⟩ := he
                              rw [show zk_leans σ 0 2 = -100102 from by rw [zk_leans, if_neg (by decide), if_neg (by decide), if_neg (by decide)]]
                              refine zx_ldc dL_law_1342 kL_90 ?_
                              refine zy_top (show (-100102 : Int32) = zn_I (-100102) from by decide) ?_
                              refine zy_icmp_ne (tgt := 1435) dL_law_1344 (by decide) (by omega) (fun h_1344 => ?_) (fun h_1344 => ?_)
                              · exact absurd rfl h_1344
                              · refine zx_aload_n dL_law_1347 rfl ?_
                                refine zx_iload dL_law_1348 rfl ?_
                                refine zx_iconst (v := zn_I 0) dL_law_1350 rfl ?_
                                refine zx_callV (y1 := iX10_dip) dL_law_1351 lL_79 vX10_dip rc_0 (mX10_dip hC15 (s := (n : Int)) (q := 0) (by omega) (by omega)) rfl rfl (Nat.le_of_ble_eq_true rfl) ?_
                                intro v M16 he
                                obtain ⟨rfl, hf16, hC16⟩ := he
                                rw [show zk_dip σ (n : Int) 0 = -1000101 from by rw [zk_dip, if_pos (fun r => by have r2 := r.1.2; omega)]]
                                refine zx_ldc dL_law_1354 kL_91 ?_
                                refine zy_top (show (-1000101 : Int32) = zn_I (-1000101) from by decide) ?_
                                refine zy_icmp_ne (tgt := 1435) dL_law_1356 (by decide) (by omega) (fun h_1356 => ?_) (fun h_1356 => ?_)
                                · exact absurd rfl h_1356
                                · refine zx_aload_n dL_law_1359 rfl ?_
                                  refine zx_iconst (v := zn_I 0) dL_law_1360 rfl ?_
                                  refine zx_bipush (v := zn_I 8) dL_law_1361 (by decide) ?_
                                  refine zx_callV (y1 := iX10_dip) dL_law_1363 lL_79 vX10_dip rc_0 (mX10_dip hC16 (s := 0) (q := 8) (by omega) (by omega)) rfl rfl (Nat.le_of_ble_eq_true rfl) ?_
                                  intro v M17 he
                                  obtain ⟨rfl, hf17, hC17⟩ := he
                                  rw [show zk_dip σ 0 8 = -1000101 from by rw [zk_dip, if_pos (fun r => by have r2 := r.2.2; omega)]]
                                  refine zx_ldc dL_law_1366 kL_91 ?_
                                  refine zy_top (show (-1000101 : Int32) = zn_I (-1000101) from by decide) ?_
                                  refine zy_icmp_ne (tgt := 1435) dL_law_1368 (by decide) (by omega) (fun h_1368 => ?_) (fun h_1368 => ?_)
                                  · exact absurd rfl h_1368
                                  · refine zx_aload_n dL_law_1371 rfl ?_
                                    refine zx_bipush (v := zn_I 8) dL_law_1372 (by decide) ?_
                                    refine zx_callV (y1 := iX10_wet) dL_law_1374 lL_77 vX10_wet rc_0 (mX10_wet hC17 (q := 8) (by omega)) rfl rfl (Nat.le_of_ble_eq_true rfl) ?_
                                    intro v M18 he
                                    obtain ⟨rfl, hf18, hC18⟩ := he
                                    rw [show zk_wet σ 8 = -101 from by rw [zk_wet, if_neg (by decide)]]
                                    refine zx_bipush (v := zn_I (-101)) dL_law_1377 (by decide) ?_
                                    refine zy_icmp_ne (tgt := 1435) dL_law_1379 (by decide) (by omega) (fun h_1379 => ?_) (fun h_1379 => ?_)
                                    · exact absurd rfl h_1379
                                    · refine zx_aload_n dL_law_1382 rfl ?_
                                      refine zx_iconst (v := zn_I 0) dL_law_1383 rfl ?_
                                      refine zx_iconst (v := zn_I 0) dL_law_1384 rfl ?_
                                      refine zx_iconst (v := zn_I 0) dL_law_1385 rfl ?_
                                      refine zx_callV (y1 := iX10_late) dL_law_1386 lL_86 vX10_late rc_0 (mX10_late hC18 (q := 0) (e := 0) (x := 0) (by omega) (by omega) (by omega)) rfl rfl (Nat.le_of_ble_eq_true rfl) ?_
                                      intro v M19 he
                                      obtain ⟨rfl, hf19, hC19⟩ := he
                                      rw [show zk_late σ 0 0 0 = -101 from by rw [zk_late, if_pos (by decide)]]
                                      refine zx_bipush (v := zn_I (-101)) dL_law_1389 (by decide) ?_
                                      refine zy_icmp_ne (tgt := 1435) dL_law_1391 (by decide) (by omega) (fun h_1391 => ?_) (fun h_1391 => ?_)
                                      · exact absurd rfl h_1391
                                      · refine zx_aload_n dL_law_1394 rfl ?_
                                        refine zx_bipush (v := zn_I 8) dL_law_1395 (by decide) ?_
                                        refine zx_iconst (v := zn_I 0) dL_law_1397 rfl ?_
                                        refine zx_iconst (v := zn_I 0) dL_law_1398 rfl ?_
                                        refine zx_callV (y1 := iX10_late) dL_law_1399 lL_86 vX10_late rc_0 (mX10_late hC19 (q := 8) (e := 0) (x := 0) (by omega) (by omega) (by omega)) rfl rfl (Nat.le_of_ble_eq_true rfl) ?_
                                        intro v M20 he
                                        obtain ⟨rfl, hf20, hC20⟩ := he
                                        rw [show zk_late σ 8 0 0 = -101 from by rw [zk_late, if_pos (by decide)]]
                                        refine zx_bipush (v := zn_I (-101)) dL_law_1402 (by decide) ?_
                                        refine zy_icmp_ne (tgt := 1435) dL_law_1404 (by decide) (by omega) (fun h_1404 => ?_) (fun h_1404 => ?_)
                                        · exact absurd rfl h_1404
                                        · refine zx_aload_n dL_law_1407 rfl ?_
                                          refine zx_iconst (v := zn_I 1) dL_law_1408 rfl ?_
                                          refine zx_iconst (v := zn_I (-1)) dL_law_1409 rfl ?_
                                          refine zx_iconst (v := zn_I 0) dL_law_1410 rfl ?_
                                          refine zx_callV (y1 := iX10_late) dL_law_1411 lL_86 vX10_late rc_0 (mX10_late hC20 (q := 1) (e := -1) (x := 0) (by omega) (by omega) (by omega)) rfl rfl (Nat.le_of_ble_eq_true rfl) ?_
                                          intro v M21 he
                                          obtain ⟨rfl, hf21, hC21⟩ := he
                                          rw [show zk_late σ 1 (-1) 0 = -102 from by rw [zk_late, if_neg (by decide), if_pos (fun r => by have r2 := r.1.1; omega)]]
                                          refine zx_bipush (v := zn_I (-102)) dL_law_1414 (by decide) ?_
                                          refine zy_icmp_ne (tgt := 1435) dL_law_1416 (by decide) (by omega) (fun h_1416 => ?_) (fun h_1416 => ?_)
                                          · exact absurd rfl h_1416
                                          · refine zx_aload_n dL_law_1419 rfl ?_
                                            refine zx_iconst (v := zn_I 1) dL_law_1420 rfl ?_
                                            refine zx_iconst (v := zn_I 0) dL_law_1421 rfl ?_
                                            refine zx_iconst (v := zn_I 3) dL_law_1422 rfl ?_
                                            refine zx_callV (y1 := iX10_late) dL_law_1423 lL_86 vX10_late rc_0 (mX10_late hC21 (q := 1) (e := 0) (x := 3) (by omega) (by omega) (by omega)) rfl rfl (Nat.le_of_ble_eq_true rfl) ?_
                                            intro v M22 he
                                            obtain ⟨rfl, hf22, hC22⟩ := he
                                            rw [show zk_late σ 1 0 3 = -102 from by rw [zk_late, if_neg (by decide), if_pos (fun r => by have r2 := r.2.2; omega)]]
                                            refine zx_bipush (v := zn_I (-102)) dL_law_1426 (by decide) ?_
                                            refine zy_icmp_ne (tgt := 1435) dL_law_1428 (by decide) (by omega) (fun h_1428 => ?_) (fun h_1428 => ?_)
                                            · exact absurd rfl h_1428
                                            · refine zx_iconst (v := zn_I 1) dL_law_1431 rfl ?_
                                              refine zx_goto (tgt := 1436) dL_law_1432 (by decide) ?_
                                              refine zx_iret (st := []) dL_law_1436 rfl rfl ?_
                                              exact rfl
set_option maxRecDepth 100000 in
set_option maxHeartbeats 600000 in
theorem lw_all {l : zw_Lh} {M : zw_M} {σ : zZ} (hL : l.2.1 ≤ 260) (hC : zC_ M σ) (hρ : σ.2.2.1.1 = 0) : zw_X l 7 iL_law lQ 29 [.ref 37, .ref 0, .ref 33, .ref 34, .ref 35, .ref 36, .retAddr 0, .retAddr 0, .retAddr 0, .retAddr 0, .retAddr 0, .retAddr 0, .retAddr 0, .retAddr 0, .retAddr 0, .retAddr 0, .retAddr 0, .retAddr 0, .retAddr 0, .retAddr 0, .retAddr 0, .retAddr 0, .retAddr 0, .retAddr 0, .retAddr 0, .retAddr 0] [] M := by
  obtain ⟨r, er⟩ : ∃ r, 2 + lS l 0 % 4 = r := ⟨_, rfl⟩
  obtain ⟨w, ew⟩ : ∃ w, 2 + lS l 0 / 8 % 5 = w := ⟨_, rfl⟩
  refine zx_aload_n dL_law_29 rfl ?_
  refine zx_aload_n dL_law_30 rfl ?_
  refine zx_iconst (v := zn_I 0) dL_law_31 rfl ?_
  refine zx_iconst (v := zn_I 5) dL_law_32 rfl ?_
  refine zx_aload_n dL_law_33 rfl ?_
  refine zx_aload_n dL_law_34 rfl ?_
  refine zx_callS (y1 := iL_plan) dL_law_35 lL_56 sL_plan (mL_plan hC hρ hL er.symm ew.symm) rfl rfl (Nat.le_of_ble_eq_true rfl) ?_
  intro v M1 he
  obtain ⟨rfl, hf1, σ1, hC1, hA1, hr1, hw1, ht1⟩ := he
  refine zy_if_ne (tgt := 43) dL_law_38 (by decide) (by omega) (fun h_38 => ?_) (fun h_38 => ?_)
  · refine zx_aload_n dL_law_43 rfl ?_
    refine zx_iconst (v := zn_I 0) dL_law_44 rfl ?_
    refine zy_iald (i := 0) dL_law_45 rfl (by decide) (by omega) (by omega) (hA1.1) ?_
    refine zx_aload_n dL_law_46 rfl ?_
    refine zx_iconst (v := zn_I 1) dL_law_47 rfl ?_
    refine zy_iald (i := 1) dL_law_48 rfl (by decide) (by omega) (by omega) (hA1.2.1) ?_
    refine zy_imul dL_law_49 ?_
    refine zy_top (show _ = zn_I (zp_n σ1.1 : Nat) from congrArg zn_I (Int.natCast_mul σ1.1.1 σ1.1.2.1).symm) ?_
    have h30 := zp_30 hC1.1.1
    obtain ⟨n, en⟩ : ∃ n, zp_n σ1.1 = n := ⟨_, rfl⟩
    rw [en]
    have hn0 : 0 < n := by rw [← en]; exact Nat.mul_pos (by omega) (by omega)
    refine zx_istore dL_law_50 rfl (Nat.le_of_ble_eq_true rfl) ?_
    refine zx_iconst (v := zn_I 1) dL_law_52 rfl ?_
    refine zx_aload_n dL_law_53 rfl ?_
    refine zx_bipush (v := zn_I 7) dL_law_54 (by decide) ?_
    refine zx_callS (y1 := iL_cell) dL_law_56 lL_14 sL_cell (mL_cell hL (k := 7) (by omega)) rfl rfl (Nat.le_of_ble_eq_true rfl) ?_
    refine zk_i ?_
    refine zx_bipush (v := zn_I 6) dL_law_59 (by decide) ?_
    refine zy_irem (a := lS l 7) (b := 6) dL_law_61 (by have := lS_lt l 7; omega) ?_
    refine zy_iadd dL_law_62 ?_
    refine zy_top (show _ = zn_I ((1 + lS l 7 % 6 : Nat) : Int) from congrArg zn_I (by omega)) ?_
    obtain ⟨m, em⟩ : ∃ m, 1 + lS l 7 % 6 = m := ⟨_, rfl⟩
    have hm6 : 1 ≤ m ∧ m ≤ 6 := by omega
    rw [em]
    refine zx_istore dL_law_63 rfl (Nat.le_of_ble_eq_true rfl) ?_
    refine zx_aload_n dL_law_65 rfl ?_
    refine zx_aload_n dL_law_66 rfl ?_
    refine zx_bipush (v := zn_I 8) dL_law_67 (by decide) ?_
    refine zx_iload dL_law_69 rfl ?_
    refine zx_aload_n dL_law_71 rfl ?_
    refine zx_aload dL_law_72 rfl ?_
    refine zx_callS (y1 := iL_things) dL_law_74 lL_59 sL_things (mL_things hC1 hA1 ht1 ⟨by omega, by omega⟩ hm6 hL) rfl rfl (Nat.le_of_ble_eq_true rfl) ?_
    intro v M2 he
    obtain ⟨rfl, hf2, τ2, hC2, ht2, hB2⟩ := he
    have hI : lI M2 (zst σ1 τ2) m n := ⟨hC2, lA_f hf2 hA1 (by decide), hB2, ht2, en⟩
    refine zy_if_ne (tgt := 82) dL_law_77 (by decide) (by omega) (fun h_77 => ?_) (fun h_77 => ?_)
    · refine zx_iconst (v := zn_I 0) dL_law_82 rfl ?_
      refine zx_istore dL_law_83 rfl (Nat.le_of_ble_eq_true rfl) ?_
      refine zx_weak (L1 := [.ref 37, .ref 0, .ref 33, .ref 34, .ref 35, .ref 36, .int (zn_I (n : Int)), .int (zn_I (m : Int)), .int (zn_I (0 : Int)), .retAddr 0, .retAddr 0, .retAddr 0, .retAddr 0, .retAddr 0, .retAddr 0, .retAddr 0, .retAddr 0, .retAddr 0, .retAddr 0, .retAddr 0, .retAddr 0, .retAddr 0, .retAddr 0, .retAddr 0, .retAddr 0, .retAddr 0]) ⟨Or.inr rfl, ⟨Or.inr rfl, ⟨Or.inr rfl, ⟨Or.inr rfl, ⟨Or.inr rfl, ⟨Or.inr rfl, ⟨Or.inr rfl, ⟨Or.inr rfl, ⟨Or.inr rfl, ⟨Or.inl rfl, ⟨Or.inl rfl, ⟨Or.inl rfl, ⟨Or.inl rfl, ⟨Or.inl rfl, ⟨Or.inl rfl, ⟨Or.inl rfl, ⟨Or.inl rfl, ⟨Or.inl rfl, ⟨Or.inl rfl, ⟨Or.inl rfl, ⟨Or.inl rfl, ⟨Or.inl rfl, ⟨Or.inl rfl, ⟨Or.inl rfl, ⟨Or.inl rfl, ⟨Or.inl rfl, trivial⟩⟩⟩⟩⟩⟩⟩⟩⟩⟩⟩⟩⟩⟩⟩⟩⟩⟩⟩⟩⟩⟩⟩⟩⟩⟩ ?_
      refine lw_as hI hm6 (fun M3 hI3 => ?_)
      refine lw_turns hL hI3 hm6 hn0 (fun σ4 M4 hI4 => ?_)
      exact lw_end hI4 hm6 hn0
    · exact absurd h_77 (by omega)
  · exact absurd h_38 (by omega)
end

def RX0 : String := "RegisterFleet$Bag"
def TX0 : u_T := fun k => match k with
  | 0 => ("RegisterFleet$Bag", "lying", "Ljava/util/ArrayList;", true)
  | 1 => ("RegisterFleet$Bag", "spare", "Ljava/util/ArrayList;", true)
  | _ => ("RegisterFleet$Bag", "everLain", "I", false)
def tyX0 : Nat → FieldType := fun k => match k with
  | 0 => .object "java/util/ArrayList"
  | 1 => .object "java/util/ArrayList"
  | _ => .int
abbrev wsX00 : List Cond := u_ws RX0 TX0 3
theorem nmX0 : ∀ a, a < 3 → ∀ b, b < 3 → a ≠ b → (TX0 a).2.1 ≠ (TX0 b).2.1 := by decide +kernel
theorem tyX0_ok : ∀ k, k < 3 → parseFieldDescriptor (TX0 k).2.2.1 = some (tyX0 k) := by decide +kernel
abbrev cX0_init : ByteArray := prog_2_method_1_code
def yX0_init : MethodName := ⟨RX0, "<init>", "()V"⟩
abbrev cX0_restart : ByteArray := prog_2_method_2_code
def yX0_restart : MethodName := ⟨RX0, "restart", "()V"⟩
abbrev cX0_size : ByteArray := prog_2_method_3_code
def yX0_size : MethodName := ⟨RX0, "size", "()I"⟩
abbrev cX0_has : ByteArray := prog_2_method_4_code
def yX0_has : MethodName := ⟨RX0, "has", "(I)Z"⟩
abbrev cX0_look : ByteArray := prog_2_method_5_code
def yX0_look : MethodName := ⟨RX0, "look", "(I)LRegisterFleet$Message;"⟩
abbrev cX0_take : ByteArray := prog_2_method_6_code
def yX0_take : MethodName := ⟨RX0, "take", "(I)LRegisterFleet$Message;"⟩
abbrev cX0_reuse : ByteArray := prog_2_method_7_code
def yX0_reuse : MethodName := ⟨RX0, "reuse", "(LRegisterFleet$Message;)V"⟩
abbrev cX0_post : ByteArray := prog_2_method_8_code
def yX0_post : MethodName := ⟨RX0, "post", "(IIILRegisterFleet$SetMap;)LRegisterFleet$Message;"⟩
def RX1 : String := "RegisterFleet$Client"
def TX1 : u_T := fun k => match k with
  | 0 => ("RegisterFleet$Client", "index", "I", true)
  | 1 => ("RegisterFleet$Client", "map", "LRegisterFleet$SetMap;", true)
  | 2 => ("RegisterFleet$Client", "marks", "[I", true)
  | 3 => ("RegisterFleet$Client", "contents", "[I", true)
  | 4 => ("RegisterFleet$Client", "task", "LRegisterFleet$Operation;", false)
  | 5 => ("RegisterFleet$Client", "stopped", "Z", false)
  | 6 => ("RegisterFleet$Client", "round", "I", false)
  | 7 => ("RegisterFleet$Client", "phase", "I", false)
  | 8 => ("RegisterFleet$Client", "asked", "I", false)
  | 9 => ("RegisterFleet$Client", "answered", "I", false)
  | 10 => ("RegisterFleet$Client", "ballot", "I", false)
  | 11 => ("RegisterFleet$Client", "number", "I", false)
  | 12 => ("RegisterFleet$Client", "oldSet", "I", false)
  | _ => ("RegisterFleet$Client", "newSet", "I", false)
def tyX1 : Nat → FieldType := fun k => match k with
  | 0 => .int
  | 1 => .object "RegisterFleet$SetMap"
  | 2 => .array .int
  | 3 => .array .int
  | 4 => .object "RegisterFleet$Operation"
  | 5 => .boolean
  | 6 => .int
  | 7 => .int
  | 8 => .int
  | 9 => .int
  | 10 => .int
  | 11 => .int
  | 12 => .int
  | _ => .int
abbrev wsX10 : List Cond := u_ws RX1 TX1 14
theorem nmX1 : ∀ a, a < 14 → ∀ b, b < 14 → a ≠ b → (TX1 a).2.1 ≠ (TX1 b).2.1 := by decide +kernel
theorem tyX1_ok : ∀ k, k < 14 → parseFieldDescriptor (TX1 k).2.2.1 = some (tyX1 k) := by decide +kernel
abbrev cX1_init : ByteArray := prog_3_method_1_code
def yX1_init : MethodName := ⟨RX1, "<init>", "(I)V"⟩
abbrev cX1_restart : ByteArray := prog_3_method_2_code
def yX1_restart : MethodName := ⟨RX1, "restart", "(I)V"⟩
abbrev cX1_aimAt : ByteArray := prog_3_method_3_code
def yX1_aimAt : MethodName := ⟨RX1, "aimAt", "(III)V"⟩
abbrev cX1_takeUp : ByteArray := prog_3_method_4_code
def yX1_takeUp : MethodName := ⟨RX1, "takeUp", "(LRegisterFleet$Operation;)V"⟩
abbrev cX1_openFirstRound : ByteArray := prog_3_method_5_code
def yX1_openFirstRound : MethodName := ⟨RX1, "openFirstRound", "()V"⟩
abbrev cX1_openSecondRound : ByteArray := prog_3_method_6_code
def yX1_openSecondRound : MethodName := ⟨RX1, "openSecondRound", "(LRegisterFleet$Operation;)V"⟩
abbrev cX1_openRound : ByteArray := prog_3_method_7_code
def yX1_openRound : MethodName := ⟨RX1, "openRound", "(I)V"⟩
abbrev cX1_note : ByteArray := prog_3_method_8_code
def yX1_note : MethodName := ⟨RX1, "note", "(LRegisterFleet$Message;)V"⟩
abbrev cX1_isOvertaken : ByteArray := prog_3_method_9_code
def yX1_isOvertaken : MethodName := ⟨RX1, "isOvertaken", "(LRegisterFleet$Operation;)Z"⟩
abbrev cX1_overtakenResult : ByteArray := prog_3_method_10_code
def yX1_overtakenResult : MethodName := ⟨RX1, "overtakenResult", "(LRegisterFleet$Operation;)I"⟩
abbrev cX1_serversToAsk : ByteArray := prog_3_method_11_code
def yX1_serversToAsk : MethodName := ⟨RX1, "serversToAsk", "(LRegisterFleet$Operation;)I"⟩
abbrev cX1_roundIsFull : ByteArray := prog_3_method_12_code
def yX1_roundIsFull : MethodName := ⟨RX1, "roundIsFull", "(LRegisterFleet$Operation;)Z"⟩
abbrev cX1_questionKind : ByteArray := prog_3_method_13_code
def yX1_questionKind : MethodName := ⟨RX1, "questionKind", "(LRegisterFleet$Operation;)I"⟩
abbrev cX1_fillQuestion : ByteArray := prog_3_method_14_code
def yX1_fillQuestion : MethodName := ⟨RX1, "fillQuestion", "(LRegisterFleet$Operation;LRegisterFleet$Message;)V"⟩
abbrev cX1_shownMark : ByteArray := prog_3_method_15_code
def yX1_shownMark : MethodName := ⟨RX1, "shownMark", "(LRegisterFleet$Operation;)I"⟩
def RX2 : String := "RegisterFleet$Log"
def TX2 : u_T := fun k => match k with
  | 0 => ("RegisterFleet$Log", "operations", "[LRegisterFleet$Operation;", true)
  | 1 => ("RegisterFleet$Log", "begun", "I", false)
  | 2 => ("RegisterFleet$Log", "ended", "I", false)
  | _ => ("RegisterFleet$Log", "moments", "I", false)
def tyX2 : Nat → FieldType := fun k => match k with
  | 0 => .array (.object "RegisterFleet$Operation")
  | 1 => .int
  | 2 => .int
  | _ => .int
abbrev wsX20 : List Cond := u_ws RX2 TX2 4
theorem nmX2 : ∀ a, a < 4 → ∀ b, b < 4 → a ≠ b → (TX2 a).2.1 ≠ (TX2 b).2.1 := by decide +kernel
theorem tyX2_ok : ∀ k, k < 4 → parseFieldDescriptor (TX2 k).2.2.1 = some (tyX2 k) := by decide +kernel
abbrev cX2_init : ByteArray := prog_4_method_1_code
def yX2_init : MethodName := ⟨RX2, "<init>", "()V"⟩
abbrev cX2_restart : ByteArray := prog_4_method_2_code
def yX2_restart : MethodName := ⟨RX2, "restart", "()V"⟩
abbrev cX2_hasRoom : ByteArray := prog_4_method_3_code
def yX2_hasRoom : MethodName := ⟨RX2, "hasRoom", "()Z"⟩
abbrev cX2_has : ByteArray := prog_4_method_4_code
def yX2_has : MethodName := ⟨RX2, "has", "(I)Z"⟩
abbrev cX2_open : ByteArray := prog_4_method_5_code
def yX2_open : MethodName := ⟨RX2, "open", "(IIII)LRegisterFleet$Operation;"⟩
abbrev cX2_close : ByteArray := prog_4_method_6_code
def yX2_close : MethodName := ⟨RX2, "close", "(LRegisterFleet$Operation;I)V"⟩
def RX3 : String := "RegisterFleet$Message"
def TX3 : u_T := fun k => match k with
  | 0 => ("RegisterFleet$Message", "map", "LRegisterFleet$SetMap;", true)
  | 1 => ("RegisterFleet$Message", "marks", "[I", true)
  | 2 => ("RegisterFleet$Message", "contents", "[I", true)
  | 3 => ("RegisterFleet$Message", "kind", "I", false)
  | 4 => ("RegisterFleet$Message", "server", "I", false)
  | 5 => ("RegisterFleet$Message", "client", "I", false)
  | 6 => ("RegisterFleet$Message", "round", "I", false)
  | 7 => ("RegisterFleet$Message", "subject", "I", false)
  | _ => ("RegisterFleet$Message", "bad", "Z", false)
def tyX3 : Nat → FieldType := fun k => match k with
  | 0 => .object "RegisterFleet$SetMap"
  | 1 => .array .int
  | 2 => .array .int
  | 3 => .int
  | 4 => .int
  | 5 => .int
  | 6 => .int
  | 7 => .int
  | _ => .boolean
abbrev wsX30 : List Cond := u_ws RX3 TX3 9
theorem nmX3 : ∀ a, a < 9 → ∀ b, b < 9 → a ≠ b → (TX3 a).2.1 ≠ (TX3 b).2.1 := by decide +kernel
theorem tyX3_ok : ∀ k, k < 9 → parseFieldDescriptor (TX3 k).2.2.1 = some (tyX3 k) := by decide +kernel
abbrev cX3_init : ByteArray := prog_5_method_1_code
def yX3_init : MethodName := ⟨RX3, "<init>", "(LRegisterFleet$SetMap;)V"⟩
abbrev cX3_clear : ByteArray := prog_5_method_2_code
def yX3_clear : MethodName := ⟨RX3, "clear", "()V"⟩
abbrev cX3_set : ByteArray := prog_5_method_3_code
def yX3_set : MethodName := ⟨RX3, "set", "(III)V"⟩
def RX4 : String := "RegisterFleet$Operation"
def TX4 : u_T := fun k => match k with
  | 0 => ("RegisterFleet$Operation", "number", "I", true)
  | 1 => ("RegisterFleet$Operation", "kind", "I", false)
  | 2 => ("RegisterFleet$Operation", "client", "I", false)
  | 3 => ("RegisterFleet$Operation", "subject", "I", false)
  | 4 => ("RegisterFleet$Operation", "value", "I", false)
  | 5 => ("RegisterFleet$Operation", "result", "I", false)
  | 6 => ("RegisterFleet$Operation", "beginMoment", "I", false)
  | 7 => ("RegisterFleet$Operation", "endMoment", "I", false)
  | _ => ("RegisterFleet$Operation", "badAnswers", "I", false)
def tyX4 : Nat → FieldType := fun k => match k with
  | 0 => .int
  | 1 => .int
  | 2 => .int
  | 3 => .int
  | 4 => .int
  | 5 => .int
  | 6 => .int
  | 7 => .int
  | _ => .int
abbrev wsX40 : List Cond := u_ws RX4 TX4 9
theorem nmX4 : ∀ a, a < 9 → ∀ b, b < 9 → a ≠ b → (TX4 a).2.1 ≠ (TX4 b).2.1 := by decide +kernel
theorem tyX4_ok : ∀ k, k < 9 → parseFieldDescriptor (TX4 k).2.2.1 = some (tyX4 k) := by decide +kernel
abbrev cX4_init : ByteArray := prog_6_method_1_code
def yX4_init : MethodName := ⟨RX4, "<init>", "(I)V"⟩
abbrev cX4_hasEnded : ByteArray := prog_6_method_2_code
def yX4_hasEnded : MethodName := ⟨RX4, "hasEnded", "()Z"⟩
def RX5 : String := "RegisterFleet$RowSearch"
def TX5 : u_T := fun k => match k with
  | 0 => ("RegisterFleet$RowSearch", "picked", "[LRegisterFleet$Operation;", true)
  | 1 => ("RegisterFleet$RowSearch", "chains", "[[I", true)
  | 2 => ("RegisterFleet$RowSearch", "lengths", "[I", true)
  | 3 => ("RegisterFleet$RowSearch", "strides", "[I", true)
  | 4 => ("RegisterFleet$RowSearch", "placed", "[I", true)
  | 5 => ("RegisterFleet$RowSearch", "latest", "[I", true)
  | _ => ("RegisterFleet$RowSearch", "pickedCount", "I", false)
def tyX5 : Nat → FieldType := fun k => match k with
  | 0 => .array (.object "RegisterFleet$Operation")
  | 1 => .array (.array .int)
  | 2 => .array .int
  | 3 => .array .int
  | 4 => .array .int
  | 5 => .array .int
  | _ => .int
abbrev wsX50 : List Cond := u_ws RX5 TX5 7
theorem nmX5 : ∀ a, a < 7 → ∀ b, b < 7 → a ≠ b → (TX5 a).2.1 ≠ (TX5 b).2.1 := by decide +kernel
theorem tyX5_ok : ∀ k, k < 7 → parseFieldDescriptor (TX5 k).2.2.1 = some (tyX5 k) := by decide +kernel
abbrev cX5_init : ByteArray := prog_7_method_1_code
def yX5_init : MethodName := ⟨RX5, "<init>", "()V"⟩
abbrev cX5_gather : ByteArray := prog_7_method_2_code
def yX5_gather : MethodName := ⟨RX5, "gather", "(LRegisterFleet$Log;I)Z"⟩
abbrev cX5_pick : ByteArray := prog_7_method_3_code
def yX5_pick : MethodName := ⟨RX5, "pick", "(LRegisterFleet$Operation;)V"⟩
abbrev cX5_findsRow : ByteArray := prog_7_method_4_code
def yX5_findsRow : MethodName := ⟨RX5, "findsRow", "()Z"⟩
abbrev cX5_layOut : ByteArray := prog_7_method_5_code
def yX5_layOut : MethodName := ⟨RX5, "layOut", "()I"⟩
abbrev cX5_stepOn : ByteArray := prog_7_method_6_code
def yX5_stepOn : MethodName := ⟨RX5, "stepOn", "()V"⟩
abbrev cX5_allEndedArePlaced : ByteArray := prog_7_method_7_code
def yX5_allEndedArePlaced : MethodName := ⟨RX5, "allEndedArePlaced", "()Z"⟩
abbrev cX5_nextOf : ByteArray := prog_7_method_8_code
def yX5_nextOf : MethodName := ⟨RX5, "nextOf", "(I)LRegisterFleet$Operation;"⟩
abbrev cX5_mayComeNext : ByteArray := prog_7_method_9_code
def yX5_mayComeNext : MethodName := ⟨RX5, "mayComeNext", "(I)Z"⟩
abbrev cX5_placeNext : ByteArray := prog_7_method_10_code
def yX5_placeNext : MethodName := ⟨RX5, "placeNext", "(II)V"⟩
abbrev cX5_writesOf : ByteArray := prog_7_method_11_code
def yX5_writesOf : MethodName := ⟨RX5, "writesOf", "(I)I"⟩
def RX6 : String := "RegisterFleet$Server"
def TX6 : u_T := fun k => match k with
  | 0 => ("RegisterFleet$Server", "map", "LRegisterFleet$SetMap;", true)
  | 1 => ("RegisterFleet$Server", "tags", "[I", true)
  | 2 => ("RegisterFleet$Server", "values", "[I", true)
  | 3 => ("RegisterFleet$Server", "promised", "[I", true)
  | 4 => ("RegisterFleet$Server", "accepted", "[I", true)
  | 5 => ("RegisterFleet$Server", "acceptedSets", "[I", true)
  | _ => ("RegisterFleet$Server", "stopped", "Z", false)
def tyX6 : Nat → FieldType := fun k => match k with
  | 0 => .object "RegisterFleet$SetMap"
  | 1 => .array .int
  | 2 => .array .int
  | 3 => .array .int
  | 4 => .array .int
  | 5 => .array .int
  | _ => .boolean
abbrev wsX60 : List Cond := u_ws RX6 TX6 7
theorem nmX6 : ∀ a, a < 7 → ∀ b, b < 7 → a ≠ b → (TX6 a).2.1 ≠ (TX6 b).2.1 := by decide +kernel
theorem tyX6_ok : ∀ k, k < 7 → parseFieldDescriptor (TX6 k).2.2.1 = some (tyX6 k) := by decide +kernel
abbrev cX6_init : ByteArray := prog_8_method_1_code
def yX6_init : MethodName := ⟨RX6, "<init>", "()V"⟩
abbrev cX6_restart : ByteArray := prog_8_method_2_code
def yX6_restart : MethodName := ⟨RX6, "restart", "(I)V"⟩
abbrev cX6_obey : ByteArray := prog_8_method_3_code
def yX6_obey : MethodName := ⟨RX6, "obey", "(LRegisterFleet$Message;LRegisterFleet$Message;)V"⟩
abbrev cX6_learn : ByteArray := prog_8_method_4_code
def yX6_learn : MethodName := ⟨RX6, "learn", "(III)V"⟩
abbrev cX6_castVote : ByteArray := prog_8_method_5_code
def yX6_castVote : MethodName := ⟨RX6, "castVote", "(LRegisterFleet$Message;LRegisterFleet$Message;)V"⟩
def RX7 : String := "RegisterFleet$SetMap"
def TX7 : u_T := fun k => match k with
  | _ => ("RegisterFleet$SetMap", "entries", "[I", true)
def tyX7 : Nat → FieldType := fun k => match k with
  | _ => .array .int
abbrev wsX70 : List Cond := u_ws RX7 TX7 1
theorem nmX7 : ∀ a, a < 1 → ∀ b, b < 1 → a ≠ b → (TX7 a).2.1 ≠ (TX7 b).2.1 := by decide +kernel
theorem tyX7_ok : ∀ k, k < 1 → parseFieldDescriptor (TX7 k).2.2.1 = some (tyX7 k) := by decide +kernel
abbrev cX7_init : ByteArray := prog_9_method_1_code
def yX7_init : MethodName := ⟨RX7, "<init>", "()V"⟩
abbrev cX7_restart : ByteArray := prog_9_method_2_code
def yX7_restart : MethodName := ⟨RX7, "restart", "(I)V"⟩
abbrev cX7_at : ByteArray := prog_9_method_3_code
def yX7_at : MethodName := ⟨RX7, "at", "(I)I"⟩
abbrev cX7_put : ByteArray := prog_9_method_4_code
def yX7_put : MethodName := ⟨RX7, "put", "(II)V"⟩
abbrev cX7_copyFrom : ByteArray := prog_9_method_5_code
def yX7_copyFrom : MethodName := ⟨RX7, "copyFrom", "(LRegisterFleet$SetMap;)V"⟩
abbrev cX7_join : ByteArray := prog_9_method_6_code
def yX7_join : MethodName := ⟨RX7, "join", "(LRegisterFleet$SetMap;)V"⟩
abbrev cX7_greatestKnown : ByteArray := prog_9_method_7_code
def yX7_greatestKnown : MethodName := ⟨RX7, "greatestKnown", "()I"⟩
abbrev cX7_leastActive : ByteArray := prog_9_method_8_code
def yX7_leastActive : MethodName := ⟨RX7, "leastActive", "()I"⟩
abbrev cX7_activeServers : ByteArray := prog_9_method_9_code
def yX7_activeServers : MethodName := ⟨RX7, "activeServers", "()I"⟩
abbrev cX7_eachActiveHasMajority : ByteArray := prog_9_method_10_code
def yX7_eachActiveHasMajority : MethodName := ⟨RX7, "eachActiveHasMajority", "(I)Z"⟩
def RX8 : String := "RegisterFleet"
def TX8 : u_T := fun k => match k with
  | 0 => ("RegisterFleet", "servers", "[LRegisterFleet$Server;", true)
  | 1 => ("RegisterFleet", "clients", "[LRegisterFleet$Client;", true)
  | 2 => ("RegisterFleet", "mail", "LRegisterFleet$Bag;", true)
  | 3 => ("RegisterFleet", "log", "LRegisterFleet$Log;", true)
  | 4 => ("RegisterFleet", "rowSearch", "LRegisterFleet$RowSearch;", true)
  | 5 => ("RegisterFleet", "serverCount", "I", false)
  | _ => ("RegisterFleet", "deliveredCount", "I", false)
def tyX8 : Nat → FieldType := fun k => match k with
  | 0 => .array (.object "RegisterFleet$Server")
  | 1 => .array (.object "RegisterFleet$Client")
  | 2 => .object "RegisterFleet$Bag"
  | 3 => .object "RegisterFleet$Log"
  | 4 => .object "RegisterFleet$RowSearch"
  | 5 => .int
  | _ => .int
abbrev wsX80 : List Cond := u_ws RX8 TX8 7
theorem nmX8 : ∀ a, a < 7 → ∀ b, b < 7 → a ≠ b → (TX8 a).2.1 ≠ (TX8 b).2.1 := by decide +kernel
theorem tyX8_ok : ∀ k, k < 7 → parseFieldDescriptor (TX8 k).2.2.1 = some (tyX8 k) := by decide +kernel
abbrev cX8_init : ByteArray := prog_1_method_1_code
def yX8_init : MethodName := ⟨RX8, "<init>", "()V"⟩
abbrev cX8_begin : ByteArray := prog_1_method_2_code
def yX8_begin : MethodName := ⟨RX8, "begin", "(II)Z"⟩
abbrev cX8_read : ByteArray := prog_1_method_3_code
def yX8_read : MethodName := ⟨RX8, "read", "(II)I"⟩
abbrev cX8_write : ByteArray := prog_1_method_4_code
def yX8_write : MethodName := ⟨RX8, "write", "(III)I"⟩
abbrev cX8_change : ByteArray := prog_1_method_5_code
def yX8_change : MethodName := ⟨RX8, "change", "(II)I"⟩
abbrev cX8_move : ByteArray := prog_1_method_6_code
def yX8_move : MethodName := ⟨RX8, "move", "(I)I"⟩
abbrev cX8_bag : ByteArray := prog_1_method_7_code
def yX8_bag : MethodName := ⟨RX8, "bag", "()I"⟩
abbrev cX8_message : ByteArray := prog_1_method_8_code
def yX8_message : MethodName := ⟨RX8, "message", "(II)I"⟩
abbrev cX8_deliver : ByteArray := prog_1_method_9_code
def yX8_deliver : MethodName := ⟨RX8, "deliver", "(I)I"⟩
abbrev cX8_lose : ByteArray := prog_1_method_10_code
def yX8_lose : MethodName := ⟨RX8, "lose", "(I)Z"⟩
abbrev cX8_run : ByteArray := prog_1_method_11_code
def yX8_run : MethodName := ⟨RX8, "run", "(II)I"⟩
abbrev cX8_stop : ByteArray := prog_1_method_12_code
def yX8_stop : MethodName := ⟨RX8, "stop", "(ZI)Z"⟩
abbrev cX8_map : ByteArray := prog_1_method_13_code
def yX8_map : MethodName := ⟨RX8, "map", "(ZII)I"⟩
abbrev cX8_cell : ByteArray := prog_1_method_14_code
def yX8_cell : MethodName := ⟨RX8, "cell", "(III)I"⟩
abbrev cX8_vote : ByteArray := prog_1_method_15_code
def yX8_vote : MethodName := ⟨RX8, "vote", "(III)I"⟩
abbrev cX8_client : ByteArray := prog_1_method_16_code
def yX8_client : MethodName := ⟨RX8, "client", "(II)I"⟩
abbrev cX8_operation : ByteArray := prog_1_method_17_code
def yX8_operation : MethodName := ⟨RX8, "operation", "(II)I"⟩
abbrev cX8_count : ByteArray := prog_1_method_18_code
def yX8_count : MethodName := ⟨RX8, "count", "(I)I"⟩
abbrev cX8_atomic : ByteArray := prog_1_method_19_code
def yX8_atomic : MethodName := ⟨RX8, "atomic", "(I)I"⟩
abbrev cX8_isClient : ByteArray := prog_1_method_20_code
def yX8_isClient : MethodName := ⟨RX8, "isClient", "(I)Z"⟩
abbrev cX8_isRegister : ByteArray := prog_1_method_21_code
def yX8_isRegister : MethodName := ⟨RX8, "isRegister", "(I)Z"⟩
abbrev cX8_isServer : ByteArray := prog_1_method_22_code
def yX8_isServer : MethodName := ⟨RX8, "isServer", "(I)Z"⟩
abbrev cX8_isSetAmong : ByteArray := prog_1_method_23_code
def yX8_isSetAmong : MethodName := ⟨RX8, "isSetAmong", "(II)Z"⟩
abbrev cX8_isSet : ByteArray := prog_1_method_24_code
def yX8_isSet : MethodName := ⟨RX8, "isSet", "(I)Z"⟩
abbrev cX8_isMajority : ByteArray := prog_1_method_25_code
def yX8_isMajority : MethodName := ⟨RX8, "isMajority", "(II)Z"⟩
abbrev cX8_isIn : ByteArray := prog_1_method_26_code
def yX8_isIn : MethodName := ⟨RX8, "isIn", "(II)Z"⟩
abbrev cX8_markBeyond : ByteArray := prog_1_method_27_code
def yX8_markBeyond : MethodName := ⟨RX8, "markBeyond", "(II)I"⟩
abbrev cX8_mapAnswer : ByteArray := prog_1_method_28_code
def yX8_mapAnswer : MethodName := ⟨RX8, "mapAnswer", "(LRegisterFleet$SetMap;I)I"⟩
abbrev cX8_restart : ByteArray := prog_1_method_29_code
def yX8_restart : MethodName := ⟨RX8, "restart", "(II)V"⟩
abbrev cX8_canBegin : ByteArray := prog_1_method_30_code
def yX8_canBegin : MethodName := ⟨RX8, "canBegin", "(I)Z"⟩
abbrev cX8_start : ByteArray := prog_1_method_31_code
def yX8_start : MethodName := ⟨RX8, "start", "(LRegisterFleet$Client;III)I"⟩
abbrev cX8_handOver : ByteArray := prog_1_method_32_code
def yX8_handOver : MethodName := ⟨RX8, "handOver", "(I)Z"⟩
abbrev cX8_serve : ByteArray := prog_1_method_33_code
def yX8_serve : MethodName := ⟨RX8, "serve", "(LRegisterFleet$Server;LRegisterFleet$Message;)V"⟩
abbrev cX8_hear : ByteArray := prog_1_method_34_code
def yX8_hear : MethodName := ⟨RX8, "hear", "(LRegisterFleet$Client;LRegisterFleet$Message;)V"⟩
abbrev cX8_tryAgain : ByteArray := prog_1_method_35_code
def yX8_tryAgain : MethodName := ⟨RX8, "tryAgain", "(LRegisterFleet$Client;LRegisterFleet$Operation;I)Z"⟩
abbrev cX8_askMissing : ByteArray := prog_1_method_36_code
def yX8_askMissing : MethodName := ⟨RX8, "askMissing", "(LRegisterFleet$Client;LRegisterFleet$Operation;)V"⟩
abbrev cX8_complete : ByteArray := prog_1_method_37_code
def yX8_complete : MethodName := ⟨RX8, "complete", "(LRegisterFleet$Client;LRegisterFleet$Operation;)V"⟩
abbrev cX8_sendNews : ByteArray := prog_1_method_38_code
def yX8_sendNews : MethodName := ⟨RX8, "sendNews", "(LRegisterFleet$Client;I)V"⟩
abbrev cX8_finish : ByteArray := prog_1_method_39_code
def yX8_finish : MethodName := ⟨RX8, "finish", "(LRegisterFleet$Client;LRegisterFleet$Operation;I)V"⟩
def RX9 : String := "RegisterFleetModel"
def TX9 : u_T := fun k => match k with
  | 0 => ("RegisterFleetModel", "told", "I", false)
  | 1 => ("RegisterFleetModel", "servers", "I", false)
  | 2 => ("RegisterFleetModel", "maps", "[I", true)
  | 3 => ("RegisterFleetModel", "isStopped", "[Z", true)
  | 4 => ("RegisterFleetModel", "tag", "[I", true)
  | 5 => ("RegisterFleetModel", "value", "[I", true)
  | 6 => ("RegisterFleetModel", "promised", "[I", true)
  | 7 => ("RegisterFleetModel", "accepted", "[I", true)
  | 8 => ("RegisterFleetModel", "acceptedSet", "[I", true)
  | 9 => ("RegisterFleetModel", "many", "I", false)
  | 10 => ("RegisterFleetModel", "ever", "I", false)
  | 11 => ("RegisterFleetModel", "delivered", "I", false)
  | 12 => ("RegisterFleetModel", "kind", "[I", true)
  | 13 => ("RegisterFleetModel", "server", "[I", true)
  | 14 => ("RegisterFleetModel", "client", "[I", true)
  | 15 => ("RegisterFleetModel", "round", "[I", true)
  | 16 => ("RegisterFleetModel", "number", "[I", true)
  | 17 => ("RegisterFleetModel", "tagZero", "[I", true)
  | 18 => ("RegisterFleetModel", "valueZero", "[I", true)
  | 19 => ("RegisterFleetModel", "tagOne", "[I", true)
  | 20 => ("RegisterFleetModel", "valueOne", "[I", true)
  | 21 => ("RegisterFleetModel", "tagTwo", "[I", true)
  | 22 => ("RegisterFleetModel", "valueTwo", "[I", true)
  | 23 => ("RegisterFleetModel", "isBad", "[Z", true)
  | 24 => ("RegisterFleetModel", "mapOf", "[I", true)
  | 25 => ("RegisterFleetModel", "begun", "I", false)
  | 26 => ("RegisterFleetModel", "ended", "I", false)
  | 27 => ("RegisterFleetModel", "moments", "I", false)
  | 28 => ("RegisterFleetModel", "sort", "[I", true)
  | 29 => ("RegisterFleetModel", "by", "[I", true)
  | 30 => ("RegisterFleetModel", "of", "[I", true)
  | 31 => ("RegisterFleetModel", "with", "[I", true)
  | 32 => ("RegisterFleetModel", "isOver", "[Z", true)
  | 33 => ("RegisterFleetModel", "result", "[I", true)
  | 34 => ("RegisterFleetModel", "from", "[I", true)
  | 35 => ("RegisterFleetModel", "till", "[I", true)
  | 36 => ("RegisterFleetModel", "bad", "[I", true)
  | 37 => ("RegisterFleetModel", "does", "[I", true)
  | 38 => ("RegisterFleetModel", "rounds", "[I", true)
  | 39 => ("RegisterFleetModel", "asked", "[I", true)
  | 40 => ("RegisterFleetModel", "counted", "[I", true)
  | 41 => ("RegisterFleetModel", "phase", "[I", true)
  | 42 => ("RegisterFleetModel", "ballot", "[I", true)
  | 43 => ("RegisterFleetModel", "numberOf", "[I", true)
  | 44 => ("RegisterFleetModel", "nextSet", "[I", true)
  | 45 => ("RegisterFleetModel", "bestTag", "[I", true)
  | 46 => ("RegisterFleetModel", "bestValue", "[I", true)
  | 47 => ("RegisterFleetModel", "hKind", "I", false)
  | 48 => ("RegisterFleetModel", "hServer", "I", false)
  | 49 => ("RegisterFleetModel", "hClient", "I", false)
  | 50 => ("RegisterFleetModel", "hRound", "I", false)
  | 51 => ("RegisterFleetModel", "hNumber", "I", false)
  | 52 => ("RegisterFleetModel", "hTag", "I", false)
  | 53 => ("RegisterFleetModel", "hValue", "I", false)
  | 54 => ("RegisterFleetModel", "hTagOne", "I", false)
  | 55 => ("RegisterFleetModel", "hValueOne", "I", false)
  | 56 => ("RegisterFleetModel", "hTagTwo", "I", false)
  | 57 => ("RegisterFleetModel", "hValueTwo", "I", false)
  | 58 => ("RegisterFleetModel", "hBad", "Z", false)
  | 59 => ("RegisterFleetModel", "these", "I", false)
  | 60 => ("RegisterFleetModel", "op", "[I", true)
  | _ => ("RegisterFleetModel", "can", "[Z", true)
def tyX9 : Nat → FieldType := fun k => match k with
  | 0 => .int
  | 1 => .int
  | 2 => .array .int
  | 3 => .array .boolean
  | 4 => .array .int
  | 5 => .array .int
  | 6 => .array .int
  | 7 => .array .int
  | 8 => .array .int
  | 9 => .int
  | 10 => .int
  | 11 => .int
  | 12 => .array .int
  | 13 => .array .int
  | 14 => .array .int
  | 15 => .array .int
  | 16 => .array .int
  | 17 => .array .int
  | 18 => .array .int
  | 19 => .array .int
  | 20 => .array .int
  | 21 => .array .int
  | 22 => .array .int
  | 23 => .array .boolean
  | 24 => .array .int
  | 25 => .int
  | 26 => .int
  | 27 => .int
  | 28 => .array .int
  | 29 => .array .int
  | 30 => .array .int
  | 31 => .array .int
  | 32 => .array .boolean
  | 33 => .array .int
  | 34 => .array .int
  | 35 => .array .int
  | 36 => .array .int
  | 37 => .array .int
  | 38 => .array .int
  | 39 => .array .int
  | 40 => .array .int
  | 41 => .array .int
  | 42 => .array .int
  | 43 => .array .int
  | 44 => .array .int
  | 45 => .array .int
  | 46 => .array .int
  | 47 => .int
  | 48 => .int
  | 49 => .int
  | 50 => .int
  | 51 => .int
  | 52 => .int
  | 53 => .int
  | 54 => .int
  | 55 => .int
  | 56 => .int
  | 57 => .int
  | 58 => .boolean
  | 59 => .int
  | 60 => .array .int
  | _ => .array .boolean
abbrev wsX90 : List Cond := u_ws RX9 TX9 62
theorem nmX9 : ∀ a, a < 62 → ∀ b, b < 62 → a ≠ b → (TX9 a).2.1 ≠ (TX9 b).2.1 := by decide +kernel
theorem tyX9_ok : ∀ k, k < 62 → parseFieldDescriptor (TX9 k).2.2.1 = some (tyX9 k) := by decide +kernel
abbrev cX9_init : ByteArray := prog_11_method_1_code
def yX9_init : MethodName := ⟨RX9, "<init>", "()V"⟩
abbrev cX9_isClient : ByteArray := prog_11_method_3_code
def yX9_isClient : MethodName := ⟨RX9, "isClient", "(I)Z"⟩
abbrev cX9_isRegister : ByteArray := prog_11_method_4_code
def yX9_isRegister : MethodName := ⟨RX9, "isRegister", "(I)Z"⟩
abbrev cX9_isSet : ByteArray := prog_11_method_5_code
def yX9_isSet : MethodName := ⟨RX9, "isSet", "(I)Z"⟩
abbrev cX9_begin : ByteArray := prog_11_method_6_code
def yX9_begin : MethodName := ⟨RX9, "begin", "(II)Z"⟩
abbrev cX9_lay : ByteArray := prog_11_method_7_code
def yX9_lay : MethodName := ⟨RX9, "lay", "(IIIIII)I"⟩
abbrev cX9_shift : ByteArray := prog_11_method_8_code
def yX9_shift : MethodName := ⟨RX9, "shift", "(I)V"⟩
abbrev cX9_join : ByteArray := prog_11_method_9_code
def yX9_join : MethodName := ⟨RX9, "join", "(II)V"⟩
abbrev cX9_mapHas : ByteArray := prog_11_method_10_code
def yX9_mapHas : MethodName := ⟨RX9, "mapHas", "(II)I"⟩
abbrev cX9_ones : ByteArray := prog_11_method_11_code
def yX9_ones : MethodName := ⟨RX9, "ones", "(I)I"⟩
abbrev cX9_isMost : ByteArray := prog_11_method_12_code
def yX9_isMost : MethodName := ⟨RX9, "isMost", "(II)Z"⟩
abbrev cX9_isReadWrite : ByteArray := prog_11_method_13_code
def yX9_isReadWrite : MethodName := ⟨RX9, "isReadWrite", "(I)Z"⟩
abbrev cX9_wanted : ByteArray := prog_11_method_14_code
def yX9_wanted : MethodName := ⟨RX9, "wanted", "(I)I"⟩
abbrev cX9_isFull : ByteArray := prog_11_method_15_code
def yX9_isFull : MethodName := ⟨RX9, "isFull", "(I)Z"⟩
abbrev cX9_asksBy : ByteArray := prog_11_method_16_code
def yX9_asksBy : MethodName := ⟨RX9, "asksBy", "(II)I"⟩
abbrev cX9_asksMore : ByteArray := prog_11_method_17_code
def yX9_asksMore : MethodName := ⟨RX9, "asksMore", "(I)V"⟩
abbrev cX9_offered : ByteArray := prog_11_method_18_code
def yX9_offered : MethodName := ⟨RX9, "offered", "(I)I"⟩
abbrev cX9_beginRound : ByteArray := prog_11_method_19_code
def yX9_beginRound : MethodName := ⟨RX9, "beginRound", "(II)V"⟩
abbrev cX9_forgetBest : ByteArray := prog_11_method_20_code
def yX9_forgetBest : MethodName := ⟨RX9, "forgetBest", "(I)V"⟩
abbrev cX9_beginOperation : ByteArray := prog_11_method_21_code
def yX9_beginOperation : MethodName := ⟨RX9, "beginOperation", "(IIII)I"⟩
abbrev cX9_over : ByteArray := prog_11_method_22_code
def yX9_over : MethodName := ⟨RX9, "over", "(II)V"⟩
abbrev cX9_mayBegin : ByteArray := prog_11_method_23_code
def yX9_mayBegin : MethodName := ⟨RX9, "mayBegin", "(I)Z"⟩
abbrev cX9_read : ByteArray := prog_11_method_24_code
def yX9_read : MethodName := ⟨RX9, "read", "(II)I"⟩
abbrev cX9_write : ByteArray := prog_11_method_25_code
def yX9_write : MethodName := ⟨RX9, "write", "(III)I"⟩
abbrev cX9_change : ByteArray := prog_11_method_26_code
def yX9_change : MethodName := ⟨RX9, "change", "(II)I"⟩
abbrev cX9_move : ByteArray := prog_11_method_27_code
def yX9_move : MethodName := ⟨RX9, "move", "(I)I"⟩
abbrev cX9_news : ByteArray := prog_11_method_28_code
def yX9_news : MethodName := ⟨RX9, "news", "(III)V"⟩
abbrev cX9_takeOut : ByteArray := prog_11_method_29_code
def yX9_takeOut : MethodName := ⟨RX9, "takeOut", "(I)V"⟩
abbrev cX9_has : ByteArray := prog_11_method_30_code
def yX9_has : MethodName := ⟨RX9, "has", "(IIII)V"⟩
abbrev cX9_serverGets : ByteArray := prog_11_method_31_code
def yX9_serverGets : MethodName := ⟨RX9, "serverGets", "()V"⟩
abbrev cX9_best : ByteArray := prog_11_method_32_code
def yX9_best : MethodName := ⟨RX9, "best", "(IIII)V"⟩
abbrev cX9_clientGets : ByteArray := prog_11_method_33_code
def yX9_clientGets : MethodName := ⟨RX9, "clientGets", "()V"⟩
abbrev cX9_counts : ByteArray := prog_11_method_34_code
def yX9_counts : MethodName := ⟨RX9, "counts", "(I)V"⟩
abbrev cX9_ends : ByteArray := prog_11_method_35_code
def yX9_ends : MethodName := ⟨RX9, "ends", "(I)V"⟩
abbrev cX9_isMessage : ByteArray := prog_11_method_36_code
def yX9_isMessage : MethodName := ⟨RX9, "isMessage", "(I)Z"⟩
abbrev cX9_delivers : ByteArray := prog_11_method_37_code
def yX9_delivers : MethodName := ⟨RX9, "delivers", "(I)I"⟩
abbrev cX9_deliver : ByteArray := prog_11_method_38_code
def yX9_deliver : MethodName := ⟨RX9, "deliver", "(I)I"⟩
abbrev cX9_lose : ByteArray := prog_11_method_39_code
def yX9_lose : MethodName := ⟨RX9, "lose", "(I)Z"⟩
abbrev cX9_run : ByteArray := prog_11_method_40_code
def yX9_run : MethodName := ⟨RX9, "run", "(II)I"⟩
abbrev cX9_who : ByteArray := prog_11_method_41_code
def yX9_who : MethodName := ⟨RX9, "who", "(ZI)I"⟩
abbrev cX9_stop : ByteArray := prog_11_method_42_code
def yX9_stop : MethodName := ⟨RX9, "stop", "(ZI)Z"⟩
abbrev cX9_bag : ByteArray := prog_11_method_43_code
def yX9_bag : MethodName := ⟨RX9, "bag", "()I"⟩
abbrev cX9_message : ByteArray := prog_11_method_44_code
def yX9_message : MethodName := ⟨RX9, "message", "(II)I"⟩
abbrev cX9_map : ByteArray := prog_11_method_45_code
def yX9_map : MethodName := ⟨RX9, "map", "(ZII)I"⟩
abbrev cX9_isServer : ByteArray := prog_11_method_46_code
def yX9_isServer : MethodName := ⟨RX9, "isServer", "(I)Z"⟩
abbrev cX9_cell : ByteArray := prog_11_method_47_code
def yX9_cell : MethodName := ⟨RX9, "cell", "(III)I"⟩
abbrev cX9_vote : ByteArray := prog_11_method_48_code
def yX9_vote : MethodName := ⟨RX9, "vote", "(III)I"⟩
abbrev cX9_client : ByteArray := prog_11_method_49_code
def yX9_client : MethodName := ⟨RX9, "client", "(II)I"⟩
abbrev cX9_operation : ByteArray := prog_11_method_50_code
def yX9_operation : MethodName := ⟨RX9, "operation", "(II)I"⟩
abbrev cX9_count : ByteArray := prog_11_method_51_code
def yX9_count : MethodName := ⟨RX9, "count", "(I)I"⟩
abbrev cX9_atomic : ByteArray := prog_11_method_52_code
def yX9_atomic : MethodName := ⟨RX9, "atomic", "(I)I"⟩
abbrev cX9_goesNext : ByteArray := prog_11_method_53_code
def yX9_goesNext : MethodName := ⟨RX9, "goesNext", "(III)Z"⟩
def RJx145de : String := "java/io/Serializable"
def TJx145de : u_T := fun k => match k with
  | _ => ("", "", "", false)
def tyJx145de : Nat → FieldType := fun k => match k with
  | _ => .int
abbrev wsJx145de0 : List Cond := u_ws RJx145de TJx145de 0
theorem nmJx145de : ∀ a, a < 0 → ∀ b, b < 0 → a ≠ b → (TJx145de a).2.1 ≠ (TJx145de b).2.1 := by decide +kernel
theorem tyJx145de_ok : ∀ k, k < 0 → parseFieldDescriptor (TJx145de k).2.2.1 = some (tyJx145de k) := by decide +kernel
def RJx8e188 : String := "java/lang/Cloneable"
def TJx8e188 : u_T := fun k => match k with
  | _ => ("", "", "", false)
def tyJx8e188 : Nat → FieldType := fun k => match k with
  | _ => .int
abbrev wsJx8e1880 : List Cond := u_ws RJx8e188 TJx8e188 0
theorem nmJx8e188 : ∀ a, a < 0 → ∀ b, b < 0 → a ≠ b → (TJx8e188 a).2.1 ≠ (TJx8e188 b).2.1 := by decide +kernel
theorem tyJx8e188_ok : ∀ k, k < 0 → parseFieldDescriptor (TJx8e188 k).2.2.1 = some (tyJx8e188 k) := by decide +kernel
def RJ6 : String := "java/lang/Integer"
def TJ6 : u_T := fun k => match k with
  | _ => ("", "", "", false)
def tyJ6 : Nat → FieldType := fun k => match k with
  | _ => .int
abbrev wsJ60 : List Cond := u_ws RJ6 TJ6 0
theorem nmJ6 : ∀ a, a < 0 → ∀ b, b < 0 → a ≠ b → (TJ6 a).2.1 ≠ (TJ6 b).2.1 := by decide +kernel
theorem tyJ6_ok : ∀ k, k < 0 → parseFieldDescriptor (TJ6 k).2.2.1 = some (tyJ6 k) := by decide +kernel
abbrev cJ6_bitCount_0f7a4 : ByteArray := prog_14_method_49_code
def yJ6_bitCount_0f7a4 : MethodName := ⟨RJ6, "bitCount", "(I)I"⟩
def RJxab1ab : String := "java/lang/Iterable"
def TJxab1ab : u_T := fun k => match k with
  | _ => ("", "", "", false)
def tyJxab1ab : Nat → FieldType := fun k => match k with
  | _ => .int
abbrev wsJxab1ab0 : List Cond := u_ws RJxab1ab TJxab1ab 0
theorem nmJxab1ab : ∀ a, a < 0 → ∀ b, b < 0 → a ≠ b → (TJxab1ab a).2.1 ≠ (TJxab1ab b).2.1 := by decide +kernel
theorem tyJxab1ab_ok : ∀ k, k < 0 → parseFieldDescriptor (TJxab1ab k).2.2.1 = some (tyJxab1ab k) := by decide +kernel
def RJ9 : String := "java/lang/Math"
def TJ9 : u_T := fun k => match k with
  | _ => ("", "", "", false)
def tyJ9 : Nat → FieldType := fun k => match k with
  | _ => .int
abbrev wsJ90 : List Cond := u_ws RJ9 TJ9 0
theorem nmJ9 : ∀ a, a < 0 → ∀ b, b < 0 → a ≠ b → (TJ9 a).2.1 ≠ (TJ9 b).2.1 := by decide +kernel
theorem tyJ9_ok : ∀ k, k < 0 → parseFieldDescriptor (TJ9 k).2.2.1 = some (tyJ9 k) := by decide +kernel
abbrev cJ9_max_7cf53 : ByteArray := prog_16_method_65_code
def yJ9_max_7cf53 : MethodName := ⟨RJ9, "max", "(II)I"⟩
abbrev cJ9_min_7cf53 : ByteArray := prog_16_method_69_code
def yJ9_min_7cf53 : MethodName := ⟨RJ9, "min", "(II)I"⟩
def RJ10 : String := "java/lang/System"
def TJ10 : u_T := fun k => match k with
  | _ => ("", "", "", false)
def tyJ10 : Nat → FieldType := fun k => match k with
  | _ => .int
abbrev wsJ100 : List Cond := u_ws RJ10 TJ10 0
theorem nmJ10 : ∀ a, a < 0 → ∀ b, b < 0 → a ≠ b → (TJ10 a).2.1 ≠ (TJ10 b).2.1 := by decide +kernel
theorem tyJ10_ok : ∀ k, k < 0 → parseFieldDescriptor (TJ10 k).2.2.1 = some (tyJ10 k) := by decide +kernel
def RJxa1e45 : String := "java/util/AbstractCollection"
def TJxa1e45 : u_T := fun k => match k with
  | _ => ("", "", "", false)
def tyJxa1e45 : Nat → FieldType := fun k => match k with
  | _ => .int
abbrev wsJxa1e450 : List Cond := u_ws RJxa1e45 TJxa1e45 0
theorem nmJxa1e45 : ∀ a, a < 0 → ∀ b, b < 0 → a ≠ b → (TJxa1e45 a).2.1 ≠ (TJxa1e45 b).2.1 := by decide +kernel
theorem tyJxa1e45_ok : ∀ k, k < 0 → parseFieldDescriptor (TJxa1e45 k).2.2.1 = some (tyJxa1e45 k) := by decide +kernel
abbrev cJxa1e45_init_da8c8 : ByteArray := prog_18_method_1_code
def yJxa1e45_init_da8c8 : MethodName := ⟨RJxa1e45, "<init>", "()V"⟩
def RJxc12de : String := "java/util/AbstractList"
def TJxc12de : u_T := fun k => match k with
  | _ => ("", "", "", false)
def tyJxc12de : Nat → FieldType := fun k => match k with
  | _ => .int
abbrev wsJxc12de0 : List Cond := u_ws RJxc12de TJxc12de 0
theorem nmJxc12de : ∀ a, a < 0 → ∀ b, b < 0 → a ≠ b → (TJxc12de a).2.1 ≠ (TJxc12de b).2.1 := by decide +kernel
theorem tyJxc12de_ok : ∀ k, k < 0 → parseFieldDescriptor (TJxc12de k).2.2.1 = some (tyJxc12de k) := by decide +kernel
abbrev cJxc12de_init_da8c8 : ByteArray := prog_19_method_1_code
def yJxc12de_init_da8c8 : MethodName := ⟨RJxc12de, "<init>", "()V"⟩
def RJx4a65c : String := "java/util/ArrayList"
def TJx4a65c : u_T := fun k => match k with
  | 0 => ("java/util/AbstractList", "modCount", "I", false)
  | 1 => ("java/util/ArrayList", "elementData", "[Ljava/lang/Object;", false)
  | _ => ("java/util/ArrayList", "size", "I", false)
def tyJx4a65c : Nat → FieldType := fun k => match k with
  | 0 => .int
  | 1 => .array (.object "java/lang/Object")
  | _ => .int
abbrev wsJx4a65c0 : List Cond := u_ws RJx4a65c TJx4a65c 3
theorem nmJx4a65c : ∀ a, a < 3 → ∀ b, b < 3 → a ≠ b → (TJx4a65c a).2.1 ≠ (TJx4a65c b).2.1 := by decide +kernel
theorem tyJx4a65c_ok : ∀ k, k < 3 → parseFieldDescriptor (TJx4a65c k).2.2.1 = some (tyJx4a65c k) := by decide +kernel
abbrev cJx4a65c_init_da8c8 : ByteArray := prog_20_method_2_code
def yJx4a65c_init_da8c8 : MethodName := ⟨RJx4a65c, "<init>", "()V"⟩
abbrev cJx4a65c_grow_92f84 : ByteArray := prog_20_method_6_code
def yJx4a65c_grow_92f84 : MethodName := ⟨RJx4a65c, "grow", "(I)[Ljava/lang/Object;"⟩
abbrev cJx4a65c_grow_d5877 : ByteArray := prog_20_method_7_code
def yJx4a65c_grow_d5877 : MethodName := ⟨RJx4a65c, "grow", "()[Ljava/lang/Object;"⟩
abbrev cJx4a65c_size_8abf5 : ByteArray := prog_20_method_8_code
def yJx4a65c_size_8abf5 : MethodName := ⟨RJx4a65c, "size", "()I"⟩
abbrev cJx4a65c_isEmpty_aae02 : ByteArray := prog_20_method_9_code
def yJx4a65c_isEmpty_aae02 : MethodName := ⟨RJx4a65c, "isEmpty", "()Z"⟩
abbrev cJx4a65c_elementData_915e3 : ByteArray := prog_20_method_18_code
def yJx4a65c_elementData_915e3 : MethodName := ⟨RJx4a65c, "elementData", "(I)Ljava/lang/Object;"⟩
abbrev cJx4a65c_get_915e3 : ByteArray := prog_20_method_20_code
def yJx4a65c_get_915e3 : MethodName := ⟨RJx4a65c, "get", "(I)Ljava/lang/Object;"⟩
abbrev cJx4a65c_add_72be8 : ByteArray := prog_20_method_24_code
def yJx4a65c_add_72be8 : MethodName := ⟨RJx4a65c, "add", "(Ljava/lang/Object;[Ljava/lang/Object;I)V"⟩
abbrev cJx4a65c_add_9ea2d : ByteArray := prog_20_method_25_code
def yJx4a65c_add_9ea2d : MethodName := ⟨RJx4a65c, "add", "(Ljava/lang/Object;)Z"⟩
abbrev cJx4a65c_remove_915e3 : ByteArray := prog_20_method_29_code
def yJx4a65c_remove_915e3 : MethodName := ⟨RJx4a65c, "remove", "(I)Ljava/lang/Object;"⟩
abbrev cJx4a65c_fastRemove_b59b0 : ByteArray := prog_20_method_39_code
def yJx4a65c_fastRemove_b59b0 : MethodName := ⟨RJx4a65c, "fastRemove", "([Ljava/lang/Object;I)V"⟩
abbrev cJx4a65c_clear_da8c8 : ByteArray := prog_20_method_40_code
def yJx4a65c_clear_da8c8 : MethodName := ⟨RJx4a65c, "clear", "()V"⟩
def RJ7 : String := "java/util/Arrays"
def TJ7 : u_T := fun k => match k with
  | _ => ("", "", "", false)
def tyJ7 : Nat → FieldType := fun k => match k with
  | _ => .int
abbrev wsJ70 : List Cond := u_ws RJ7 TJ7 0
theorem nmJ7 : ∀ a, a < 0 → ∀ b, b < 0 → a ≠ b → (TJ7 a).2.1 ≠ (TJ7 b).2.1 := by decide +kernel
theorem tyJ7_ok : ∀ k, k < 0 → parseFieldDescriptor (TJ7 k).2.2.1 = some (tyJ7 k) := by decide +kernel
abbrev cJ7_fill_53178 : ByteArray := prog_21_method_103_code
def yJ7_fill_53178 : MethodName := ⟨RJ7, "fill", "([II)V"⟩
abbrev cJ7_copyOf_1904c : ByteArray := prog_21_method_119_code
def yJ7_copyOf_1904c : MethodName := ⟨RJ7, "copyOf", "([Ljava/lang/Object;I)[Ljava/lang/Object;"⟩
abbrev cJ7_copyOf_6403c : ByteArray := prog_21_method_120_code
def yJ7_copyOf_6403c : MethodName := ⟨RJ7, "copyOf", "([Ljava/lang/Object;ILjava/lang/Class;)[Ljava/lang/Object;"⟩
def RJx5ef63 : String := "java/util/Collection"
def TJx5ef63 : u_T := fun k => match k with
  | _ => ("", "", "", false)
def tyJx5ef63 : Nat → FieldType := fun k => match k with
  | _ => .int
abbrev wsJx5ef630 : List Cond := u_ws RJx5ef63 TJx5ef63 0
theorem nmJx5ef63 : ∀ a, a < 0 → ∀ b, b < 0 → a ≠ b → (TJx5ef63 a).2.1 ≠ (TJx5ef63 b).2.1 := by decide +kernel
theorem tyJx5ef63_ok : ∀ k, k < 0 → parseFieldDescriptor (TJx5ef63 k).2.2.1 = some (tyJx5ef63 k) := by decide +kernel
def RJxbd725 : String := "java/util/List"
def TJxbd725 : u_T := fun k => match k with
  | _ => ("", "", "", false)
def tyJxbd725 : Nat → FieldType := fun k => match k with
  | _ => .int
abbrev wsJxbd7250 : List Cond := u_ws RJxbd725 TJxbd725 0
theorem nmJxbd725 : ∀ a, a < 0 → ∀ b, b < 0 → a ≠ b → (TJxbd725 a).2.1 ≠ (TJxbd725 b).2.1 := by decide +kernel
theorem tyJxbd725_ok : ∀ k, k < 0 → parseFieldDescriptor (TJxbd725 k).2.2.1 = some (tyJxbd725 k) := by decide +kernel
def RJ15 : String := "java/util/Objects"
def TJ15 : u_T := fun k => match k with
  | _ => ("", "", "", false)
def tyJ15 : Nat → FieldType := fun k => match k with
  | _ => .int
abbrev wsJ150 : List Cond := u_ws RJ15 TJ15 0
theorem nmJ15 : ∀ a, a < 0 → ∀ b, b < 0 → a ≠ b → (TJ15 a).2.1 ≠ (TJ15 b).2.1 := by decide +kernel
theorem tyJ15_ok : ∀ k, k < 0 → parseFieldDescriptor (TJ15 k).2.2.1 = some (tyJ15 k) := by decide +kernel
abbrev cJ15_checkIndex_7cf53 : ByteArray := prog_24_method_17_code
def yJ15_checkIndex_7cf53 : MethodName := ⟨RJ15, "checkIndex", "(II)I"⟩
def RJxf0a74 : String := "java/util/RandomAccess"
def TJxf0a74 : u_T := fun k => match k with
  | _ => ("", "", "", false)
def tyJxf0a74 : Nat → FieldType := fun k => match k with
  | _ => .int
abbrev wsJxf0a740 : List Cond := u_ws RJxf0a74 TJxf0a74 0
theorem nmJxf0a74 : ∀ a, a < 0 → ∀ b, b < 0 → a ≠ b → (TJxf0a74 a).2.1 ≠ (TJxf0a74 b).2.1 := by decide +kernel
theorem tyJxf0a74_ok : ∀ k, k < 0 → parseFieldDescriptor (TJxf0a74 k).2.2.1 = some (tyJxf0a74 k) := by decide +kernel
def RJxa66e6 : String := "java/util/SequencedCollection"
def TJxa66e6 : u_T := fun k => match k with
  | _ => ("", "", "", false)
def tyJxa66e6 : Nat → FieldType := fun k => match k with
  | _ => .int
abbrev wsJxa66e60 : List Cond := u_ws RJxa66e6 TJxa66e6 0
theorem nmJxa66e6 : ∀ a, a < 0 → ∀ b, b < 0 → a ≠ b → (TJxa66e6 a).2.1 ≠ (TJxa66e6 b).2.1 := by decide +kernel
theorem tyJxa66e6_ok : ∀ k, k < 0 → parseFieldDescriptor (TJxa66e6 k).2.2.1 = some (tyJxa66e6 k) := by decide +kernel
def RJ8 : String := "jdk/internal/util/ArraysSupport"
def TJ8 : u_T := fun k => match k with
  | _ => ("", "", "", false)
def tyJ8 : Nat → FieldType := fun k => match k with
  | _ => .int
abbrev wsJ80 : List Cond := u_ws RJ8 TJ8 0
theorem nmJ8 : ∀ a, a < 0 → ∀ b, b < 0 → a ≠ b → (TJ8 a).2.1 ≠ (TJ8 b).2.1 := by decide +kernel
theorem tyJ8_ok : ∀ k, k < 0 → parseFieldDescriptor (TJ8 k).2.2.1 = some (tyJ8 k) := by decide +kernel
abbrev cJ8_newLength_cabcc : ByteArray := prog_27_method_27_code
def yJ8_newLength_cabcc : MethodName := ⟨RJ8, "newLength", "(III)I"⟩
abbrev cJ8_hugeLength_7cf53 : ByteArray := prog_27_method_28_code
def yJ8_hugeLength_7cf53 : MethodName := ⟨RJ8, "hugeLength", "(II)I"⟩
def RJ3 : String := "jdk/internal/util/Preconditions"
def TJ3 : u_T := fun k => match k with
  | _ => ("", "", "", false)
def tyJ3 : Nat → FieldType := fun k => match k with
  | _ => .int
abbrev wsJ30 : List Cond := u_ws RJ3 TJ3 0
theorem nmJ3 : ∀ a, a < 0 → ∀ b, b < 0 → a ≠ b → (TJ3 a).2.1 ≠ (TJ3 b).2.1 := by decide +kernel
theorem tyJ3_ok : ∀ k, k < 0 → parseFieldDescriptor (TJ3 k).2.2.1 = some (tyJ3 k) := by decide +kernel
abbrev cJ3_checkIndex_8e157 : ByteArray := prog_28_method_11_code
def yJ3_checkIndex_8e157 : MethodName := ⟨RJ3, "checkIndex", "(IILjava/util/function/BiFunction;)I"⟩
def RL : String := "RegisterFleetLaw"
abbrev cL_law : ByteArray := code
def yL_law : MethodName := ⟨RL, "law", "([I)Z"⟩

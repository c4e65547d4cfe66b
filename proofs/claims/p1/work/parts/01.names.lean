theorem goodIn_r {big : List Cond} (ws : List Cond) (ps : List Nat) (hp : ws = ps.filterMap (fun i => big[i]?)) (h : ws.all goodWord = true) : GoodIn big ws := by
  intro w hw
  have h1 := List.all_eq_true.mp h w hw
  rw [hp] at hw
  obtain ⟨i, -, hi⟩ := List.mem_filterMap.mp hw
  have hm : w ∈ big := by first | exact List.mem_of_getElem? hi | exact List.getElem?_mem hi
  exact ⟨hm, good_of_word h1⟩
theorem goodIn_app {big a b : List Cond} (ha : GoodIn big a) (hb : GoodIn big b) : GoodIn big (a ++ b) := fun w h => (List.mem_append.mp h).elim (ha w) (hb w)
theorem goodIn_ca {big a b : List Cond} {c : Cond} (ha : GoodIn big (c :: a)) (hb : GoodIn big b) : GoodIn big (c :: (a ++ b)) := fun w h => (List.mem_cons.mp h).elim (fun e => ha w (List.mem_cons.mpr (Or.inl e))) (fun h => (List.mem_append.mp h).elim (fun h => ha w (List.mem_cons.mpr (Or.inr h))) (hb w))
theorem goodIn_sub {big ws : List Cond} (hm : ∀ w ∈ ws, w ∈ big) (h : ws.all goodWord = true) : GoodIn big ws := fun w hw => ⟨hm w hw, good_of_word (List.all_eq_true.mp h w hw)⟩
def RX0 : String := "HallTables$Chance"
def TX0 : u_T := fun k => match k with
  | 0 => ("HallTables$Chance", "stand", "LHallTables$Stand;", true)
  | 1 => ("HallTables$Chance", "steps", "I", false)
  | 2 => ("HallTables$Chance", "loss", "I", false)
  | 3 => ("HallTables$Chance", "dropped", "I", false)
  | 4 => ("HallTables$Chance", "owed", "I", false)
  | 5 => ("HallTables$Chance", "owedMan", "[I", true)
  | _ => ("HallTables$Chance", "owedHouse", "[I", true)
def tyX0 : Nat → FieldType := fun k => match k with
  | 0 => .object "HallTables$Stand"
  | 1 => .int
  | 2 => .int
  | 3 => .int
  | 4 => .int
  | 5 => .array .int
  | _ => .array .int
abbrev wsX00 : List Cond := u_ws RX0 TX0 7
theorem nmX0 : ∀ a, a < 7 → ∀ b, b < 7 → a ≠ b → (TX0 a).2.1 ≠ (TX0 b).2.1 := by decide +kernel
theorem tyX0_ok : ∀ k, k < 7 → parseFieldDescriptor (TX0 k).2.2.1 = some (tyX0 k) := by decide +kernel
abbrev cX0_init : ByteArray := prog_2_method_1_code
def yX0_init : MethodName := ⟨RX0, "<init>", "()V"⟩
abbrev cX0_lot : ByteArray := prog_2_method_2_code
def yX0_lot : MethodName := ⟨RX0, "lot", "(III)I"⟩
abbrev cX0_mixed : ByteArray := prog_2_method_3_code
def yX0_mixed : MethodName := ⟨RX0, "mixed", "(II)I"⟩
abbrev cX0_live : ByteArray := prog_2_method_4_code
def yX0_live : MethodName := ⟨RX0, "live", "(LHallTables$Town;LHallTables$Stand;II)V"⟩
abbrev cX0_doorsAt : ByteArray := prog_2_method_5_code
def yX0_doorsAt : MethodName := ⟨RX0, "doorsAt", "(LHallTables$Town;I)I"⟩
abbrev cX0_behindDoor : ByteArray := prog_2_method_6_code
def yX0_behindDoor : MethodName := ⟨RX0, "behindDoor", "(LHallTables$Town;II)I"⟩
abbrev cX0_goByLaw : ByteArray := prog_2_method_7_code
def yX0_goByLaw : MethodName := ⟨RX0, "goByLaw", "(LHallTables$Town;II)Z"⟩
abbrev cX0_payAll : ByteArray := prog_2_method_8_code
def yX0_payAll : MethodName := ⟨RX0, "payAll", "(LHallTables$Town;)V"⟩
abbrev cX0_owe : ByteArray := prog_2_method_9_code
def yX0_owe : MethodName := ⟨RX0, "owe", "(II)V"⟩
abbrev cX0_pay : ByteArray := prog_2_method_10_code
def yX0_pay : MethodName := ⟨RX0, "pay", "(LHallTables$Town;II)V"⟩
def RX1 : String := "HallTables$Day"
def TX1 : u_T := fun k => match k with
  | 0 => ("HallTables$Day", "houses", "I", false)
  | 1 => ("HallTables$Day", "calls", "I", false)
  | 2 => ("HallTables$Day", "target", "I", false)
  | 3 => ("HallTables$Day", "queued", "I", false)
  | 4 => ("HallTables$Day", "stock", "[I", true)
  | 5 => ("HallTables$Day", "unsent", "[I", true)
  | 6 => ("HallTables$Day", "from", "[I", true)
  | 7 => ("HallTables$Day", "to", "[I", true)
  | 8 => ("HallTables$Day", "carries", "[I", true)
  | 9 => ("HallTables$Day", "stay", "[I", true)
  | 10 => ("HallTables$Day", "queue", "[I", true)
  | 11 => ("HallTables$Day", "cameFrom", "[I", true)
  | _ => ("HallTables$Day", "leadsOn", "[I", true)
def tyX1 : Nat → FieldType := fun k => match k with
  | 0 => .int
  | 1 => .int
  | 2 => .int
  | 3 => .int
  | 4 => .array .int
  | 5 => .array .int
  | 6 => .array .int
  | 7 => .array .int
  | 8 => .array .int
  | 9 => .array .int
  | 10 => .array .int
  | 11 => .array .int
  | _ => .array .int
abbrev wsX10 : List Cond := u_ws RX1 TX1 13
theorem nmX1 : ∀ a, a < 13 → ∀ b, b < 13 → a ≠ b → (TX1 a).2.1 ≠ (TX1 b).2.1 := by decide +kernel
theorem tyX1_ok : ∀ k, k < 13 → parseFieldDescriptor (TX1 k).2.2.1 = some (tyX1 k) := by decide +kernel
abbrev cX1_init : ByteArray := prog_3_method_1_code
def yX1_init : MethodName := ⟨RX1, "<init>", "()V"⟩
abbrev cX1_prepare : ByteArray := prog_3_method_2_code
def yX1_prepare : MethodName := ⟨RX1, "prepare", "(LHallTables$Town;II)V"⟩
abbrev cX1_flow : ByteArray := prog_3_method_3_code
def yX1_flow : MethodName := ⟨RX1, "flow", "()I"⟩
abbrev cX1_sendOne : ByteArray := prog_3_method_4_code
def yX1_sendOne : MethodName := ⟨RX1, "sendOne", "()Z"⟩
abbrev cX1_change : ByteArray := prog_3_method_5_code
def yX1_change : MethodName := ⟨RX1, "change", "(II)V"⟩
abbrev cX1_spread : ByteArray := prog_3_method_6_code
def yX1_spread : MethodName := ⟨RX1, "spread", "()V"⟩
abbrev cX1_spreadBack : ByteArray := prog_3_method_7_code
def yX1_spreadBack : MethodName := ⟨RX1, "spreadBack", "()V"⟩
abbrev cX1_reach : ByteArray := prog_3_method_8_code
def yX1_reach : MethodName := ⟨RX1, "reach", "([III)V"⟩
abbrev cX1_help : ByteArray := prog_3_method_9_code
def yX1_help : MethodName := ⟨RX1, "help", "(LHallTables$Town;I)I"⟩
abbrev cX1_firstHelped : ByteArray := prog_3_method_10_code
def yX1_firstHelped : MethodName := ⟨RX1, "firstHelped", "(II)I"⟩
abbrev cX1_bestTurn : ByteArray := prog_3_method_11_code
def yX1_bestTurn : MethodName := ⟨RX1, "bestTurn", "()I"⟩
abbrev cX1_exchange : ByteArray := prog_3_method_12_code
def yX1_exchange : MethodName := ⟨RX1, "exchange", "(II)V"⟩
def RX2 : String := "HallTables$Heap"
def TX2 : u_T := fun k => match k with
  | 0 => ("HallTables$Heap", "size", "I", false)
  | 1 => ("HallTables$Heap", "key", "[J", true)
  | 2 => ("HallTables$Heap", "item", "[I", true)
  | _ => ("HallTables$Heap", "spot", "[I", true)
def tyX2 : Nat → FieldType := fun k => match k with
  | 0 => .int
  | 1 => .array .long
  | 2 => .array .int
  | _ => .array .int
abbrev wsX20 : List Cond := u_ws RX2 TX2 4
theorem nmX2 : ∀ a, a < 4 → ∀ b, b < 4 → a ≠ b → (TX2 a).2.1 ≠ (TX2 b).2.1 := by decide +kernel
theorem tyX2_ok : ∀ k, k < 4 → parseFieldDescriptor (TX2 k).2.2.1 = some (tyX2 k) := by decide +kernel
abbrev cX2_init : ByteArray := prog_4_method_1_code
def yX2_init : MethodName := ⟨RX2, "<init>", "()V"⟩
abbrev cX2_add : ByteArray := prog_4_method_2_code
def yX2_add : MethodName := ⟨RX2, "add", "(I)V"⟩
abbrev cX2_rise : ByteArray := prog_4_method_3_code
def yX2_rise : MethodName := ⟨RX2, "rise", "(I)V"⟩
abbrev cX2_takeLeast : ByteArray := prog_4_method_4_code
def yX2_takeLeast : MethodName := ⟨RX2, "takeLeast", "()I"⟩
abbrev cX2_sink : ByteArray := prog_4_method_5_code
def yX2_sink : MethodName := ⟨RX2, "sink", "(I)V"⟩
abbrev cX2_put : ByteArray := prog_4_method_6_code
def yX2_put : MethodName := ⟨RX2, "put", "(II)V"⟩
def RX3 : String := "HallTables$Rounds"
def TX3 : u_T := fun k => match k with
  | 0 => ("HallTables$Rounds", "here", "[I", false)
  | 1 => ("HallTables$Rounds", "next", "[I", false)
  | 2 => ("HallTables$Rounds", "town", "LHallTables$Town;", false)
  | 3 => ("HallTables$Rounds", "home", "I", false)
  | _ => ("HallTables$Rounds", "set", "I", false)
def tyX3 : Nat → FieldType := fun k => match k with
  | 0 => .array .int
  | 1 => .array .int
  | 2 => .object "HallTables$Town"
  | 3 => .int
  | _ => .int
abbrev wsX30 : List Cond := u_ws RX3 TX3 5
theorem nmX3 : ∀ a, a < 5 → ∀ b, b < 5 → a ≠ b → (TX3 a).2.1 ≠ (TX3 b).2.1 := by decide +kernel
theorem tyX3_ok : ∀ k, k < 5 → parseFieldDescriptor (TX3 k).2.2.1 = some (tyX3 k) := by decide +kernel
abbrev cX3_init : ByteArray := prog_5_method_1_code
def yX3_init : MethodName := ⟨RX3, "<init>", "()V"⟩
abbrev cX3_fewest : ByteArray := prog_5_method_2_code
def yX3_fewest : MethodName := ⟨RX3, "fewest", "(LHallTables$Town;LHallTables$Stand;II)I"⟩
abbrev cX3_spot : ByteArray := prog_5_method_3_code
def yX3_spot : MethodName := ⟨RX3, "spot", "(II)I"⟩
abbrev cX3_isPart : ByteArray := prog_5_method_4_code
def yX3_isPart : MethodName := ⟨RX3, "isPart", "(I)Z"⟩
abbrev cX3_goHome : ByteArray := prog_5_method_5_code
def yX3_goHome : MethodName := ⟨RX3, "goHome", "()V"⟩
abbrev cX3_goOn : ByteArray := prog_5_method_6_code
def yX3_goOn : MethodName := ⟨RX3, "goOn", "()V"⟩
abbrev cX3_goOnFrom : ByteArray := prog_5_method_7_code
def yX3_goOnFrom : MethodName := ⟨RX3, "goOnFrom", "(II)V"⟩
abbrev cX3_pass : ByteArray := prog_5_method_8_code
def yX3_pass : MethodName := ⟨RX3, "pass", "(III[I)V"⟩
def RX4 : String := "HallTables$Stand"
def TX4 : u_T := fun k => match k with
  | 0 => ("HallTables$Stand", "holds", "Z", false)
  | 1 => ("HallTables$Stand", "men", "I", false)
  | 2 => ("HallTables$Stand", "at", "[I", true)
  | 3 => ("HallTables$Stand", "hand", "[I", true)
  | 4 => ("HallTables$Stand", "minutes", "[I", true)
  | 5 => ("HallTables$Stand", "loss", "[I", true)
  | _ => ("HallTables$Stand", "table", "[I", true)
def tyX4 : Nat → FieldType := fun k => match k with
  | 0 => .boolean
  | 1 => .int
  | 2 => .array .int
  | 3 => .array .int
  | 4 => .array .int
  | 5 => .array .int
  | _ => .array .int
abbrev wsX40 : List Cond := u_ws RX4 TX4 7
theorem nmX4 : ∀ a, a < 7 → ∀ b, b < 7 → a ≠ b → (TX4 a).2.1 ≠ (TX4 b).2.1 := by decide +kernel
theorem tyX4_ok : ∀ k, k < 7 → parseFieldDescriptor (TX4 k).2.2.1 = some (tyX4 k) := by decide +kernel
abbrev cX4_init : ByteArray := prog_6_method_1_code
def yX4_init : MethodName := ⟨RX4, "<init>", "()V"⟩
abbrev cX4_begin : ByteArray := prog_6_method_2_code
def yX4_begin : MethodName := ⟨RX4, "begin", "(LHallTables$Town;)V"⟩
abbrev cX4_copyOf : ByteArray := prog_6_method_3_code
def yX4_copyOf : MethodName := ⟨RX4, "copyOf", "(LHallTables$Stand;)V"⟩
abbrev cX4_enter : ByteArray := prog_6_method_4_code
def yX4_enter : MethodName := ⟨RX4, "enter", "(LHallTables$Town;III)V"⟩
abbrev cX4_takeBack : ByteArray := prog_6_method_5_code
def yX4_takeBack : MethodName := ⟨RX4, "takeBack", "(LHallTables$Town;LHallTables$Track;I)V"⟩
abbrev cX4_thingsCarried : ByteArray := prog_6_method_6_code
def yX4_thingsCarried : MethodName := ⟨RX4, "thingsCarried", "()I"⟩
abbrev cX4_thingsOnTables : ByteArray := prog_6_method_7_code
def yX4_thingsOnTables : MethodName := ⟨RX4, "thingsOnTables", "()I"⟩
abbrev cX4_menAtHome : ByteArray := prog_6_method_8_code
def yX4_menAtHome : MethodName := ⟨RX4, "menAtHome", "(LHallTables$Town;)I"⟩
def RX5 : String := "HallTables$Teller"
def TX5 : u_T := fun k => match k with
  | 0 => ("HallTables$Teller", "text", "LHallTables$Text;", true)
  | 1 => ("HallTables$Teller", "town", "LHallTables$Town;", false)
  | _ => ("HallTables$Teller", "at", "I", false)
def tyX5 : Nat → FieldType := fun k => match k with
  | 0 => .object "HallTables$Text"
  | 1 => .object "HallTables$Town"
  | _ => .int
abbrev wsX50 : List Cond := u_ws RX5 TX5 3
theorem nmX5 : ∀ a, a < 3 → ∀ b, b < 3 → a ≠ b → (TX5 a).2.1 ≠ (TX5 b).2.1 := by decide +kernel
theorem tyX5_ok : ∀ k, k < 3 → parseFieldDescriptor (TX5 k).2.2.1 = some (tyX5 k) := by decide +kernel
abbrev cX5_init : ByteArray := prog_7_method_1_code
def yX5_init : MethodName := ⟨RX5, "<init>", "()V"⟩
abbrev cX5_exchange : ByteArray := prog_7_method_2_code
def yX5_exchange : MethodName := ⟨RX5, "exchange", "(LHallTables$Town;)LHallTables$Town;"⟩
abbrev cX5_tellAll : ByteArray := prog_7_method_3_code
def yX5_tellAll : MethodName := ⟨RX5, "tellAll", "()V"⟩
abbrev cX5_tellOne : ByteArray := prog_7_method_4_code
def yX5_tellOne : MethodName := ⟨RX5, "tellOne", "(I)V"⟩
abbrev cX5_tellSort : ByteArray := prog_7_method_5_code
def yX5_tellSort : MethodName := ⟨RX5, "tellSort", "()V"⟩
abbrev cX5_tellHouse : ByteArray := prog_7_method_6_code
def yX5_tellHouse : MethodName := ⟨RX5, "tellHouse", "()V"⟩
abbrev cX5_tellDoor : ByteArray := prog_7_method_7_code
def yX5_tellDoor : MethodName := ⟨RX5, "tellDoor", "()V"⟩
abbrev cX5_tellWorth : ByteArray := prog_7_method_8_code
def yX5_tellWorth : MethodName := ⟨RX5, "tellWorth", "()V"⟩
abbrev cX5_tellShop : ByteArray := prog_7_method_9_code
def yX5_tellShop : MethodName := ⟨RX5, "tellShop", "()V"⟩
abbrev cX5_tellHall : ByteArray := prog_7_method_10_code
def yX5_tellHall : MethodName := ⟨RX5, "tellHall", "()V"⟩
abbrev cX5_tellMan : ByteArray := prog_7_method_11_code
def yX5_tellMan : MethodName := ⟨RX5, "tellMan", "()V"⟩
abbrev cX5_tellLaw : ByteArray := prog_7_method_12_code
def yX5_tellLaw : MethodName := ⟨RX5, "tellLaw", "()V"⟩
abbrev cX5_tellCall : ByteArray := prog_7_method_13_code
def yX5_tellCall : MethodName := ⟨RX5, "tellCall", "()V"⟩
abbrev cX5_isWell : ByteArray := prog_7_method_14_code
def yX5_isWell : MethodName := ⟨RX5, "isWell", "()Z"⟩
abbrev cX5_newName : ByteArray := prog_7_method_15_code
def yX5_newName : MethodName := ⟨RX5, "newName", "()J"⟩
abbrev cX5_known : ByteArray := prog_7_method_16_code
def yX5_known : MethodName := ⟨RX5, "known", "([JI)I"⟩
abbrev cX5_number : ByteArray := prog_7_method_17_code
def yX5_number : MethodName := ⟨RX5, "number", "(II)I"⟩
abbrev cX5_indexOf : ByteArray := prog_7_method_18_code
def yX5_indexOf : MethodName := ⟨RX5, "indexOf", "(J[JI)I"⟩
def RX6 : String := "HallTables$Text"
def TX6 : u_T := fun k => match k with
  | 0 => ("HallTables$Text", "length", "I", false)
  | 1 => ("HallTables$Text", "tokens", "I", false)
  | 2 => ("HallTables$Text", "fault", "I", false)
  | 3 => ("HallTables$Text", "faultPlace", "I", false)
  | 4 => ("HallTables$Text", "end", "I", false)
  | 5 => ("HallTables$Text", "value", "J", false)
  | 6 => ("HallTables$Text", "bytes", "[B", true)
  | 7 => ("HallTables$Text", "kinds", "[I", true)
  | 8 => ("HallTables$Text", "values", "[J", true)
  | 9 => ("HallTables$Text", "places", "[I", true)
  | 10 => ("HallTables$Text", "told", "[I", true)
  | _ => ("HallTables$Text", "words", "[J", true)
def tyX6 : Nat → FieldType := fun k => match k with
  | 0 => .int
  | 1 => .int
  | 2 => .int
  | 3 => .int
  | 4 => .int
  | 5 => .long
  | 6 => .array .byte
  | 7 => .array .int
  | 8 => .array .long
  | 9 => .array .int
  | 10 => .array .int
  | _ => .array .long
abbrev wsX60 : List Cond := u_ws RX6 TX6 12
theorem nmX6 : ∀ a, a < 12 → ∀ b, b < 12 → a ≠ b → (TX6 a).2.1 ≠ (TX6 b).2.1 := by decide +kernel
theorem tyX6_ok : ∀ k, k < 12 → parseFieldDescriptor (TX6 k).2.2.1 = some (tyX6 k) := by decide +kernel
abbrev cX6_init : ByteArray := prog_8_method_1_code
def yX6_init : MethodName := ⟨RX6, "<init>", "()V"⟩
abbrev cX6_hasRoomFor : ByteArray := prog_8_method_2_code
def yX6_hasRoomFor : MethodName := ⟨RX6, "hasRoomFor", "(I)Z"⟩
abbrev cX6_append : ByteArray := prog_8_method_3_code
def yX6_append : MethodName := ⟨RX6, "append", "(I)V"⟩
abbrev cX6_kindOf : ByteArray := prog_8_method_4_code
def yX6_kindOf : MethodName := ⟨RX6, "kindOf", "(I)I"⟩
abbrev cX6_valueOf : ByteArray := prog_8_method_5_code
def yX6_valueOf : MethodName := ⟨RX6, "valueOf", "(I)J"⟩
abbrev cX6_placeOf : ByteArray := prog_8_method_6_code
def yX6_placeOf : MethodName := ⟨RX6, "placeOf", "(I)I"⟩
abbrev cX6_note : ByteArray := prog_8_method_7_code
def yX6_note : MethodName := ⟨RX6, "note", "(II)V"⟩
abbrev cX6_check : ByteArray := prog_8_method_8_code
def yX6_check : MethodName := ⟨RX6, "check", "()V"⟩
abbrev cX6_keep : ByteArray := prog_8_method_9_code
def yX6_keep : MethodName := ⟨RX6, "keep", "(II)V"⟩
abbrev cX6_begin : ByteArray := prog_8_method_10_code
def yX6_begin : MethodName := ⟨RX6, "begin", "(I)I"⟩
abbrev cX6_follow : ByteArray := prog_8_method_11_code
def yX6_follow : MethodName := ⟨RX6, "follow", "(III)I"⟩
abbrev cX6_shape : ByteArray := prog_8_method_12_code
def yX6_shape : MethodName := ⟨RX6, "shape", "(I)Ljava/lang/String;"⟩
abbrev cX6_pastBlanks : ByteArray := prog_8_method_13_code
def yX6_pastBlanks : MethodName := ⟨RX6, "pastBlanks", "(I)I"⟩
abbrev cX6_byteAt : ByteArray := prog_8_method_14_code
def yX6_byteAt : MethodName := ⟨RX6, "byteAt", "(I)I"⟩
abbrev cX6_lex : ByteArray := prog_8_method_15_code
def yX6_lex : MethodName := ⟨RX6, "lex", "(I)I"⟩
abbrev cX6_lexName : ByteArray := prog_8_method_16_code
def yX6_lexName : MethodName := ⟨RX6, "lexName", "(I)I"⟩
abbrev cX6_lexInt : ByteArray := prog_8_method_17_code
def yX6_lexInt : MethodName := ⟨RX6, "lexInt", "(I)I"⟩
abbrev cX6_isLetter : ByteArray := prog_8_method_18_code
def yX6_isLetter : MethodName := ⟨RX6, "isLetter", "(I)Z"⟩
abbrev cX6_isDigit : ByteArray := prog_8_method_19_code
def yX6_isDigit : MethodName := ⟨RX6, "isDigit", "(I)Z"⟩
abbrev cX6_code : ByteArray := prog_8_method_20_code
def yX6_code : MethodName := ⟨RX6, "code", "(Ljava/lang/String;)J"⟩
abbrev cX6_codeWith : ByteArray := prog_8_method_21_code
def yX6_codeWith : MethodName := ⟨RX6, "codeWith", "(JI)J"⟩
def RX7 : String := "HallTables$Town"
def TX7 : u_T := fun k => match k with
  | 0 => ("HallTables$Town", "sorts", "I", false)
  | 1 => ("HallTables$Town", "houses", "I", false)
  | 2 => ("HallTables$Town", "doors", "I", false)
  | 3 => ("HallTables$Town", "men", "I", false)
  | 4 => ("HallTables$Town", "calls", "I", false)
  | 5 => ("HallTables$Town", "law", "I", false)
  | 6 => ("HallTables$Town", "sortNames", "[J", true)
  | 7 => ("HallTables$Town", "houseNames", "[J", true)
  | 8 => ("HallTables$Town", "manNames", "[J", true)
  | 9 => ("HallTables$Town", "plainWorth", "[I", true)
  | 10 => ("HallTables$Town", "worth", "[I", true)
  | 11 => ("HallTables$Town", "minutes", "[I", true)
  | 12 => ("HallTables$Town", "sells", "[I", true)
  | 13 => ("HallTables$Town", "table", "[I", true)
  | 14 => ("HallTables$Town", "home", "[I", true)
  | 15 => ("HallTables$Town", "hand", "[I", true)
  | 16 => ("HallTables$Town", "callMan", "[I", true)
  | _ => ("HallTables$Town", "callHouse", "[I", true)
def tyX7 : Nat → FieldType := fun k => match k with
  | 0 => .int
  | 1 => .int
  | 2 => .int
  | 3 => .int
  | 4 => .int
  | 5 => .int
  | 6 => .array .long
  | 7 => .array .long
  | 8 => .array .long
  | 9 => .array .int
  | 10 => .array .int
  | 11 => .array .int
  | 12 => .array .int
  | 13 => .array .int
  | 14 => .array .int
  | 15 => .array .int
  | 16 => .array .int
  | _ => .array .int
abbrev wsX70 : List Cond := u_ws RX7 TX7 18
theorem nmX7 : ∀ a, a < 18 → ∀ b, b < 18 → a ≠ b → (TX7 a).2.1 ≠ (TX7 b).2.1 := by decide +kernel
theorem tyX7_ok : ∀ k, k < 18 → parseFieldDescriptor (TX7 k).2.2.1 = some (tyX7 k) := by decide +kernel
abbrev cX7_init : ByteArray := prog_9_method_1_code
def yX7_init : MethodName := ⟨RX7, "<init>", "()V"⟩
abbrev cX7_clear : ByteArray := prog_9_method_2_code
def yX7_clear : MethodName := ⟨RX7, "clear", "()V"⟩
abbrev cX7_isSort : ByteArray := prog_9_method_3_code
def yX7_isSort : MethodName := ⟨RX7, "isSort", "(I)Z"⟩
abbrev cX7_isHouse : ByteArray := prog_9_method_4_code
def yX7_isHouse : MethodName := ⟨RX7, "isHouse", "(I)Z"⟩
abbrev cX7_isMan : ByteArray := prog_9_method_5_code
def yX7_isMan : MethodName := ⟨RX7, "isMan", "(I)Z"⟩
abbrev cX7_addSort : ByteArray := prog_9_method_6_code
def yX7_addSort : MethodName := ⟨RX7, "addSort", "(JI)V"⟩
abbrev cX7_addDoor : ByteArray := prog_9_method_7_code
def yX7_addDoor : MethodName := ⟨RX7, "addDoor", "(III)V"⟩
abbrev cX7_minutesTo : ByteArray := prog_9_method_8_code
def yX7_minutesTo : MethodName := ⟨RX7, "minutesTo", "(II)I"⟩
abbrev cX7_worthAt : ByteArray := prog_9_method_9_code
def yX7_worthAt : MethodName := ⟨RX7, "worthAt", "(II)I"⟩
abbrev cX7_isSold : ByteArray := prog_9_method_10_code
def yX7_isSold : MethodName := ⟨RX7, "isSold", "(II)Z"⟩
abbrev cX7_cell : ByteArray := prog_9_method_11_code
def yX7_cell : MethodName := ⟨RX7, "cell", "(II)I"⟩
abbrev cX7_oneOf : ByteArray := prog_9_method_12_code
def yX7_oneOf : MethodName := ⟨RX7, "oneOf", "(I)I"⟩
abbrev cX7_inHand : ByteArray := prog_9_method_13_code
def yX7_inHand : MethodName := ⟨RX7, "inHand", "(II)I"⟩
abbrev cX7_things : ByteArray := prog_9_method_14_code
def yX7_things : MethodName := ⟨RX7, "things", "(I)I"⟩
abbrev cX7_fullSorts : ByteArray := prog_9_method_15_code
def yX7_fullSorts : MethodName := ⟨RX7, "fullSorts", "(I)I"⟩
abbrev cX7_leftByLaw : ByteArray := prog_9_method_16_code
def yX7_leftByLaw : MethodName := ⟨RX7, "leftByLaw", "(II)I"⟩
abbrev cX7_choices : ByteArray := prog_9_method_17_code
def yX7_choices : MethodName := ⟨RX7, "choices", "(II)I"⟩
abbrev cX7_mayLeave : ByteArray := prog_9_method_18_code
def yX7_mayLeave : MethodName := ⟨RX7, "mayLeave", "(III)Z"⟩
def RX8 : String := "HallTables$Track"
def TX8 : u_T := fun k => match k with
  | 0 => ("HallTables$Track", "count", "I", false)
  | 1 => ("HallTables$Track", "next", "I", false)
  | 2 => ("HallTables$Track", "man", "[I", true)
  | 3 => ("HallTables$Track", "from", "[I", true)
  | 4 => ("HallTables$Track", "sort", "[I", true)
  | _ => ("HallTables$Track", "minutes", "[I", true)
def tyX8 : Nat → FieldType := fun k => match k with
  | 0 => .int
  | 1 => .int
  | 2 => .array .int
  | 3 => .array .int
  | 4 => .array .int
  | _ => .array .int
abbrev wsX80 : List Cond := u_ws RX8 TX8 6
theorem nmX8 : ∀ a, a < 6 → ∀ b, b < 6 → a ≠ b → (TX8 a).2.1 ≠ (TX8 b).2.1 := by decide +kernel
theorem tyX8_ok : ∀ k, k < 6 → parseFieldDescriptor (TX8 k).2.2.1 = some (tyX8 k) := by decide +kernel
abbrev cX8_init : ByteArray := prog_10_method_1_code
def yX8_init : MethodName := ⟨RX8, "<init>", "()V"⟩
abbrev cX8_clear : ByteArray := prog_10_method_2_code
def yX8_clear : MethodName := ⟨RX8, "clear", "()V"⟩
abbrev cX8_note : ByteArray := prog_10_method_3_code
def yX8_note : MethodName := ⟨RX8, "note", "(IIII)V"⟩
abbrev cX8_takeLast : ByteArray := prog_10_method_4_code
def yX8_takeLast : MethodName := ⟨RX8, "takeLast", "()I"⟩
def RX9 : String := "HallTables$Visits"
def TX9 : u_T := fun k => match k with
  | 0 => ("HallTables$Visits", "seen", "I", false)
  | 1 => ("HallTables$Visits", "seenCell", "[I", true)
  | 2 => ("HallTables$Visits", "seenMany", "[I", true)
  | 3 => ("HallTables$Visits", "known", "[I", true)
  | 4 => ("HallTables$Visits", "weight", "[I", true)
  | 5 => ("HallTables$Visits", "parts", "I", false)
  | 6 => ("HallTables$Visits", "here", "[J", false)
  | _ => ("HallTables$Visits", "after", "[J", false)
def tyX9 : Nat → FieldType := fun k => match k with
  | 0 => .int
  | 1 => .array .int
  | 2 => .array .int
  | 3 => .array .int
  | 4 => .array .int
  | 5 => .int
  | 6 => .array .long
  | _ => .array .long
abbrev wsX90 : List Cond := u_ws RX9 TX9 8
theorem nmX9 : ∀ a, a < 8 → ∀ b, b < 8 → a ≠ b → (TX9 a).2.1 ≠ (TX9 b).2.1 := by decide +kernel
theorem tyX9_ok : ∀ k, k < 8 → parseFieldDescriptor (TX9 k).2.2.1 = some (tyX9 k) := by decide +kernel
abbrev cX9_init : ByteArray := prog_11_method_1_code
def yX9_init : MethodName := ⟨RX9, "<init>", "()V"⟩
abbrev cX9_clear : ByteArray := prog_11_method_2_code
def yX9_clear : MethodName := ⟨RX9, "clear", "()V"⟩
abbrev cX9_add : ByteArray := prog_11_method_3_code
def yX9_add : MethodName := ⟨RX9, "add", "(III)I"⟩
abbrev cX9_isKnown : ByteArray := prog_11_method_4_code
def yX9_isKnown : MethodName := ⟨RX9, "isKnown", "(I)Z"⟩
abbrev cX9_know : ByteArray := prog_11_method_5_code
def yX9_know : MethodName := ⟨RX9, "know", "(LHallTables$Town;I)Z"⟩
abbrev cX9_ways : ByteArray := prog_11_method_6_code
def yX9_ways : MethodName := ⟨RX9, "ways", "(LHallTables$Town;II)J"⟩
abbrev cX9_visit : ByteArray := prog_11_method_7_code
def yX9_visit : MethodName := ⟨RX9, "visit", "(II)V"⟩
abbrev cX9_leave : ByteArray := prog_11_method_8_code
def yX9_leave : MethodName := ⟨RX9, "leave", "(I)V"⟩
def RX10 : String := "HallTables$Ways"
def TX10 : u_T := fun k => match k with
  | 0 => ("HallTables$Ways", "sums", "[I", true)
  | 1 => ("HallTables$Ways", "together", "[I", true)
  | 2 => ("HallTables$Ways", "town", "LHallTables$Town;", false)
  | 3 => ("HallTables$Ways", "home", "I", false)
  | 4 => ("HallTables$Ways", "start", "I", false)
  | 5 => ("HallTables$Ways", "by", "I", false)
  | 6 => ("HallTables$Ways", "goal", "I", false)
  | 7 => ("HallTables$Ways", "goalHouse", "I", false)
  | 8 => ("HallTables$Ways", "goalSort", "I", false)
  | 9 => ("HallTables$Ways", "ready", "Z", false)
  | 10 => ("HallTables$Ways", "best", "J", false)
  | 11 => ("HallTables$Ways", "settled", "I", false)
  | 12 => ("HallTables$Ways", "steps", "I", false)
  | 13 => ("HallTables$Ways", "codes", "[I", true)
  | 14 => ("HallTables$Ways", "heap", "LHallTables$Heap;", true)
  | 15 => ("HallTables$Ways", "key", "[J", true)
  | 16 => ("HallTables$Ways", "order", "[I", true)
  | _ => ("HallTables$Ways", "good", "[B", true)
def tyX10 : Nat → FieldType := fun k => match k with
  | 0 => .array .int
  | 1 => .array .int
  | 2 => .object "HallTables$Town"
  | 3 => .int
  | 4 => .int
  | 5 => .int
  | 6 => .int
  | 7 => .int
  | 8 => .int
  | 9 => .boolean
  | 10 => .long
  | 11 => .int
  | 12 => .int
  | 13 => .array .int
  | 14 => .object "HallTables$Heap"
  | 15 => .array .long
  | 16 => .array .int
  | _ => .array .byte
abbrev wsX100 : List Cond := u_ws RX10 TX10 18
theorem nmX10 : ∀ a, a < 18 → ∀ b, b < 18 → a ≠ b → (TX10 a).2.1 ≠ (TX10 b).2.1 := by decide +kernel
theorem tyX10_ok : ∀ k, k < 18 → parseFieldDescriptor (TX10 k).2.2.1 = some (tyX10 k) := by decide +kernel
abbrev cX10_init : ByteArray := prog_12_method_1_code
def yX10_init : MethodName := ⟨RX10, "<init>", "()V"⟩
abbrev cX10_isBy : ByteArray := prog_12_method_2_code
def yX10_isBy : MethodName := ⟨RX10, "isBy", "(I)Z"⟩
abbrev cX10_forgetLast : ByteArray := prog_12_method_3_code
def yX10_forgetLast : MethodName := ⟨RX10, "forgetLast", "()V"⟩
abbrev cX10_startWith : ByteArray := prog_12_method_4_code
def yX10_startWith : MethodName := ⟨RX10, "startWith", "(LHallTables$Town;LHallTables$Stand;I)V"⟩
abbrev cX10_find : ByteArray := prog_12_method_5_code
def yX10_find : MethodName := ⟨RX10, "find", "(IIII)Z"⟩
abbrev cX10_least : ByteArray := prog_12_method_6_code
def yX10_least : MethodName := ⟨RX10, "least", "()I"⟩
abbrev cX10_search : ByteArray := prog_12_method_7_code
def yX10_search : MethodName := ⟨RX10, "search", "()V"⟩
abbrev cX10_reachAround : ByteArray := prog_12_method_8_code
def yX10_reachAround : MethodName := ⟨RX10, "reachAround", "(I)V"⟩
abbrev cX10_reach : ByteArray := prog_12_method_9_code
def yX10_reach : MethodName := ⟨RX10, "reach", "(IJ)V"⟩
abbrev cX10_far : ByteArray := prog_12_method_10_code
def yX10_far : MethodName := ⟨RX10, "far", "(I)J"⟩
abbrev cX10_markGood : ByteArray := prog_12_method_11_code
def yX10_markGood : MethodName := ⟨RX10, "markGood", "()V"⟩
abbrev cX10_firstGood : ByteArray := prog_12_method_12_code
def yX10_firstGood : MethodName := ⟨RX10, "firstGood", "(I)I"⟩
abbrev cX10_follow : ByteArray := prog_12_method_13_code
def yX10_follow : MethodName := ⟨RX10, "follow", "(I)I"⟩
abbrev cX10_isGoal : ByteArray := prog_12_method_14_code
def yX10_isGoal : MethodName := ⟨RX10, "isGoal", "(I)Z"⟩
abbrev cX10_lookAround : ByteArray := prog_12_method_15_code
def yX10_lookAround : MethodName := ⟨RX10, "lookAround", "(I)V"⟩
abbrev cX10_addSteps : ByteArray := prog_12_method_16_code
def yX10_addSteps : MethodName := ⟨RX10, "addSteps", "(II)V"⟩
abbrev cX10_after : ByteArray := prog_12_method_17_code
def yX10_after : MethodName := ⟨RX10, "after", "(II)I"⟩
abbrev cX10_doors : ByteArray := prog_12_method_18_code
def yX10_doors : MethodName := ⟨RX10, "doors", "(I)I"⟩
abbrev cX10_minutes : ByteArray := prog_12_method_19_code
def yX10_minutes : MethodName := ⟨RX10, "minutes", "(II)I"⟩
abbrev cX10_loss : ByteArray := prog_12_method_20_code
def yX10_loss : MethodName := ⟨RX10, "loss", "(I)I"⟩
abbrev cX10_cost : ByteArray := prog_12_method_21_code
def yX10_cost : MethodName := ⟨RX10, "cost", "(II)J"⟩
abbrev cX10_housesFound : ByteArray := prog_12_method_22_code
def yX10_housesFound : MethodName := ⟨RX10, "housesFound", "()I"⟩
abbrev cX10_mostAt : ByteArray := prog_12_method_23_code
def yX10_mostAt : MethodName := ⟨RX10, "mostAt", "(I)I"⟩
abbrev cX10_addMinutes : ByteArray := prog_12_method_24_code
def yX10_addMinutes : MethodName := ⟨RX10, "addMinutes", "()V"⟩
def RX11 : String := "HallTables"
def TX11 : u_T := fun k => match k with
  | 0 => ("HallTables", "teller", "LHallTables$Teller;", true)
  | 1 => ("HallTables", "text", "LHallTables$Text;", true)
  | 2 => ("HallTables", "now", "LHallTables$Stand;", true)
  | 3 => ("HallTables", "slots", "[LHallTables$Stand;", true)
  | 4 => ("HallTables", "track", "LHallTables$Track;", true)
  | 5 => ("HallTables", "ways", "LHallTables$Ways;", true)
  | 6 => ("HallTables", "rounds", "LHallTables$Rounds;", true)
  | 7 => ("HallTables", "day", "LHallTables$Day;", true)
  | 8 => ("HallTables", "chance", "LHallTables$Chance;", true)
  | 9 => ("HallTables", "visits", "LHallTables$Visits;", true)
  | _ => ("HallTables", "town", "LHallTables$Town;", false)
def tyX11 : Nat → FieldType := fun k => match k with
  | 0 => .object "HallTables$Teller"
  | 1 => .object "HallTables$Text"
  | 2 => .object "HallTables$Stand"
  | 3 => .array (.object "HallTables$Stand")
  | 4 => .object "HallTables$Track"
  | 5 => .object "HallTables$Ways"
  | 6 => .object "HallTables$Rounds"
  | 7 => .object "HallTables$Day"
  | 8 => .object "HallTables$Chance"
  | 9 => .object "HallTables$Visits"
  | _ => .object "HallTables$Town"
abbrev wsX110 : List Cond := u_ws RX11 TX11 11
theorem nmX11 : ∀ a, a < 11 → ∀ b, b < 11 → a ≠ b → (TX11 a).2.1 ≠ (TX11 b).2.1 := by decide +kernel
theorem tyX11_ok : ∀ k, k < 11 → parseFieldDescriptor (TX11 k).2.2.1 = some (tyX11 k) := by decide +kernel
abbrev cX11_init : ByteArray := prog_1_method_1_code
def yX11_init : MethodName := ⟨RX11, "<init>", "()V"⟩
abbrev cX11_feed : ByteArray := prog_1_method_2_code
def yX11_feed : MethodName := ⟨RX11, "feed", "(IIIII)I"⟩
abbrev cX11_back : ByteArray := prog_1_method_3_code
def yX11_back : MethodName := ⟨RX11, "back", "(I)I"⟩
abbrev cX11_read : ByteArray := prog_1_method_4_code
def yX11_read : MethodName := ⟨RX11, "read", "()I"⟩
abbrev cX11_moveIn : ByteArray := prog_1_method_5_code
def yX11_moveIn : MethodName := ⟨RX11, "moveIn", "()V"⟩
abbrev cX11_place : ByteArray := prog_1_method_6_code
def yX11_place : MethodName := ⟨RX11, "place", "()I"⟩
abbrev cX11_door : ByteArray := prog_1_method_7_code
def yX11_door : MethodName := ⟨RX11, "door", "(II)I"⟩
abbrev cX11_worth : ByteArray := prog_1_method_8_code
def yX11_worth : MethodName := ⟨RX11, "worth", "(II)I"⟩
abbrev cX11_table : ByteArray := prog_1_method_9_code
def yX11_table : MethodName := ⟨RX11, "table", "(II)I"⟩
abbrev cX11_man : ByteArray := prog_1_method_10_code
def yX11_man : MethodName := ⟨RX11, "man", "(II)I"⟩
abbrev cX11_has : ByteArray := prog_1_method_11_code
def yX11_has : MethodName := ⟨RX11, "has", "(II)I"⟩
abbrev cX11_may : ByteArray := prog_1_method_12_code
def yX11_may : MethodName := ⟨RX11, "may", "(III)I"⟩
abbrev cX11_go : ByteArray := prog_1_method_13_code
def yX11_go : MethodName := ⟨RX11, "go", "(III)I"⟩
abbrev cX11_buy : ByteArray := prog_1_method_14_code
def yX11_buy : MethodName := ⟨RX11, "buy", "(II)I"⟩
abbrev cX11_undo : ByteArray := prog_1_method_15_code
def yX11_undo : MethodName := ⟨RX11, "undo", "()Z"⟩
abbrev cX11_way : ByteArray := prog_1_method_16_code
def yX11_way : MethodName := ⟨RX11, "way", "(IIIII)I"⟩
abbrev cX11_isWay : ByteArray := prog_1_method_17_code
def yX11_isWay : MethodName := ⟨RX11, "isWay", "(IIII)Z"⟩
abbrev cX11_step : ByteArray := prog_1_method_18_code
def yX11_step : MethodName := ⟨RX11, "step", "(IIIII)I"⟩
abbrev cX11_rid : ByteArray := prog_1_method_19_code
def yX11_rid : MethodName := ⟨RX11, "rid", "(IIII)I"⟩
abbrev cX11_get : ByteArray := prog_1_method_20_code
def yX11_get : MethodName := ⟨RX11, "get", "(II)I"⟩
abbrev cX11_inReach : ByteArray := prog_1_method_21_code
def yX11_inReach : MethodName := ⟨RX11, "inReach", "(I)I"⟩
abbrev cX11_most : ByteArray := prog_1_method_22_code
def yX11_most : MethodName := ⟨RX11, "most", "(II)I"⟩
abbrev cX11_meet : ByteArray := prog_1_method_23_code
def yX11_meet : MethodName := ⟨RX11, "meet", "(III)I"⟩
abbrev cX11_riches : ByteArray := prog_1_method_24_code
def yX11_riches : MethodName := ⟨RX11, "riches", "(I)I"⟩
abbrev cX11_richesAt : ByteArray := prog_1_method_25_code
def yX11_richesAt : MethodName := ⟨RX11, "richesAt", "(I)I"⟩
abbrev cX11_round : ByteArray := prog_1_method_26_code
def yX11_round : MethodName := ⟨RX11, "round", "(II)I"⟩
abbrev cX11_carried : ByteArray := prog_1_method_27_code
def yX11_carried : MethodName := ⟨RX11, "carried", "(II)I"⟩
abbrev cX11_helps : ByteArray := prog_1_method_28_code
def yX11_helps : MethodName := ⟨RX11, "helps", "(III)I"⟩
abbrev cX11_turned : ByteArray := prog_1_method_29_code
def yX11_turned : MethodName := ⟨RX11, "turned", "(II)I"⟩
abbrev cX11_year : ByteArray := prog_1_method_30_code
def yX11_year : MethodName := ⟨RX11, "year", "(III)I"⟩
abbrev cX11_rest : ByteArray := prog_1_method_31_code
def yX11_rest : MethodName := ⟨RX11, "rest", "(I)I"⟩
abbrev cX11_see : ByteArray := prog_1_method_32_code
def yX11_see : MethodName := ⟨RX11, "see", "(III)I"⟩
abbrev cX11_forget : ByteArray := prog_1_method_33_code
def yX11_forget : MethodName := ⟨RX11, "forget", "()I"⟩
abbrev cX11_fits : ByteArray := prog_1_method_34_code
def yX11_fits : MethodName := ⟨RX11, "fits", "(I)J"⟩
abbrev cX11_visitors : ByteArray := prog_1_method_35_code
def yX11_visitors : MethodName := ⟨RX11, "visitors", "(IIZ)I"⟩
abbrev cX11_hold : ByteArray := prog_1_method_36_code
def yX11_hold : MethodName := ⟨RX11, "hold", "(I)Z"⟩
abbrev cX11_restore : ByteArray := prog_1_method_37_code
def yX11_restore : MethodName := ⟨RX11, "restore", "(I)Z"⟩
abbrev cX11_count : ByteArray := prog_1_method_38_code
def yX11_count : MethodName := ⟨RX11, "count", "(I)I"⟩
abbrev cX11_slotsHeld : ByteArray := prog_1_method_39_code
def yX11_slotsHeld : MethodName := ⟨RX11, "slotsHeld", "()I"⟩
def RX12 : String := "HallTablesModel"
def TX12 : u_T := fun k => match k with
  | 0 => ("HallTablesModel", "thrown", "I", false)
  | 1 => ("HallTablesModel", "tape", "[B", true)
  | 2 => ("HallTablesModel", "taped", "I", false)
  | 3 => ("HallTablesModel", "text", "[B", true)
  | 4 => ("HallTablesModel", "size", "I", false)
  | 5 => ("HallTablesModel", "tKind", "[I", true)
  | 6 => ("HallTablesModel", "tPlace", "[I", true)
  | 7 => ("HallTablesModel", "tValue", "[I", true)
  | 8 => ("HallTablesModel", "tName", "[J", true)
  | 9 => ("HallTablesModel", "keys", "[J", true)
  | 10 => ("HallTablesModel", "tokens", "I", false)
  | 11 => ("HallTablesModel", "t", "I", false)
  | 12 => ("HallTablesModel", "open", "I", false)
  | 13 => ("HallTablesModel", "fault", "I", false)
  | 14 => ("HallTablesModel", "faultPlace", "I", false)
  | 15 => ("HallTablesModel", "worst", "I", false)
  | 16 => ("HallTablesModel", "worstPlace", "I", false)
  | 17 => ("HallTablesModel", "place", "I", false)
  | 18 => ("HallTablesModel", "live", "I", false)
  | 19 => ("HallTablesModel", "side", "I", false)
  | 20 => ("HallTablesModel", "names", "I", false)
  | 21 => ("HallTablesModel", "nameOf", "[J", true)
  | 22 => ("HallTablesModel", "nameSort", "[I", true)
  | 23 => ("HallTablesModel", "nameAt", "[I", true)
  | 24 => ("HallTablesModel", "sorts", "[I", true)
  | 25 => ("HallTablesModel", "plainWorth", "[I", true)
  | 26 => ("HallTablesModel", "houses", "[I", true)
  | 27 => ("HallTablesModel", "worthAt", "[I", true)
  | 28 => ("HallTablesModel", "hallHas", "[I", true)
  | 29 => ("HallTablesModel", "sells", "[Z", true)
  | 30 => ("HallTablesModel", "doors", "[I", true)
  | 31 => ("HallTablesModel", "minutes", "[I", true)
  | 32 => ("HallTablesModel", "men", "[I", true)
  | 33 => ("HallTablesModel", "home", "[I", true)
  | 34 => ("HallTablesModel", "carries", "[I", true)
  | 35 => ("HallTablesModel", "laws", "[I", true)
  | 36 => ("HallTablesModel", "calls", "[I", true)
  | 37 => ("HallTablesModel", "callMan", "[I", true)
  | 38 => ("HallTablesModel", "callHouse", "[I", true)
  | 39 => ("HallTablesModel", "now", "[I", true)
  | 40 => ("HallTablesModel", "undos", "I", false)
  | 41 => ("HallTablesModel", "history", "[I", true)
  | 42 => ("HallTablesModel", "best", "[J", true)
  | 43 => ("HallTablesModel", "wayMan", "I", false)
  | 44 => ("HallTablesModel", "wayBy", "I", false)
  | 45 => ("HallTablesModel", "goal", "I", false)
  | 46 => ("HallTablesModel", "goalHouse", "I", false)
  | 47 => ("HallTablesModel", "goalSort", "I", false)
  | 48 => ("HallTablesModel", "waySteps", "I", false)
  | 49 => ("HallTablesModel", "stepCode", "[I", true)
  | 50 => ("HallTablesModel", "wayDoors", "I", false)
  | 51 => ("HallTablesModel", "wayMinutes", "I", false)
  | 52 => ("HallTablesModel", "wayLoss", "I", false)
  | 53 => ("HallTablesModel", "wayHouse", "I", false)
  | 54 => ("HallTablesModel", "wayHand", "I", false)
  | 55 => ("HallTablesModel", "comes", "[Z", true)
  | 56 => ("HallTablesModel", "pile", "[I", true)
  | 57 => ("HallTablesModel", "piled", "I", false)
  | 58 => ("HallTablesModel", "gone", "[I", true)
  | 59 => ("HallTablesModel", "goneThen", "[I", true)
  | 60 => ("HallTablesModel", "listed", "I", false)
  | 61 => ("HallTablesModel", "listMan", "[I", true)
  | 62 => ("HallTablesModel", "listHouse", "[I", true)
  | 63 => ("HallTablesModel", "isUsed", "[Z", true)
  | 64 => ("HallTablesModel", "waits", "[I", true)
  | 65 => ("HallTablesModel", "cameFrom", "[I", true)
  | 66 => ("HallTablesModel", "row", "[I", true)
  | 67 => ("HallTablesModel", "pool", "[I", true)
  | 68 => ("HallTablesModel", "taken", "[I", true)
  | 69 => ("HallTablesModel", "place0", "[I", true)
  | 70 => ("HallTablesModel", "holding", "[I", true)
  | 71 => ("HallTablesModel", "owedMan", "[I", true)
  | 72 => ("HallTablesModel", "owedHouse", "[I", true)
  | 73 => ("HallTablesModel", "seen", "I", false)
  | 74 => ("HallTablesModel", "seenHouse", "[I", true)
  | 75 => ("HallTablesModel", "seenSort", "[I", true)
  | 76 => ("HallTablesModel", "seenMany", "[I", true)
  | 77 => ("HallTablesModel", "need", "[I", true)
  | 78 => ("HallTablesModel", "kindAt", "[I", true)
  | 79 => ("HallTablesModel", "kinds", "I", false)
  | 80 => ("HallTablesModel", "needAll", "I", false)
  | 81 => ("HallTablesModel", "free", "[J", true)
  | 82 => ("HallTablesModel", "freeThere", "[J", true)
  | 83 => ("HallTablesModel", "canLeave", "[Z", true)
  | 84 => ("HallTablesModel", "chosen", "[I", true)
  | 85 => ("HallTablesModel", "fitAll", "J", false)
  | 86 => ("HallTablesModel", "fitThere", "[J", true)
  | 87 => ("HallTablesModel", "met", "[I", true)
  | 88 => ("HallTablesModel", "isHeld", "[Z", true)
  | _ => ("HallTablesModel", "held", "[I", true)
def tyX12 : Nat → FieldType := fun k => match k with
  | 0 => .int
  | 1 => .array .byte
  | 2 => .int
  | 3 => .array .byte
  | 4 => .int
  | 5 => .array .int
  | 6 => .array .int
  | 7 => .array .int
  | 8 => .array .long
  | 9 => .array .long
  | 10 => .int
  | 11 => .int
  | 12 => .int
  | 13 => .int
  | 14 => .int
  | 15 => .int
  | 16 => .int
  | 17 => .int
  | 18 => .int
  | 19 => .int
  | 20 => .int
  | 21 => .array .long
  | 22 => .array .int
  | 23 => .array .int
  | 24 => .array .int
  | 25 => .array .int
  | 26 => .array .int
  | 27 => .array .int
  | 28 => .array .int
  | 29 => .array .boolean
  | 30 => .array .int
  | 31 => .array .int
  | 32 => .array .int
  | 33 => .array .int
  | 34 => .array .int
  | 35 => .array .int
  | 36 => .array .int
  | 37 => .array .int
  | 38 => .array .int
  | 39 => .array .int
  | 40 => .int
  | 41 => .array .int
  | 42 => .array .long
  | 43 => .int
  | 44 => .int
  | 45 => .int
  | 46 => .int
  | 47 => .int
  | 48 => .int
  | 49 => .array .int
  | 50 => .int
  | 51 => .int
  | 52 => .int
  | 53 => .int
  | 54 => .int
  | 55 => .array .boolean
  | 56 => .array .int
  | 57 => .int
  | 58 => .array .int
  | 59 => .array .int
  | 60 => .int
  | 61 => .array .int
  | 62 => .array .int
  | 63 => .array .boolean
  | 64 => .array .int
  | 65 => .array .int
  | 66 => .array .int
  | 67 => .array .int
  | 68 => .array .int
  | 69 => .array .int
  | 70 => .array .int
  | 71 => .array .int
  | 72 => .array .int
  | 73 => .int
  | 74 => .array .int
  | 75 => .array .int
  | 76 => .array .int
  | 77 => .array .int
  | 78 => .array .int
  | 79 => .int
  | 80 => .int
  | 81 => .array .long
  | 82 => .array .long
  | 83 => .array .boolean
  | 84 => .array .int
  | 85 => .long
  | 86 => .array .long
  | 87 => .array .int
  | 88 => .array .boolean
  | _ => .array .int
abbrev wsX120 : List Cond := u_ws RX12 TX12 90
theorem nmX12 : ∀ a, a < 90 → ∀ b, b < 90 → a ≠ b → (TX12 a).2.1 ≠ (TX12 b).2.1 := by decide +kernel
theorem tyX12_ok : ∀ k, k < 90 → parseFieldDescriptor (TX12 k).2.2.1 = some (tyX12 k) := by decide +kernel
abbrev cX12_init : ByteArray := prog_14_method_2_code
def yX12_init : MethodName := ⟨RX12, "<init>", "()V"⟩
abbrev cX12_feed : ByteArray := prog_14_method_3_code
def yX12_feed : MethodName := ⟨RX12, "feed", "(IIIII)I"⟩
abbrev cX12_put : ByteArray := prog_14_method_4_code
def yX12_put : MethodName := ⟨RX12, "put", "(I)V"⟩
abbrev cX12_back : ByteArray := prog_14_method_5_code
def yX12_back : MethodName := ⟨RX12, "back", "(I)I"⟩
abbrev cX12_byteAt : ByteArray := prog_14_method_6_code
def yX12_byteAt : MethodName := ⟨RX12, "byteAt", "(I)I"⟩
abbrev cX12_isDigit : ByteArray := prog_14_method_7_code
def yX12_isDigit : MethodName := ⟨RX12, "isDigit", "(I)Z"⟩
abbrev cX12_isLetter : ByteArray := prog_14_method_8_code
def yX12_isLetter : MethodName := ⟨RX12, "isLetter", "(I)Z"⟩
abbrev cX12_appends : ByteArray := prog_14_method_9_code
def yX12_appends : MethodName := ⟨RX12, "appends", "(JI)J"⟩
abbrev cX12_word : ByteArray := prog_14_method_10_code
def yX12_word : MethodName := ⟨RX12, "word", "(IIIIIII)J"⟩
abbrev cX12_token : ByteArray := prog_14_method_11_code
def yX12_token : MethodName := ⟨RX12, "token", "(IIIJ)V"⟩
abbrev cX12_cut : ByteArray := prog_14_method_12_code
def yX12_cut : MethodName := ⟨RX12, "cut", "()V"⟩
abbrev cX12_sign : ByteArray := prog_14_method_13_code
def yX12_sign : MethodName := ⟨RX12, "sign", "(III)I"⟩
abbrev cX12_is : ByteArray := prog_14_method_14_code
def yX12_is : MethodName := ⟨RX12, "is", "(I)Z"⟩
abbrev cX12_fail : ByteArray := prog_14_method_15_code
def yX12_fail : MethodName := ⟨RX12, "fail", "(I)V"⟩
abbrev cX12_wrong : ByteArray := prog_14_method_16_code
def yX12_wrong : MethodName := ⟨RX12, "wrong", "(II)V"⟩
abbrev cX12_goesOn : ByteArray := prog_14_method_17_code
def yX12_goesOn : MethodName := ⟨RX12, "goesOn", "()V"⟩
abbrev cX12_must : ByteArray := prog_14_method_18_code
def yX12_must : MethodName := ⟨RX12, "must", "(I)V"⟩
abbrev cX12_read : ByteArray := prog_14_method_19_code
def yX12_read : MethodName := ⟨RX12, "read", "()I"⟩
abbrev cX12_place : ByteArray := prog_14_method_20_code
def yX12_place : MethodName := ⟨RX12, "place", "()I"⟩
abbrev cX12_roomFor : ByteArray := prog_14_method_21_code
def yX12_roomFor : MethodName := ⟨RX12, "roomFor", "(II)V"⟩
abbrev cX12_tell : ByteArray := prog_14_method_22_code
def yX12_tell : MethodName := ⟨RX12, "tell", "()V"⟩
abbrev cX12_named : ByteArray := prog_14_method_23_code
def yX12_named : MethodName := ⟨RX12, "named", "()I"⟩
abbrev cX12_notes : ByteArray := prog_14_method_24_code
def yX12_notes : MethodName := ⟨RX12, "notes", "(III)V"⟩
abbrev cX12_known : ByteArray := prog_14_method_25_code
def yX12_known : MethodName := ⟨RX12, "known", "(I)I"⟩
abbrev cX12_bounded : ByteArray := prog_14_method_26_code
def yX12_bounded : MethodName := ⟨RX12, "bounded", "(II)I"⟩
abbrev cX12_tellSort : ByteArray := prog_14_method_27_code
def yX12_tellSort : MethodName := ⟨RX12, "tellSort", "()V"⟩
abbrev cX12_tellHouse : ByteArray := prog_14_method_28_code
def yX12_tellHouse : MethodName := ⟨RX12, "tellHouse", "()V"⟩
abbrev cX12_tellDoor : ByteArray := prog_14_method_29_code
def yX12_tellDoor : MethodName := ⟨RX12, "tellDoor", "()V"⟩
abbrev cX12_tellMan : ByteArray := prog_14_method_30_code
def yX12_tellMan : MethodName := ⟨RX12, "tellMan", "()V"⟩
abbrev cX12_tellCall : ByteArray := prog_14_method_31_code
def yX12_tellCall : MethodName := ⟨RX12, "tellCall", "()V"⟩
abbrev cX12_in : ByteArray := prog_14_method_32_code
def yX12_in : MethodName := ⟨RX12, "in", "(III)Z"⟩
abbrev cX12_where : ByteArray := prog_14_method_33_code
def yX12_where : MethodName := ⟨RX12, "where", "(I)I"⟩
abbrev cX12_hand : ByteArray := prog_14_method_34_code
def yX12_hand : MethodName := ⟨RX12, "hand", "(I)I"⟩
abbrev cX12_of : ByteArray := prog_14_method_35_code
def yX12_of : MethodName := ⟨RX12, "of", "(II)I"⟩
abbrev cX12_things : ByteArray := prog_14_method_36_code
def yX12_things : MethodName := ⟨RX12, "things", "(I)I"⟩
abbrev cX12_homeOf : ByteArray := prog_14_method_37_code
def yX12_homeOf : MethodName := ⟨RX12, "homeOf", "(I)I"⟩
abbrev cX12_worthOf : ByteArray := prog_14_method_38_code
def yX12_worthOf : MethodName := ⟨RX12, "worthOf", "(II)I"⟩
abbrev cX12_doorOf : ByteArray := prog_14_method_39_code
def yX12_doorOf : MethodName := ⟨RX12, "doorOf", "(II)I"⟩
abbrev cX12_handAtFirst : ByteArray := prog_14_method_40_code
def yX12_handAtFirst : MethodName := ⟨RX12, "handAtFirst", "(I)I"⟩
abbrev cX12_begins : ByteArray := prog_14_method_41_code
def yX12_begins : MethodName := ⟨RX12, "begins", "()V"⟩
abbrev cX12_isSort : ByteArray := prog_14_method_42_code
def yX12_isSort : MethodName := ⟨RX12, "isSort", "(I)Z"⟩
abbrev cX12_isHouse : ByteArray := prog_14_method_43_code
def yX12_isHouse : MethodName := ⟨RX12, "isHouse", "(I)Z"⟩
abbrev cX12_isMan : ByteArray := prog_14_method_44_code
def yX12_isMan : MethodName := ⟨RX12, "isMan", "(I)Z"⟩
abbrev cX12_leastOf : ByteArray := prog_14_method_45_code
def yX12_leastOf : MethodName := ⟨RX12, "leastOf", "(IIZ)I"⟩
abbrev cX12_mayLeave : ByteArray := prog_14_method_46_code
def yX12_mayLeave : MethodName := ⟨RX12, "mayLeave", "(III)Z"⟩
abbrev cX12_door : ByteArray := prog_14_method_47_code
def yX12_door : MethodName := ⟨RX12, "door", "(II)I"⟩
abbrev cX12_worth : ByteArray := prog_14_method_48_code
def yX12_worth : MethodName := ⟨RX12, "worth", "(II)I"⟩
abbrev cX12_table : ByteArray := prog_14_method_49_code
def yX12_table : MethodName := ⟨RX12, "table", "(II)I"⟩
abbrev cX12_man : ByteArray := prog_14_method_50_code
def yX12_man : MethodName := ⟨RX12, "man", "(II)I"⟩
abbrev cX12_has : ByteArray := prog_14_method_51_code
def yX12_has : MethodName := ⟨RX12, "has", "(II)I"⟩
abbrev cX12_may : ByteArray := prog_14_method_52_code
def yX12_may : MethodName := ⟨RX12, "may", "(III)I"⟩
abbrev cX12_keeps : ByteArray := prog_14_method_53_code
def yX12_keeps : MethodName := ⟨RX12, "keeps", "()V"⟩
abbrev cX12_go : ByteArray := prog_14_method_54_code
def yX12_go : MethodName := ⟨RX12, "go", "(III)I"⟩
abbrev cX12_buy : ByteArray := prog_14_method_55_code
def yX12_buy : MethodName := ⟨RX12, "buy", "(II)I"⟩
abbrev cX12_undo : ByteArray := prog_14_method_56_code
def yX12_undo : MethodName := ⟨RX12, "undo", "()Z"⟩
abbrev cX12_hands : ByteArray := prog_14_method_57_code
def yX12_hands : MethodName := ⟨RX12, "hands", "()I"⟩
abbrev cX12_sellsAt : ByteArray := prog_14_method_58_code
def yX12_sellsAt : MethodName := ⟨RX12, "sellsAt", "(II)Z"⟩
abbrev cX12_isThere : ByteArray := prog_14_method_59_code
def yX12_isThere : MethodName := ⟨RX12, "isThere", "(II)Z"⟩
abbrev cX12_costOf : ByteArray := prog_14_method_60_code
def yX12_costOf : MethodName := ⟨RX12, "costOf", "(III)J"⟩
abbrev cX12_byGoing : ByteArray := prog_14_method_61_code
def yX12_byGoing : MethodName := ⟨RX12, "byGoing", "(IIII)J"⟩
abbrev cX12_byBuying : ByteArray := prog_14_method_62_code
def yX12_byBuying : MethodName := ⟨RX12, "byBuying", "(III)J"⟩
abbrev cX12_leastFrom : ByteArray := prog_14_method_63_code
def yX12_leastFrom : MethodName := ⟨RX12, "leastFrom", "(II)J"⟩
abbrev cX12_fillWays : ByteArray := prog_14_method_64_code
def yX12_fillWays : MethodName := ⟨RX12, "fillWays", "()V"⟩
abbrev cX12_sets : ByteArray := prog_14_method_65_code
def yX12_sets : MethodName := ⟨RX12, "sets", "(IIIII)V"⟩
abbrev cX12_notesStep : ByteArray := prog_14_method_66_code
def yX12_notesStep : MethodName := ⟨RX12, "notesStep", "(I)V"⟩
abbrev cX12_takesStep : ByteArray := prog_14_method_67_code
def yX12_takesStep : MethodName := ⟨RX12, "takesStep", "()V"⟩
abbrev cX12_findsWay : ByteArray := prog_14_method_68_code
def yX12_findsWay : MethodName := ⟨RX12, "findsWay", "()Z"⟩
abbrev cX12_canAsk : ByteArray := prog_14_method_69_code
def yX12_canAsk : MethodName := ⟨RX12, "canAsk", "(IIII)Z"⟩
abbrev cX12_way : ByteArray := prog_14_method_70_code
def yX12_way : MethodName := ⟨RX12, "way", "(IIIII)I"⟩
abbrev cX12_step : ByteArray := prog_14_method_71_code
def yX12_step : MethodName := ⟨RX12, "step", "(IIIII)I"⟩
abbrev cX12_rid : ByteArray := prog_14_method_72_code
def yX12_rid : MethodName := ⟨RX12, "rid", "(IIII)I"⟩
abbrev cX12_get : ByteArray := prog_14_method_73_code
def yX12_get : MethodName := ⟨RX12, "get", "(II)I"⟩
abbrev cX12_comesTo : ByteArray := prog_14_method_74_code
def yX12_comesTo : MethodName := ⟨RX12, "comesTo", "(II)V"⟩
abbrev cX12_fillReach : ByteArray := prog_14_method_75_code
def yX12_fillReach : MethodName := ⟨RX12, "fillReach", "(I)V"⟩
abbrev cX12_mostAt : ByteArray := prog_14_method_76_code
def yX12_mostAt : MethodName := ⟨RX12, "mostAt", "(I)I"⟩
abbrev cX12_inReach : ByteArray := prog_14_method_77_code
def yX12_inReach : MethodName := ⟨RX12, "inReach", "(I)I"⟩
abbrev cX12_most : ByteArray := prog_14_method_78_code
def yX12_most : MethodName := ⟨RX12, "most", "(II)I"⟩
abbrev cX12_minutesTo : ByteArray := prog_14_method_79_code
def yX12_minutesTo : MethodName := ⟨RX12, "minutesTo", "(II)I"⟩
abbrev cX12_meet : ByteArray := prog_14_method_80_code
def yX12_meet : MethodName := ⟨RX12, "meet", "(III)I"⟩
abbrev cX12_richesOf : ByteArray := prog_14_method_81_code
def yX12_richesOf : MethodName := ⟨RX12, "richesOf", "(I)I"⟩
abbrev cX12_riches : ByteArray := prog_14_method_82_code
def yX12_riches : MethodName := ⟨RX12, "riches", "(I)I"⟩
abbrev cX12_goesHome : ByteArray := prog_14_method_83_code
def yX12_goesHome : MethodName := ⟨RX12, "goesHome", "(I)V"⟩
abbrev cX12_goesOnward : ByteArray := prog_14_method_84_code
def yX12_goesOnward : MethodName := ⟨RX12, "goesOnward", "(I)V"⟩
abbrev cX12_round : ByteArray := prog_14_method_85_code
def yX12_round : MethodName := ⟨RX12, "round", "(II)I"⟩
abbrev cX12_lists : ByteArray := prog_14_method_86_code
def yX12_lists : MethodName := ⟨RX12, "lists", "()V"⟩
abbrev cX12_pools : ByteArray := prog_14_method_87_code
def yX12_pools : MethodName := ⟨RX12, "pools", "(I)V"⟩
abbrev cX12_reaches : ByteArray := prog_14_method_88_code
def yX12_reaches : MethodName := ⟨RX12, "reaches", "(III)V"⟩
abbrev cX12_oneMore : ByteArray := prog_14_method_89_code
def yX12_oneMore : MethodName := ⟨RX12, "oneMore", "(I)Z"⟩
abbrev cX12_moves : ByteArray := prog_14_method_90_code
def yX12_moves : MethodName := ⟨RX12, "moves", "(II)V"⟩
abbrev cX12_carriesTo : ByteArray := prog_14_method_91_code
def yX12_carriesTo : MethodName := ⟨RX12, "carriesTo", "(II)I"⟩
abbrev cX12_carried : ByteArray := prog_14_method_92_code
def yX12_carried : MethodName := ⟨RX12, "carried", "(II)I"⟩
abbrev cX12_putsIn : ByteArray := prog_14_method_93_code
def yX12_putsIn : MethodName := ⟨RX12, "putsIn", "(III)V"⟩
abbrev cX12_helps : ByteArray := prog_14_method_94_code
def yX12_helps : MethodName := ⟨RX12, "helps", "(III)I"⟩
abbrev cX12_turned : ByteArray := prog_14_method_95_code
def yX12_turned : MethodName := ⟨RX12, "turned", "(II)I"⟩
abbrev cX12_mixed : ByteArray := prog_14_method_96_code
def yX12_mixed : MethodName := ⟨RX12, "mixed", "(II)I"⟩
abbrev cX12_lot : ByteArray := prog_14_method_97_code
def yX12_lot : MethodName := ⟨RX12, "lot", "(III)I"⟩
abbrev cX12_leaves : ByteArray := prog_14_method_98_code
def yX12_leaves : MethodName := ⟨RX12, "leaves", "(II)I"⟩
abbrev cX12_behind : ByteArray := prog_14_method_99_code
def yX12_behind : MethodName := ⟨RX12, "behind", "(II)I"⟩
abbrev cX12_doorsAt : ByteArray := prog_14_method_100_code
def yX12_doorsAt : MethodName := ⟨RX12, "doorsAt", "(I)I"⟩
abbrev cX12_year : ByteArray := prog_14_method_101_code
def yX12_year : MethodName := ⟨RX12, "year", "(III)I"⟩
abbrev cX12_rest : ByteArray := prog_14_method_102_code
def yX12_rest : MethodName := ⟨RX12, "rest", "(I)I"⟩
abbrev cX12_see : ByteArray := prog_14_method_103_code
def yX12_see : MethodName := ⟨RX12, "see", "(III)I"⟩
abbrev cX12_forget : ByteArray := prog_14_method_104_code
def yX12_forget : MethodName := ⟨RX12, "forget", "()I"⟩
abbrev cX12_knows : ByteArray := prog_14_method_105_code
def yX12_knows : MethodName := ⟨RX12, "knows", "(II)V"⟩
abbrev cX12_counts : ByteArray := prog_14_method_106_code
def yX12_counts : MethodName := ⟨RX12, "counts", "(II)V"⟩
abbrev cX12_isAllMet : ByteArray := prog_14_method_107_code
def yX12_isAllMet : MethodName := ⟨RX12, "isAllMet", "()Z"⟩
abbrev cX12_adds : ByteArray := prog_14_method_108_code
def yX12_adds : MethodName := ⟨RX12, "adds", "(I)V"⟩
abbrev cX12_fits : ByteArray := prog_14_method_109_code
def yX12_fits : MethodName := ⟨RX12, "fits", "(I)J"⟩
abbrev cX12_visitors : ByteArray := prog_14_method_110_code
def yX12_visitors : MethodName := ⟨RX12, "visitors", "(IIZ)I"⟩
abbrev cX12_hold : ByteArray := prog_14_method_111_code
def yX12_hold : MethodName := ⟨RX12, "hold", "(I)Z"⟩
abbrev cX12_restore : ByteArray := prog_14_method_112_code
def yX12_restore : MethodName := ⟨RX12, "restore", "(I)Z"⟩
abbrev cX12_count : ByteArray := prog_14_method_113_code
def yX12_count : MethodName := ⟨RX12, "count", "(I)I"⟩
def RJx145de : String := "java/io/Serializable"
def TJx145de : u_T := fun k => match k with
  | _ => ("", "", "", false)
def tyJx145de : Nat → FieldType := fun k => match k with
  | _ => .int
abbrev wsJx145de0 : List Cond := u_ws RJx145de TJx145de 0
theorem nmJx145de : ∀ a, a < 0 → ∀ b, b < 0 → a ≠ b → (TJx145de a).2.1 ≠ (TJx145de b).2.1 := by decide +kernel
theorem tyJx145de_ok : ∀ k, k < 0 → parseFieldDescriptor (TJx145de k).2.2.1 = some (tyJx145de k) := by decide +kernel
def RJx9f9b0 : String := "java/lang/CharSequence"
def TJx9f9b0 : u_T := fun k => match k with
  | _ => ("", "", "", false)
def tyJx9f9b0 : Nat → FieldType := fun k => match k with
  | _ => .int
abbrev wsJx9f9b00 : List Cond := u_ws RJx9f9b0 TJx9f9b0 0
theorem nmJx9f9b0 : ∀ a, a < 0 → ∀ b, b < 0 → a ≠ b → (TJx9f9b0 a).2.1 ≠ (TJx9f9b0 b).2.1 := by decide +kernel
theorem tyJx9f9b0_ok : ∀ k, k < 0 → parseFieldDescriptor (TJx9f9b0 k).2.2.1 = some (tyJx9f9b0 k) := by decide +kernel
def RJxb160c : String := "java/lang/Comparable"
def TJxb160c : u_T := fun k => match k with
  | _ => ("", "", "", false)
def tyJxb160c : Nat → FieldType := fun k => match k with
  | _ => .int
abbrev wsJxb160c0 : List Cond := u_ws RJxb160c TJxb160c 0
theorem nmJxb160c : ∀ a, a < 0 → ∀ b, b < 0 → a ≠ b → (TJxb160c a).2.1 ≠ (TJxb160c b).2.1 := by decide +kernel
theorem tyJxb160c_ok : ∀ k, k < 0 → parseFieldDescriptor (TJxb160c k).2.2.1 = some (tyJxb160c k) := by decide +kernel
def RJ6 : String := "java/lang/Integer"
def TJ6 : u_T := fun k => match k with
  | _ => ("", "", "", false)
def tyJ6 : Nat → FieldType := fun k => match k with
  | _ => .int
abbrev wsJ60 : List Cond := u_ws RJ6 TJ6 0
theorem nmJ6 : ∀ a, a < 0 → ∀ b, b < 0 → a ≠ b → (TJ6 a).2.1 ≠ (TJ6 b).2.1 := by decide +kernel
theorem tyJ6_ok : ∀ k, k < 0 → parseFieldDescriptor (TJ6 k).2.2.1 = some (tyJ6 k) := by decide +kernel
abbrev cJ6_bitCount_0f7a4 : ByteArray := prog_15_method_49_code
def yJ6_bitCount_0f7a4 : MethodName := ⟨RJ6, "bitCount", "(I)I"⟩
def RJ9 : String := "java/lang/Math"
def TJ9 : u_T := fun k => match k with
  | _ => ("", "", "", false)
def tyJ9 : Nat → FieldType := fun k => match k with
  | _ => .int
abbrev wsJ90 : List Cond := u_ws RJ9 TJ9 0
theorem nmJ9 : ∀ a, a < 0 → ∀ b, b < 0 → a ≠ b → (TJ9 a).2.1 ≠ (TJ9 b).2.1 := by decide +kernel
theorem tyJ9_ok : ∀ k, k < 0 → parseFieldDescriptor (TJ9 k).2.2.1 = some (tyJ9 k) := by decide +kernel
abbrev cJ9_max_7cf53 : ByteArray := prog_16_method_65_code
def yJ9_max_7cf53 : MethodName := ⟨RJ9, "max", "(II)I"⟩
abbrev cJ9_min_7cf53 : ByteArray := prog_16_method_69_code
def yJ9_min_7cf53 : MethodName := ⟨RJ9, "min", "(II)I"⟩
def RJ0 : String := "java/lang/String"
def TJ0 : u_T := fun k => match k with
  | _ => ("", "", "", false)
def tyJ0 : Nat → FieldType := fun k => match k with
  | _ => .int
abbrev wsJ00 : List Cond := u_ws RJ0 TJ0 0
theorem nmJ0 : ∀ a, a < 0 → ∀ b, b < 0 → a ≠ b → (TJ0 a).2.1 ≠ (TJ0 b).2.1 := by decide +kernel
theorem tyJ0_ok : ∀ k, k < 0 → parseFieldDescriptor (TJ0 k).2.2.1 = some (tyJ0 k) := by decide +kernel
abbrev cJ0_length_8abf5 : ByteArray := prog_17_method_54_code
def yJ0_length_8abf5 : MethodName := ⟨RJ0, "length", "()I"⟩
abbrev cJ0_charAt_5068e : ByteArray := prog_17_method_56_code
def yJ0_charAt_5068e : MethodName := ⟨RJ0, "charAt", "(I)C"⟩
abbrev cJ0_coder_7d493 : ByteArray := prog_17_method_152_code
def yJ0_coder_7d493 : MethodName := ⟨RJ0, "coder", "()B"⟩
abbrev cJ0_isLatin1_aae02 : ByteArray := prog_17_method_154_code
def yJ0_isLatin1_aae02 : MethodName := ⟨RJ0, "isLatin1", "()Z"⟩
abbrev cJ0_checkIndex_df160 : ByteArray := prog_17_method_155_code
def yJ0_checkIndex_df160 : MethodName := ⟨RJ0, "checkIndex", "(II)V"⟩
def RJ1 : String := "java/lang/StringLatin1"
def TJ1 : u_T := fun k => match k with
  | _ => ("", "", "", false)
def tyJ1 : Nat → FieldType := fun k => match k with
  | _ => .int
abbrev wsJ10 : List Cond := u_ws RJ1 TJ1 0
theorem nmJ1 : ∀ a, a < 0 → ∀ b, b < 0 → a ≠ b → (TJ1 a).2.1 ≠ (TJ1 b).2.1 := by decide +kernel
theorem tyJ1_ok : ∀ k, k < 0 → parseFieldDescriptor (TJ1 k).2.2.1 = some (tyJ1 k) := by decide +kernel
abbrev cJ1_charAt_3b067 : ByteArray := prog_18_method_2_code
def yJ1_charAt_3b067 : MethodName := ⟨RJ1, "charAt", "([BI)C"⟩
def RJ2 : String := "java/lang/StringUTF16"
def TJ2 : u_T := fun k => match k with
  | _ => ("", "", "", false)
def tyJ2 : Nat → FieldType := fun k => match k with
  | _ => .int
abbrev wsJ20 : List Cond := u_ws RJ2 TJ2 0
theorem nmJ2 : ∀ a, a < 0 → ∀ b, b < 0 → a ≠ b → (TJ2 a).2.1 ≠ (TJ2 b).2.1 := by decide +kernel
theorem tyJ2_ok : ∀ k, k < 0 → parseFieldDescriptor (TJ2 k).2.2.1 = some (tyJ2 k) := by decide +kernel
abbrev cJ2_getChar_3b067 : ByteArray := prog_19_method_5_code
def yJ2_getChar_3b067 : MethodName := ⟨RJ2, "getChar", "([BI)C"⟩
abbrev cJ2_length_9d52b : ByteArray := prog_19_method_6_code
def yJ2_length_9d52b : MethodName := ⟨RJ2, "length", "([B)I"⟩
abbrev cJ2_charAt_3b067 : ByteArray := prog_19_method_83_code
def yJ2_charAt_3b067 : MethodName := ⟨RJ2, "charAt", "([BI)C"⟩
abbrev cJ2_checkIndex_2214a : ByteArray := prog_19_method_91_code
def yJ2_checkIndex_2214a : MethodName := ⟨RJ2, "checkIndex", "(I[B)V"⟩
def RJ10 : String := "java/lang/System"
def TJ10 : u_T := fun k => match k with
  | _ => ("", "", "", false)
def tyJ10 : Nat → FieldType := fun k => match k with
  | _ => .int
abbrev wsJ100 : List Cond := u_ws RJ10 TJ10 0
theorem nmJ10 : ∀ a, a < 0 → ∀ b, b < 0 → a ≠ b → (TJ10 a).2.1 ≠ (TJ10 b).2.1 := by decide +kernel
theorem tyJ10_ok : ∀ k, k < 0 → parseFieldDescriptor (TJ10 k).2.2.1 = some (tyJ10 k) := by decide +kernel
def RJxfd54e : String := "java/lang/constant/Constable"
def TJxfd54e : u_T := fun k => match k with
  | _ => ("", "", "", false)
def tyJxfd54e : Nat → FieldType := fun k => match k with
  | _ => .int
abbrev wsJxfd54e0 : List Cond := u_ws RJxfd54e TJxfd54e 0
theorem nmJxfd54e : ∀ a, a < 0 → ∀ b, b < 0 → a ≠ b → (TJxfd54e a).2.1 ≠ (TJxfd54e b).2.1 := by decide +kernel
theorem tyJxfd54e_ok : ∀ k, k < 0 → parseFieldDescriptor (TJxfd54e k).2.2.1 = some (tyJxfd54e k) := by decide +kernel
def RJx3cf43 : String := "java/lang/constant/ConstantDesc"
def TJx3cf43 : u_T := fun k => match k with
  | _ => ("", "", "", false)
def tyJx3cf43 : Nat → FieldType := fun k => match k with
  | _ => .int
abbrev wsJx3cf430 : List Cond := u_ws RJx3cf43 TJx3cf43 0
theorem nmJx3cf43 : ∀ a, a < 0 → ∀ b, b < 0 → a ≠ b → (TJx3cf43 a).2.1 ≠ (TJx3cf43 b).2.1 := by decide +kernel
theorem tyJx3cf43_ok : ∀ k, k < 0 → parseFieldDescriptor (TJx3cf43 k).2.2.1 = some (tyJx3cf43 k) := by decide +kernel
def RJ7 : String := "java/util/Arrays"
def TJ7 : u_T := fun k => match k with
  | _ => ("", "", "", false)
def tyJ7 : Nat → FieldType := fun k => match k with
  | _ => .int
abbrev wsJ70 : List Cond := u_ws RJ7 TJ7 0
theorem nmJ7 : ∀ a, a < 0 → ∀ b, b < 0 → a ≠ b → (TJ7 a).2.1 ≠ (TJ7 b).2.1 := by decide +kernel
theorem tyJ7_ok : ∀ k, k < 0 → parseFieldDescriptor (TJ7 k).2.2.1 = some (tyJ7 k) := by decide +kernel
abbrev cJ7_fill_d0a16 : ByteArray := prog_21_method_101_code
def yJ7_fill_d0a16 : MethodName := ⟨RJ7, "fill", "([JJ)V"⟩
abbrev cJ7_fill_53178 : ByteArray := prog_21_method_103_code
def yJ7_fill_53178 : MethodName := ⟨RJ7, "fill", "([II)V"⟩
abbrev cJ7_fill_031fb : ByteArray := prog_21_method_109_code
def yJ7_fill_031fb : MethodName := ⟨RJ7, "fill", "([BB)V"⟩
def RJ3 : String := "jdk/internal/util/Preconditions"
def TJ3 : u_T := fun k => match k with
  | _ => ("", "", "", false)
def tyJ3 : Nat → FieldType := fun k => match k with
  | _ => .int
abbrev wsJ30 : List Cond := u_ws RJ3 TJ3 0
theorem nmJ3 : ∀ a, a < 0 → ∀ b, b < 0 → a ≠ b → (TJ3 a).2.1 ≠ (TJ3 b).2.1 := by decide +kernel
theorem tyJ3_ok : ∀ k, k < 0 → parseFieldDescriptor (TJ3 k).2.2.1 = some (tyJ3 k) := by decide +kernel
abbrev cJ3_checkIndex_8e157 : ByteArray := prog_22_method_11_code
def yJ3_checkIndex_8e157 : MethodName := ⟨RJ3, "checkIndex", "(IILjava/util/function/BiFunction;)I"⟩
def RL : String := "HallTablesLaw"
abbrev cL_law : ByteArray := code
def yL_law : MethodName := ⟨RL, "law", "([I)Z"⟩
def wsX4_copyOf : List Cond := .code yX4_copyOf cX4_copyOf 2 none :: ([.fieldLink RX4 33 "HallTables$Stand" "men" "I", .fieldLink RX4 9 "HallTables$Stand" "at" "[I", .methodLink RX4 37 arraycopyName, .native arraycopyName, .static arraycopyName, .initialized "java/lang/System", .fieldLink RX4 15 "HallTables$Stand" "hand" "[I", .fieldLink RX4 24 "HallTables$Stand" "table" "[I", .fieldLink RX4 18 "HallTables$Stand" "minutes" "[I", .fieldLink RX4 21 "HallTables$Stand" "loss" "[I"] ++ wsX40)
def wsJ7_fill_53178 : List Cond := .code yJ7_fill_53178 cJ7_fill_53178 4 none :: ([])
def wsX4_begin : List Cond := .code yX4_begin cX4_begin 2 none :: ([.fieldLink RX4 27 "HallTables$Town" "men" "I", .fieldLink RX4 33 "HallTables$Stand" "men" "I", .fieldLink RX4 34 "HallTables$Town" "home" "[I", .fieldLink RX4 9 "HallTables$Stand" "at" "[I", .methodLink RX4 37 arraycopyName, .native arraycopyName, .static arraycopyName, .initialized "java/lang/System", .fieldLink RX4 43 "HallTables$Town" "hand" "[I", .fieldLink RX4 15 "HallTables$Stand" "hand" "[I", .fieldLink RX4 44 "HallTables$Town" "table" "[I", .fieldLink RX4 24 "HallTables$Stand" "table" "[I", .fieldLink RX4 18 "HallTables$Stand" "minutes" "[I", .fieldLink RX4 21 "HallTables$Stand" "loss" "[I", .methodLink RX4 45 yJ7_fill_53178, .static yJ7_fill_53178, .initialized RJ7, .code yJ7_fill_53178 cJ7_fill_53178 4 none] ++ wsX70 ++ wsX40)
def wsX4_thingsCarried : List Cond := .code yX4_thingsCarried cX4_thingsCarried 3 (some .int) :: ([.fieldLink RX4 33 "HallTables$Stand" "men" "I", .fieldLink RX4 15 "HallTables$Stand" "hand" "[I", .methodLink RX4 77 yX7_things, .static yX7_things, .initialized RX7, .code yX7_things cX7_things 1 (some .int), .methodLink RX7 78 yJ6_bitCount_0f7a4, .static yJ6_bitCount_0f7a4, .initialized RJ6, .code yJ6_bitCount_0f7a4 cJ6_bitCount_0f7a4 1 (some .int), .constant RJ6 265 (1431655765), .constant RJ6 266 (858993459), .constant RJ6 267 (252645135)] ++ wsX40)
def wsX4_thingsOnTables : List Cond := .code yX4_thingsOnTables cX4_thingsOnTables 3 (some .int) :: ([.fieldLink RX4 24 "HallTables$Stand" "table" "[I"] ++ wsX40)
def wsX4_menAtHome : List Cond := .code yX4_menAtHome cX4_menAtHome 4 (some .int) :: ([.fieldLink RX4 33 "HallTables$Stand" "men" "I", .fieldLink RX4 9 "HallTables$Stand" "at" "[I", .fieldLink RX4 34 "HallTables$Town" "home" "[I"] ++ wsX40 ++ wsX70)
def wsX5_exchange : List Cond := .code yX5_exchange cX5_exchange 3 (some (.object "HallTables$Town")) :: ([.fieldLink RX5 21 "HallTables$Teller" "town" "LHallTables$Town;"] ++ wsX50)
def wsX7_clear : List Cond := .code yX7_clear cX7_clear 1 none :: ([.fieldLink RX7 49 "HallTables$Town" "sorts" "I", .fieldLink RX7 53 "HallTables$Town" "houses" "I", .fieldLink RX7 56 "HallTables$Town" "doors" "I", .fieldLink RX7 59 "HallTables$Town" "men" "I", .fieldLink RX7 62 "HallTables$Town" "calls" "I", .fieldLink RX7 65 "HallTables$Town" "law" "I", .fieldLink RX7 28 "HallTables$Town" "minutes" "[I", .fieldLink RX7 31 "HallTables$Town" "sells" "[I", .fieldLink RX7 34 "HallTables$Town" "table" "[I", .methodLink RX7 68 yJ7_fill_53178, .static yJ7_fill_53178, .initialized RJ7, .code yJ7_fill_53178 cJ7_fill_53178 4 none] ++ wsX70)
def wsX6_note : List Cond := .code yX6_note cX6_note 3 none :: ([.fieldLink RX6 70 "HallTables$Text" "fault" "I", .fieldLink RX6 9 "HallTables$Text" "faultPlace" "I"] ++ wsX60)
def wsX5_tellAll_r1 : List Cond := [Cond.fieldLink RX5 21 "HallTables$Teller" "town" "LHallTables$Town;", Cond.fieldLink RX5 28 "HallTables$Teller" "at" "I", Cond.fieldLink RX5 12 "HallTables$Teller" "text" "LHallTables$Text;", Cond.fieldLink RX5 32 "HallTables$Text" "tokens" "I", Cond.fieldLink RX5 35 "HallTables$Text" "fault" "I", Cond.methodLink RX5 25 yX7_clear, Cond.instanceMethod yX7_clear, Cond.selects RX7 yX7_clear yX7_clear, Cond.initialized RX7, Cond.code yX7_clear cX7_clear 1 none, Cond.fieldLink RX7 49 "HallTables$Town" "sorts" "I", Cond.fieldLink RX7 53 "HallTables$Town" "houses" "I", Cond.fieldLink RX7 56 "HallTables$Town" "doors" "I", Cond.fieldLink RX7 59 "HallTables$Town" "men" "I", Cond.fieldLink RX7 62 "HallTables$Town" "calls" "I", Cond.fieldLink RX7 65 "HallTables$Town" "law" "I", Cond.fieldLink RX7 28 "HallTables$Town" "minutes" "[I", Cond.fieldLink RX7 31 "HallTables$Town" "sells" "[I", Cond.fieldLink RX7 34 "HallTables$Town" "table" "[I", Cond.methodLink RX7 68 yJ7_fill_53178, Cond.static yJ7_fill_53178, Cond.initialized RJ7, Cond.code yJ7_fill_53178 cJ7_fill_53178 4 none, Cond.methodLink RX5 38 yX6_kindOf]
def wsX5_tellAll_r2 : List Cond := [Cond.instanceMethod yX6_kindOf, Cond.selects RX6 yX6_kindOf yX6_kindOf, Cond.initialized RX6, Cond.code yX6_kindOf cX6_kindOf 2 (some .int), Cond.fieldLink RX6 67 "HallTables$Text" "tokens" "I", Cond.fieldLink RX6 19 "HallTables$Text" "kinds" "[I", Cond.methodLink RX5 42 yX5_tellOne, Cond.instanceMethod yX5_tellOne, Cond.selects RX5 yX5_tellOne yX5_tellOne, Cond.initialized RX5, Cond.code yX5_tellOne cX5_tellOne 2 none, Cond.methodLink RX5 46 yX5_tellSort, Cond.instanceMethod yX5_tellSort, Cond.selects RX5 yX5_tellSort yX5_tellSort, Cond.code yX5_tellSort cX5_tellSort 4 none, Cond.fieldLink RX5 81 "HallTables$Town" "sorts" "I", Cond.methodLink RX5 73 yX5_newName, Cond.instanceMethod yX5_newName, Cond.selects RX5 yX5_newName yX5_newName, Cond.code yX5_newName cX5_newName 3 (some .long), Cond.constantLong RX5 88 (-1), Cond.fieldLink RX5 112 "HallTables$Town" "sortNames" "[J", Cond.fieldLink RX5 93 "HallTables$Town" "houseNames" "[J", Cond.fieldLink RX5 90 "HallTables$Town" "houses" "I"]
def wsX5_tellAll_r3 : List Cond := [Cond.fieldLink RX5 141 "HallTables$Town" "manNames" "[J", Cond.fieldLink RX5 138 "HallTables$Town" "men" "I", Cond.methodLink RX5 128 yX5_isWell, Cond.instanceMethod yX5_isWell, Cond.selects RX5 yX5_isWell yX5_isWell, Cond.code yX5_isWell cX5_isWell 1 (some .boolean), Cond.methodLink RX5 162 yX6_valueOf, Cond.instanceMethod yX6_valueOf, Cond.selects RX6 yX6_valueOf yX6_valueOf, Cond.code yX6_valueOf cX6_valueOf 2 (some .long), Cond.fieldLink RX6 23 "HallTables$Text" "values" "[J", Cond.methodLink RX5 166 yX5_indexOf, Cond.static yX5_indexOf, Cond.code yX5_indexOf cX5_indexOf 5 (some .int), Cond.methodLink RX5 101 yX6_placeOf, Cond.instanceMethod yX6_placeOf, Cond.selects RX6 yX6_placeOf yX6_placeOf, Cond.code yX6_placeOf cX6_placeOf 2 (some .int), Cond.fieldLink RX6 27 "HallTables$Text" "places" "[I", Cond.fieldLink RX6 64 "HallTables$Text" "length" "I", Cond.methodLink RX5 104 yX6_note, Cond.instanceMethod yX6_note, Cond.selects RX6 yX6_note yX6_note, Cond.code yX6_note cX6_note 3 none]
def wsX5_tellAll_r4 : List Cond := [Cond.fieldLink RX6 70 "HallTables$Text" "fault" "I", Cond.fieldLink RX6 9 "HallTables$Text" "faultPlace" "I", Cond.methodLink RX5 77 yX5_number, Cond.instanceMethod yX5_number, Cond.selects RX5 yX5_number yX5_number, Cond.code yX5_number cX5_number 5 (some .int), Cond.methodLink RX5 84 yX7_addSort, Cond.instanceMethod yX7_addSort, Cond.selects RX7 yX7_addSort yX7_addSort, Cond.code yX7_addSort cX7_addSort 5 none, Cond.fieldLink RX7 9 "HallTables$Town" "sortNames" "[J", Cond.fieldLink RX7 21 "HallTables$Town" "plainWorth" "[I", Cond.fieldLink RX7 25 "HallTables$Town" "worth" "[I", Cond.methodLink RX7 74 yX7_cell, Cond.static yX7_cell, Cond.code yX7_cell cX7_cell 2 (some .int), Cond.methodLink RX5 49 yX5_tellHouse, Cond.instanceMethod yX5_tellHouse, Cond.selects RX5 yX5_tellHouse yX5_tellHouse, Cond.code yX5_tellHouse cX5_tellHouse 3 none, Cond.methodLink RX5 52 yX5_tellDoor, Cond.instanceMethod yX5_tellDoor, Cond.selects RX5 yX5_tellDoor yX5_tellDoor, Cond.code yX5_tellDoor cX5_tellDoor 4 none]
def wsX5_tellAll_r5 : List Cond := [Cond.methodLink RX5 97 yX5_known, Cond.instanceMethod yX5_known, Cond.selects RX5 yX5_known yX5_known, Cond.code yX5_known cX5_known 4 (some .int), Cond.methodLink RX5 108 yX7_addDoor, Cond.instanceMethod yX7_addDoor, Cond.selects RX7 yX7_addDoor yX7_addDoor, Cond.code yX7_addDoor cX7_addDoor 4 none, Cond.methodLink RX5 55 yX5_tellWorth, Cond.instanceMethod yX5_tellWorth, Cond.selects RX5 yX5_tellWorth yX5_tellWorth, Cond.code yX5_tellWorth cX5_tellWorth 4 none, Cond.fieldLink RX5 115 "HallTables$Town" "worth" "[I", Cond.methodLink RX5 119 yX7_cell, Cond.methodLink RX5 58 yX5_tellShop, Cond.instanceMethod yX5_tellShop, Cond.selects RX5 yX5_tellShop yX5_tellShop, Cond.code yX5_tellShop cX5_tellShop 3 none, Cond.fieldLink RX5 122 "HallTables$Town" "sells" "[I", Cond.methodLink RX5 61 yX5_tellHall, Cond.instanceMethod yX5_tellHall, Cond.selects RX5 yX5_tellHall yX5_tellHall, Cond.code yX5_tellHall cX5_tellHall 4 none, Cond.fieldLink RX5 125 "HallTables$Town" "table" "[I"]
def wsX5_tellAll_r6 : List Cond := [Cond.methodLink RX5 64 yX5_tellMan, Cond.instanceMethod yX5_tellMan, Cond.selects RX5 yX5_tellMan yX5_tellMan, Cond.code yX5_tellMan cX5_tellMan 8 none, Cond.fieldLink RX5 144 "HallTables$Town" "home" "[I", Cond.fieldLink RX5 147 "HallTables$Town" "hand" "[I", Cond.methodLink RX5 132 yX7_inHand, Cond.static yX7_inHand, Cond.code yX7_inHand cX7_inHand 2 (some .int), Cond.methodLink RX5 135 yX7_oneOf, Cond.static yX7_oneOf, Cond.code yX7_oneOf cX7_oneOf 1 (some .int), Cond.methodLink RX5 67 yX5_tellLaw, Cond.instanceMethod yX5_tellLaw, Cond.selects RX5 yX5_tellLaw yX5_tellLaw, Cond.code yX5_tellLaw cX5_tellLaw 1 none, Cond.fieldLink RX5 150 "HallTables$Town" "law" "I", Cond.methodLink RX5 70 yX5_tellCall, Cond.instanceMethod yX5_tellCall, Cond.selects RX5 yX5_tellCall yX5_tellCall, Cond.code yX5_tellCall cX5_tellCall 3 none, Cond.fieldLink RX5 153 "HallTables$Town" "calls" "I", Cond.fieldLink RX5 156 "HallTables$Town" "callMan" "[I", Cond.fieldLink RX5 159 "HallTables$Town" "callHouse" "[I"]
def wsX5_tellAll : List Cond := .code yX5_tellAll cX5_tellAll 3 none :: ((wsX5_tellAll_r1 ++ (wsX5_tellAll_r2 ++ (wsX5_tellAll_r3 ++ (wsX5_tellAll_r4 ++ (wsX5_tellAll_r5 ++ wsX5_tellAll_r6))))) ++ wsX50 ++ wsX60 ++ wsX70)
def wsX6_hasRoomFor : List Cond := .code yX6_hasRoomFor cX6_hasRoomFor 2 (some .boolean) :: ([.fieldLink RX6 64 "HallTables$Text" "length" "I"] ++ wsX60)
def wsX6_append : List Cond := .code yX6_append cX6_append 3 none :: ([.fieldLink RX6 64 "HallTables$Text" "length" "I", .fieldLink RX6 15 "HallTables$Text" "bytes" "[B"] ++ wsX60)
def wsX6_pastBlanks : List Cond := .code yX6_pastBlanks cX6_pastBlanks 4 (some .int) :: ([.fieldLink RX6 64 "HallTables$Text" "length" "I", .methodLink RX6 137 yX6_byteAt, .instanceMethod yX6_byteAt, .selects RX6 yX6_byteAt yX6_byteAt, .initialized RX6, .code yX6_byteAt cX6_byteAt 2 (some .int), .fieldLink RX6 15 "HallTables$Text" "bytes" "[B"] ++ wsX60)
def wsX6_check_r1 : List Cond := [Cond.fieldLink RX6 67 "HallTables$Text" "tokens" "I", Cond.fieldLink RX6 30 "HallTables$Text" "told" "[I", Cond.fieldLink RX6 64 "HallTables$Text" "length" "I", Cond.fieldLink RX6 97 "HallTables$Text" "MOST_TOLD" "[I", Cond.fieldLink RX6 103 "HallTables$Text" "end" "I", Cond.methodLink RX6 73 yX6_note, Cond.instanceMethod yX6_note, Cond.selects RX6 yX6_note yX6_note, Cond.initialized RX6, Cond.code yX6_note cX6_note 3 none, Cond.fieldLink RX6 70 "HallTables$Text" "fault" "I", Cond.fieldLink RX6 9 "HallTables$Text" "faultPlace" "I", Cond.methodLink RX6 77 yJ7_fill_53178, Cond.static yJ7_fill_53178, Cond.initialized RJ7, Cond.code yJ7_fill_53178 cJ7_fill_53178 4 none, Cond.methodLink RX6 83 yX6_pastBlanks, Cond.instanceMethod yX6_pastBlanks, Cond.selects RX6 yX6_pastBlanks yX6_pastBlanks, Cond.code yX6_pastBlanks cX6_pastBlanks 4 (some .int), Cond.methodLink RX6 137 yX6_byteAt, Cond.instanceMethod yX6_byteAt, Cond.selects RX6 yX6_byteAt yX6_byteAt, Cond.code yX6_byteAt cX6_byteAt 2 (some .int)]
def wsX6_check_r2 : List Cond := [Cond.fieldLink RX6 15 "HallTables$Text" "bytes" "[B", Cond.methodLink RX6 87 yX6_lex, Cond.instanceMethod yX6_lex, Cond.selects RX6 yX6_lex yX6_lex, Cond.code yX6_lex cX6_lex 3 (some .int), Cond.fieldLink RX6 106 "HallTables$Text" "value" "J", Cond.methodLink RX6 140 yX6_isLetter, Cond.static yX6_isLetter, Cond.code yX6_isLetter cX6_isLetter 1 (some .boolean), Cond.methodLink RX6 144 yX6_lexName, Cond.instanceMethod yX6_lexName, Cond.selects RX6 yX6_lexName yX6_lexName, Cond.code yX6_lexName cX6_lexName 3 (some .int), Cond.fieldLink RX6 61 "HallTables$Text" "words" "[J", Cond.methodLink RX6 153 yX6_codeWith, Cond.static yX6_codeWith, Cond.code yX6_codeWith cX6_codeWith 3 (some .long), Cond.constantLong RX6 159 (27), Cond.methodLink RX6 147 yX6_isDigit, Cond.static yX6_isDigit, Cond.code yX6_isDigit cX6_isDigit 1 (some .boolean), Cond.methodLink RX6 150 yX6_lexInt, Cond.instanceMethod yX6_lexInt, Cond.selects RX6 yX6_lexInt yX6_lexInt]
def wsX6_check_r3 : List Cond := [Cond.code yX6_lexInt cX6_lexInt 3 (some .int), Cond.constantLong RX6 157 (10), Cond.methodLink RX6 90 yX6_begin, Cond.instanceMethod yX6_begin, Cond.selects RX6 yX6_begin yX6_begin, Cond.code yX6_begin cX6_begin 2 (some .int), Cond.methodLink RX6 93 yX6_follow, Cond.static yX6_follow, Cond.code yX6_follow cX6_follow 5 (some .int), Cond.methodLink RX6 110 yX6_shape, Cond.static yX6_shape, Cond.code yX6_shape cX6_shape 1 (some (.object "java/lang/String")), Cond.methodLink RX6 114 yJ0_length_8abf5, Cond.instanceMethod yJ0_length_8abf5, Cond.selects RJ0 yJ0_length_8abf5 yJ0_length_8abf5, Cond.initialized RJ0, Cond.code yJ0_length_8abf5 cJ0_length_8abf5 1 (some .int), Cond.fieldLink RJ0 9 "java/lang/String" "value" "[B", Cond.methodLink RJ0 335 yJ0_coder_7d493, Cond.instanceMethod yJ0_coder_7d493, Cond.selects RJ0 yJ0_coder_7d493 yJ0_coder_7d493, Cond.code yJ0_coder_7d493 cJ0_coder_7d493 1 (some .byte), Cond.fieldLink RJ0 38 "java/lang/String" "COMPACT_STRINGS" "Z", Cond.fieldLink RJ0 15 "java/lang/String" "coder" "B"]
def wsX6_check_r4 : List Cond := [Cond.methodLink RX6 119 yJ0_charAt_5068e, Cond.instanceMethod yJ0_charAt_5068e, Cond.selects RJ0 yJ0_charAt_5068e yJ0_charAt_5068e, Cond.code yJ0_charAt_5068e cJ0_charAt_5068e 2 (some .char), Cond.methodLink RJ0 492 yJ0_isLatin1_aae02, Cond.instanceMethod yJ0_isLatin1_aae02, Cond.selects RJ0 yJ0_isLatin1_aae02 yJ0_isLatin1_aae02, Cond.code yJ0_isLatin1_aae02 cJ0_isLatin1_aae02 1 (some .boolean), Cond.methodLink RJ0 495 yJ1_charAt_3b067, Cond.static yJ1_charAt_3b067, Cond.initialized RJ1, Cond.code yJ1_charAt_3b067 cJ1_charAt_3b067 2 (some .char), Cond.methodLink RJ1 9 yJ0_checkIndex_df160, Cond.static yJ0_checkIndex_df160, Cond.code yJ0_checkIndex_df160 cJ0_checkIndex_df160 2 none, Cond.fieldLink RJ0 1053 "jdk/internal/util/Preconditions" "SIOOBE_FORMATTER" "Ljava/util/function/BiFunction;", Cond.methodLink RJ0 1059 yJ3_checkIndex_8e157, Cond.static yJ3_checkIndex_8e157, Cond.initialized RJ3, Cond.code yJ3_checkIndex_8e157 cJ3_checkIndex_8e157 3 (some .int), Cond.methodLink RJ0 498 yJ2_charAt_3b067, Cond.static yJ2_charAt_3b067, Cond.initialized RJ2, Cond.code yJ2_charAt_3b067 cJ2_charAt_3b067 2 (some .char)]
def wsX6_check_r5 : List Cond := [Cond.methodLink RJ2 67 yJ2_checkIndex_2214a, Cond.static yJ2_checkIndex_2214a, Cond.code yJ2_checkIndex_2214a cJ2_checkIndex_2214a 2 none, Cond.methodLink RJ2 48 yJ2_length_9d52b, Cond.static yJ2_length_9d52b, Cond.code yJ2_length_9d52b cJ2_length_9d52b 1 (some .int), Cond.methodLink RJ2 414 yJ0_checkIndex_df160, Cond.methodLink RJ2 71 yJ2_getChar_3b067, Cond.static yJ2_getChar_3b067, Cond.code yJ2_getChar_3b067 cJ2_getChar_3b067 2 (some .char), Cond.fieldLink RJ2 44 "java/lang/StringUTF16" "$assertionsDisabled" "Z", Cond.fieldLink RJ2 59 "java/lang/StringUTF16" "HI_BYTE_SHIFT" "I", Cond.fieldLink RJ2 63 "java/lang/StringUTF16" "LO_BYTE_SHIFT" "I", Cond.methodLink RX6 100 yX6_keep, Cond.instanceMethod yX6_keep, Cond.selects RX6 yX6_keep yX6_keep, Cond.code yX6_keep cX6_keep 3 none, Cond.fieldLink RX6 19 "HallTables$Text" "kinds" "[I", Cond.fieldLink RX6 23 "HallTables$Text" "values" "[J", Cond.fieldLink RX6 27 "HallTables$Text" "places" "[I"]
def wsX6_check : List Cond := .code yX6_check cX6_check 7 none :: ((wsX6_check_r1 ++ (wsX6_check_r2 ++ (wsX6_check_r3 ++ (wsX6_check_r4 ++ wsX6_check_r5)))) ++ wsX60)
def wsX7_isSort : List Cond := .code yX7_isSort cX7_isSort 2 (some .boolean) :: ([.fieldLink RX7 49 "HallTables$Town" "sorts" "I"] ++ wsX70)
def wsX7_isHouse : List Cond := .code yX7_isHouse cX7_isHouse 2 (some .boolean) :: ([.fieldLink RX7 53 "HallTables$Town" "houses" "I"] ++ wsX70)
def wsX7_isMan : List Cond := .code yX7_isMan cX7_isMan 2 (some .boolean) :: ([.fieldLink RX7 59 "HallTables$Town" "men" "I"] ++ wsX70)
def wsX8_clear : List Cond := .code yX8_clear cX8_clear 1 none :: ([.fieldLink RX8 24 "HallTables$Track" "count" "I"] ++ wsX80)
def wsX8_takeLast : List Cond := .code yX8_takeLast cX8_takeLast 1 (some .int) :: ([.fieldLink RX8 24 "HallTables$Track" "count" "I", .fieldLink RX8 28 "HallTables$Track" "next" "I"] ++ wsX80)
def wsX9_clear : List Cond := .code yX9_clear cX9_clear 1 none :: ([.fieldLink RX9 31 "HallTables$Visits" "seen" "I"] ++ wsX90)
def wsX9_isKnown : List Cond := .code yX9_isKnown cX9_isKnown 2 (some .boolean) :: ([.fieldLink RX9 31 "HallTables$Visits" "seen" "I"] ++ wsX90)
def wsX9_know : List Cond := .code yX9_know cX9_know 5 (some .boolean) :: ([.fieldLink RX9 18 "HallTables$Visits" "known" "[I", .fieldLink RX9 11 "HallTables$Visits" "seenCell" "[I", .fieldLink RX9 15 "HallTables$Visits" "seenMany" "[I", .fieldLink RX9 47 "HallTables$Visits" "parts" "I", .methodLink RX9 50 Lib.Math.max.name, .static Lib.Math.max.name, .initialized "java/lang/Math", .code Lib.Math.max.name Lib.Math.max.code 2 (some .int), .fieldLink RX9 55 "HallTables$Town" "men" "I", .fieldLink RX9 21 "HallTables$Visits" "weight" "[I", .methodLink RX9 41 yJ7_fill_53178, .static yJ7_fill_53178, .initialized RJ7, .code yJ7_fill_53178 cJ7_fill_53178 4 none] ++ wsX90 ++ wsX70)
def wsJ7_fill_d0a16 : List Cond := .code yJ7_fill_d0a16 cJ7_fill_d0a16 5 none :: ([])
def wsX9_ways_r1 : List Cond := [Cond.fieldLink RX9 24 "HallTables$Visits" "here" "[J", Cond.fieldLink RX9 55 "HallTables$Town" "men" "I", Cond.fieldLink RX9 28 "HallTables$Visits" "after" "[J", Cond.fieldLink RX9 47 "HallTables$Visits" "parts" "I", Cond.methodLink RX9 61 arraycopyName, Cond.native arraycopyName, Cond.static arraycopyName, Cond.initialized "java/lang/System", Cond.fieldLink RX9 67 "HallTables$Town" "houses" "I", Cond.fieldLink RX9 70 "HallTables$Town" "home" "[I", Cond.fieldLink RX9 73 "HallTables$Town" "hand" "[I", Cond.methodLink RX9 58 yJ7_fill_d0a16, Cond.static yJ7_fill_d0a16, Cond.initialized RJ7, Cond.code yJ7_fill_d0a16 cJ7_fill_d0a16 5 none, Cond.methodLink RX9 76 yX7_choices, Cond.instanceMethod yX7_choices, Cond.selects RX7 yX7_choices yX7_choices, Cond.initialized RX7, Cond.code yX7_choices cX7_choices 5 (some .int), Cond.fieldLink RX7 65 "HallTables$Town" "law" "I", Cond.fieldLink RX7 49 "HallTables$Town" "sorts" "I", Cond.methodLink RX7 90 yX7_leftByLaw, Cond.instanceMethod yX7_leftByLaw]
def wsX9_ways_r2 : List Cond := [Cond.selects RX7 yX7_leftByLaw yX7_leftByLaw, Cond.code yX7_leftByLaw cX7_leftByLaw 8 (some .int), Cond.methodLink RX7 87 yX7_worthAt, Cond.instanceMethod yX7_worthAt, Cond.selects RX7 yX7_worthAt yX7_worthAt, Cond.code yX7_worthAt cX7_worthAt 3 (some .int), Cond.fieldLink RX7 25 "HallTables$Town" "worth" "[I", Cond.methodLink RX7 84 yX7_inHand, Cond.static yX7_inHand, Cond.code yX7_inHand cX7_inHand 2 (some .int), Cond.methodLink RX9 79 yX9_visit, Cond.instanceMethod yX9_visit, Cond.selects RX9 yX9_visit yX9_visit, Cond.initialized RX9, Cond.code yX9_visit cX9_visit 4 none, Cond.methodLink RX9 35 yX7_cell, Cond.static yX7_cell, Cond.code yX7_cell cX7_cell 2 (some .int), Cond.methodLink RX9 83 yX9_leave, Cond.instanceMethod yX9_leave, Cond.selects RX9 yX9_leave yX9_leave, Cond.code yX9_leave cX9_leave 7 none, Cond.fieldLink RX9 18 "HallTables$Visits" "known" "[I", Cond.fieldLink RX9 21 "HallTables$Visits" "weight" "[I"]
def wsX9_ways : List Cond := .code yX9_ways cX9_ways 6 (some .long) :: ((wsX9_ways_r1 ++ wsX9_ways_r2) ++ wsX90 ++ wsX70)
def wsX10_forgetLast : List Cond := .code yX10_forgetLast cX10_forgetLast 1 none :: ([.fieldLink RX10 47 "HallTables$Ways" "ready" "Z"] ++ wsX100)
def wsX11_feed : List Cond := .code yX11_feed cX11_feed 6 (some .int) :: ([.fieldLink RX11 20 "HallTables" "text" "LHallTables$Text;", .fieldLink RX11 91 "HallTables$Text" "length" "I", .methodLink RX11 81 yX6_hasRoomFor, .instanceMethod yX6_hasRoomFor, .selects RX6 yX6_hasRoomFor yX6_hasRoomFor, .initialized RX6, .code yX6_hasRoomFor cX6_hasRoomFor 2 (some .boolean), .fieldLink RX6 64 "HallTables$Text" "length" "I", .methodLink RX11 87 yX6_append, .instanceMethod yX6_append, .selects RX6 yX6_append yX6_append, .code yX6_append cX6_append 3 none, .fieldLink RX6 15 "HallTables$Text" "bytes" "[B"] ++ wsX110 ++ wsX60)
def wsX11_back : List Cond := .code yX11_back cX11_back 2 (some .int) :: ([.fieldLink RX11 20 "HallTables" "text" "LHallTables$Text;", .fieldLink RX11 91 "HallTables$Text" "length" "I"] ++ wsX110 ++ wsX60)
def wsX11_moveIn_r1 : List Cond := [Cond.fieldLink RX11 10 "HallTables" "teller" "LHallTables$Teller;", Cond.fieldLink RX11 77 "HallTables" "town" "LHallTables$Town;", Cond.fieldLink RX11 24 "HallTables" "now" "LHallTables$Stand;", Cond.fieldLink RX11 35 "HallTables" "track" "LHallTables$Track;", Cond.fieldLink RX11 70 "HallTables" "visits" "LHallTables$Visits;", Cond.fieldLink RX11 42 "HallTables" "ways" "LHallTables$Ways;", Cond.fieldLink RX11 28 "HallTables" "slots" "[LHallTables$Stand;", Cond.fieldLink RX11 122 "HallTables$Stand" "holds" "Z", Cond.methodLink RX11 107 yX5_exchange, Cond.instanceMethod yX5_exchange, Cond.selects RX5 yX5_exchange yX5_exchange, Cond.initialized RX5, Cond.code yX5_exchange cX5_exchange 3 (some (.object "HallTables$Town")), Cond.fieldLink RX5 21 "HallTables$Teller" "town" "LHallTables$Town;", Cond.methodLink RX11 111 yX4_begin, Cond.instanceMethod yX4_begin, Cond.selects RX4 yX4_begin yX4_begin, Cond.initialized RX4, Cond.code yX4_begin cX4_begin 2 none, Cond.fieldLink RX4 27 "HallTables$Town" "men" "I", Cond.fieldLink RX4 33 "HallTables$Stand" "men" "I", Cond.fieldLink RX4 34 "HallTables$Town" "home" "[I", Cond.fieldLink RX4 9 "HallTables$Stand" "at" "[I", Cond.methodLink RX4 37 arraycopyName]
def wsX11_moveIn_r2 : List Cond := [Cond.native arraycopyName, Cond.static arraycopyName, Cond.initialized "java/lang/System", Cond.fieldLink RX4 43 "HallTables$Town" "hand" "[I", Cond.fieldLink RX4 15 "HallTables$Stand" "hand" "[I", Cond.fieldLink RX4 44 "HallTables$Town" "table" "[I", Cond.fieldLink RX4 24 "HallTables$Stand" "table" "[I", Cond.fieldLink RX4 18 "HallTables$Stand" "minutes" "[I", Cond.fieldLink RX4 21 "HallTables$Stand" "loss" "[I", Cond.methodLink RX4 45 yJ7_fill_53178, Cond.static yJ7_fill_53178, Cond.initialized RJ7, Cond.code yJ7_fill_53178 cJ7_fill_53178 4 none, Cond.methodLink RX11 115 yX8_clear, Cond.instanceMethod yX8_clear, Cond.selects RX8 yX8_clear yX8_clear, Cond.initialized RX8, Cond.code yX8_clear cX8_clear 1 none, Cond.fieldLink RX8 24 "HallTables$Track" "count" "I", Cond.methodLink RX11 118 yX9_clear, Cond.instanceMethod yX9_clear, Cond.selects RX9 yX9_clear yX9_clear, Cond.initialized RX9, Cond.code yX9_clear cX9_clear 1 none]
def wsX11_moveIn_r3 : List Cond := [Cond.fieldLink RX9 31 "HallTables$Visits" "seen" "I", Cond.methodLink RX11 119 yX10_forgetLast, Cond.instanceMethod yX10_forgetLast, Cond.selects RX10 yX10_forgetLast yX10_forgetLast, Cond.initialized RX10, Cond.code yX10_forgetLast cX10_forgetLast 1 none, Cond.fieldLink RX10 47 "HallTables$Ways" "ready" "Z"]
def wsX11_moveIn : List Cond := .code yX11_moveIn cX11_moveIn 2 none :: ((wsX11_moveIn_r1 ++ (wsX11_moveIn_r2 ++ wsX11_moveIn_r3)) ++ wsX110 ++ wsX40 ++ wsX50 ++ wsX70 ++ wsX80 ++ wsX90 ++ wsX100)
def wsX11_read_r1 : List Cond := [Cond.fieldLink RX11 20 "HallTables" "text" "LHallTables$Text;", Cond.fieldLink RX11 98 "HallTables$Text" "fault" "I", Cond.fieldLink RX11 10 "HallTables" "teller" "LHallTables$Teller;", Cond.fieldLink RX11 91 "HallTables$Text" "length" "I", Cond.methodLink RX11 95 yX6_check, Cond.instanceMethod yX6_check, Cond.selects RX6 yX6_check yX6_check, Cond.initialized RX6, Cond.code yX6_check cX6_check 7 none, Cond.fieldLink RX6 67 "HallTables$Text" "tokens" "I", Cond.fieldLink RX6 30 "HallTables$Text" "told" "[I", Cond.fieldLink RX6 64 "HallTables$Text" "length" "I", Cond.fieldLink RX6 97 "HallTables$Text" "MOST_TOLD" "[I", Cond.fieldLink RX6 103 "HallTables$Text" "end" "I", Cond.methodLink RX6 73 yX6_note, Cond.instanceMethod yX6_note, Cond.selects RX6 yX6_note yX6_note, Cond.code yX6_note cX6_note 3 none, Cond.fieldLink RX6 70 "HallTables$Text" "fault" "I", Cond.fieldLink RX6 9 "HallTables$Text" "faultPlace" "I", Cond.methodLink RX6 77 yJ7_fill_53178, Cond.static yJ7_fill_53178, Cond.initialized RJ7, Cond.code yJ7_fill_53178 cJ7_fill_53178 4 none]
def wsX11_read_r2 : List Cond := [Cond.methodLink RX6 83 yX6_pastBlanks, Cond.instanceMethod yX6_pastBlanks, Cond.selects RX6 yX6_pastBlanks yX6_pastBlanks, Cond.code yX6_pastBlanks cX6_pastBlanks 4 (some .int), Cond.methodLink RX6 137 yX6_byteAt, Cond.instanceMethod yX6_byteAt, Cond.selects RX6 yX6_byteAt yX6_byteAt, Cond.code yX6_byteAt cX6_byteAt 2 (some .int), Cond.fieldLink RX6 15 "HallTables$Text" "bytes" "[B", Cond.methodLink RX6 87 yX6_lex, Cond.instanceMethod yX6_lex, Cond.selects RX6 yX6_lex yX6_lex, Cond.code yX6_lex cX6_lex 3 (some .int), Cond.fieldLink RX6 106 "HallTables$Text" "value" "J", Cond.methodLink RX6 140 yX6_isLetter, Cond.static yX6_isLetter, Cond.code yX6_isLetter cX6_isLetter 1 (some .boolean), Cond.methodLink RX6 144 yX6_lexName, Cond.instanceMethod yX6_lexName, Cond.selects RX6 yX6_lexName yX6_lexName, Cond.code yX6_lexName cX6_lexName 3 (some .int), Cond.fieldLink RX6 61 "HallTables$Text" "words" "[J", Cond.methodLink RX6 153 yX6_codeWith, Cond.static yX6_codeWith]
def wsX11_read_r3 : List Cond := [Cond.code yX6_codeWith cX6_codeWith 3 (some .long), Cond.constantLong RX6 159 (27), Cond.methodLink RX6 147 yX6_isDigit, Cond.static yX6_isDigit, Cond.code yX6_isDigit cX6_isDigit 1 (some .boolean), Cond.methodLink RX6 150 yX6_lexInt, Cond.instanceMethod yX6_lexInt, Cond.selects RX6 yX6_lexInt yX6_lexInt, Cond.code yX6_lexInt cX6_lexInt 3 (some .int), Cond.constantLong RX6 157 (10), Cond.methodLink RX6 90 yX6_begin, Cond.instanceMethod yX6_begin, Cond.selects RX6 yX6_begin yX6_begin, Cond.code yX6_begin cX6_begin 2 (some .int), Cond.methodLink RX6 93 yX6_follow, Cond.static yX6_follow, Cond.code yX6_follow cX6_follow 5 (some .int), Cond.methodLink RX6 110 yX6_shape, Cond.static yX6_shape, Cond.code yX6_shape cX6_shape 1 (some (.object "java/lang/String")), Cond.methodLink RX6 114 yJ0_length_8abf5, Cond.instanceMethod yJ0_length_8abf5, Cond.selects RJ0 yJ0_length_8abf5 yJ0_length_8abf5, Cond.initialized RJ0]
def wsX11_read_r4 : List Cond := [Cond.code yJ0_length_8abf5 cJ0_length_8abf5 1 (some .int), Cond.fieldLink RJ0 9 "java/lang/String" "value" "[B", Cond.methodLink RJ0 335 yJ0_coder_7d493, Cond.instanceMethod yJ0_coder_7d493, Cond.selects RJ0 yJ0_coder_7d493 yJ0_coder_7d493, Cond.code yJ0_coder_7d493 cJ0_coder_7d493 1 (some .byte), Cond.fieldLink RJ0 38 "java/lang/String" "COMPACT_STRINGS" "Z", Cond.fieldLink RJ0 15 "java/lang/String" "coder" "B", Cond.methodLink RX6 119 yJ0_charAt_5068e, Cond.instanceMethod yJ0_charAt_5068e, Cond.selects RJ0 yJ0_charAt_5068e yJ0_charAt_5068e, Cond.code yJ0_charAt_5068e cJ0_charAt_5068e 2 (some .char), Cond.methodLink RJ0 492 yJ0_isLatin1_aae02, Cond.instanceMethod yJ0_isLatin1_aae02, Cond.selects RJ0 yJ0_isLatin1_aae02 yJ0_isLatin1_aae02, Cond.code yJ0_isLatin1_aae02 cJ0_isLatin1_aae02 1 (some .boolean), Cond.methodLink RJ0 495 yJ1_charAt_3b067, Cond.static yJ1_charAt_3b067, Cond.initialized RJ1, Cond.code yJ1_charAt_3b067 cJ1_charAt_3b067 2 (some .char), Cond.methodLink RJ1 9 yJ0_checkIndex_df160, Cond.static yJ0_checkIndex_df160, Cond.code yJ0_checkIndex_df160 cJ0_checkIndex_df160 2 none, Cond.fieldLink RJ0 1053 "jdk/internal/util/Preconditions" "SIOOBE_FORMATTER" "Ljava/util/function/BiFunction;"]
def wsX11_read_r5 : List Cond := [Cond.methodLink RJ0 1059 yJ3_checkIndex_8e157, Cond.static yJ3_checkIndex_8e157, Cond.initialized RJ3, Cond.code yJ3_checkIndex_8e157 cJ3_checkIndex_8e157 3 (some .int), Cond.methodLink RJ0 498 yJ2_charAt_3b067, Cond.static yJ2_charAt_3b067, Cond.initialized RJ2, Cond.code yJ2_charAt_3b067 cJ2_charAt_3b067 2 (some .char), Cond.methodLink RJ2 67 yJ2_checkIndex_2214a, Cond.static yJ2_checkIndex_2214a, Cond.code yJ2_checkIndex_2214a cJ2_checkIndex_2214a 2 none, Cond.methodLink RJ2 48 yJ2_length_9d52b, Cond.static yJ2_length_9d52b, Cond.code yJ2_length_9d52b cJ2_length_9d52b 1 (some .int), Cond.methodLink RJ2 414 yJ0_checkIndex_df160, Cond.methodLink RJ2 71 yJ2_getChar_3b067, Cond.static yJ2_getChar_3b067, Cond.code yJ2_getChar_3b067 cJ2_getChar_3b067 2 (some .char), Cond.fieldLink RJ2 44 "java/lang/StringUTF16" "$assertionsDisabled" "Z", Cond.fieldLink RJ2 59 "java/lang/StringUTF16" "HI_BYTE_SHIFT" "I", Cond.fieldLink RJ2 63 "java/lang/StringUTF16" "LO_BYTE_SHIFT" "I", Cond.methodLink RX6 100 yX6_keep, Cond.instanceMethod yX6_keep, Cond.selects RX6 yX6_keep yX6_keep]
def wsX11_read_r6 : List Cond := [Cond.code yX6_keep cX6_keep 3 none, Cond.fieldLink RX6 19 "HallTables$Text" "kinds" "[I", Cond.fieldLink RX6 23 "HallTables$Text" "values" "[J", Cond.fieldLink RX6 27 "HallTables$Text" "places" "[I", Cond.methodLink RX11 101 yX5_tellAll, Cond.instanceMethod yX5_tellAll, Cond.selects RX5 yX5_tellAll yX5_tellAll, Cond.initialized RX5, Cond.code yX5_tellAll cX5_tellAll 3 none, Cond.fieldLink RX5 21 "HallTables$Teller" "town" "LHallTables$Town;", Cond.fieldLink RX5 28 "HallTables$Teller" "at" "I", Cond.fieldLink RX5 12 "HallTables$Teller" "text" "LHallTables$Text;", Cond.fieldLink RX5 32 "HallTables$Text" "tokens" "I", Cond.fieldLink RX5 35 "HallTables$Text" "fault" "I", Cond.methodLink RX5 25 yX7_clear, Cond.instanceMethod yX7_clear, Cond.selects RX7 yX7_clear yX7_clear, Cond.initialized RX7, Cond.code yX7_clear cX7_clear 1 none, Cond.fieldLink RX7 49 "HallTables$Town" "sorts" "I", Cond.fieldLink RX7 53 "HallTables$Town" "houses" "I", Cond.fieldLink RX7 56 "HallTables$Town" "doors" "I", Cond.fieldLink RX7 59 "HallTables$Town" "men" "I", Cond.fieldLink RX7 62 "HallTables$Town" "calls" "I"]
def wsX11_read_r7 : List Cond := [Cond.fieldLink RX7 65 "HallTables$Town" "law" "I", Cond.fieldLink RX7 28 "HallTables$Town" "minutes" "[I", Cond.fieldLink RX7 31 "HallTables$Town" "sells" "[I", Cond.fieldLink RX7 34 "HallTables$Town" "table" "[I", Cond.methodLink RX7 68 yJ7_fill_53178, Cond.methodLink RX5 38 yX6_kindOf, Cond.instanceMethod yX6_kindOf, Cond.selects RX6 yX6_kindOf yX6_kindOf, Cond.code yX6_kindOf cX6_kindOf 2 (some .int), Cond.methodLink RX5 42 yX5_tellOne, Cond.instanceMethod yX5_tellOne, Cond.selects RX5 yX5_tellOne yX5_tellOne, Cond.code yX5_tellOne cX5_tellOne 2 none, Cond.methodLink RX5 46 yX5_tellSort, Cond.instanceMethod yX5_tellSort, Cond.selects RX5 yX5_tellSort yX5_tellSort, Cond.code yX5_tellSort cX5_tellSort 4 none, Cond.fieldLink RX5 81 "HallTables$Town" "sorts" "I", Cond.methodLink RX5 73 yX5_newName, Cond.instanceMethod yX5_newName, Cond.selects RX5 yX5_newName yX5_newName, Cond.code yX5_newName cX5_newName 3 (some .long), Cond.constantLong RX5 88 (-1), Cond.fieldLink RX5 112 "HallTables$Town" "sortNames" "[J"]
def wsX11_read_r8 : List Cond := [Cond.fieldLink RX5 93 "HallTables$Town" "houseNames" "[J", Cond.fieldLink RX5 90 "HallTables$Town" "houses" "I", Cond.fieldLink RX5 141 "HallTables$Town" "manNames" "[J", Cond.fieldLink RX5 138 "HallTables$Town" "men" "I", Cond.methodLink RX5 128 yX5_isWell, Cond.instanceMethod yX5_isWell, Cond.selects RX5 yX5_isWell yX5_isWell, Cond.code yX5_isWell cX5_isWell 1 (some .boolean), Cond.methodLink RX5 162 yX6_valueOf, Cond.instanceMethod yX6_valueOf, Cond.selects RX6 yX6_valueOf yX6_valueOf, Cond.code yX6_valueOf cX6_valueOf 2 (some .long), Cond.methodLink RX5 166 yX5_indexOf, Cond.static yX5_indexOf, Cond.code yX5_indexOf cX5_indexOf 5 (some .int), Cond.methodLink RX5 101 yX6_placeOf, Cond.instanceMethod yX6_placeOf, Cond.selects RX6 yX6_placeOf yX6_placeOf, Cond.code yX6_placeOf cX6_placeOf 2 (some .int), Cond.methodLink RX5 104 yX6_note, Cond.methodLink RX5 77 yX5_number, Cond.instanceMethod yX5_number, Cond.selects RX5 yX5_number yX5_number, Cond.code yX5_number cX5_number 5 (some .int)]
def wsX11_read_r9 : List Cond := [Cond.methodLink RX5 84 yX7_addSort, Cond.instanceMethod yX7_addSort, Cond.selects RX7 yX7_addSort yX7_addSort, Cond.code yX7_addSort cX7_addSort 5 none, Cond.fieldLink RX7 9 "HallTables$Town" "sortNames" "[J", Cond.fieldLink RX7 21 "HallTables$Town" "plainWorth" "[I", Cond.fieldLink RX7 25 "HallTables$Town" "worth" "[I", Cond.methodLink RX7 74 yX7_cell, Cond.static yX7_cell, Cond.code yX7_cell cX7_cell 2 (some .int), Cond.methodLink RX5 49 yX5_tellHouse, Cond.instanceMethod yX5_tellHouse, Cond.selects RX5 yX5_tellHouse yX5_tellHouse, Cond.code yX5_tellHouse cX5_tellHouse 3 none, Cond.methodLink RX5 52 yX5_tellDoor, Cond.instanceMethod yX5_tellDoor, Cond.selects RX5 yX5_tellDoor yX5_tellDoor, Cond.code yX5_tellDoor cX5_tellDoor 4 none, Cond.methodLink RX5 97 yX5_known, Cond.instanceMethod yX5_known, Cond.selects RX5 yX5_known yX5_known, Cond.code yX5_known cX5_known 4 (some .int), Cond.methodLink RX5 108 yX7_addDoor, Cond.instanceMethod yX7_addDoor]
def wsX11_read_r10 : List Cond := [Cond.selects RX7 yX7_addDoor yX7_addDoor, Cond.code yX7_addDoor cX7_addDoor 4 none, Cond.methodLink RX5 55 yX5_tellWorth, Cond.instanceMethod yX5_tellWorth, Cond.selects RX5 yX5_tellWorth yX5_tellWorth, Cond.code yX5_tellWorth cX5_tellWorth 4 none, Cond.fieldLink RX5 115 "HallTables$Town" "worth" "[I", Cond.methodLink RX5 119 yX7_cell, Cond.methodLink RX5 58 yX5_tellShop, Cond.instanceMethod yX5_tellShop, Cond.selects RX5 yX5_tellShop yX5_tellShop, Cond.code yX5_tellShop cX5_tellShop 3 none, Cond.fieldLink RX5 122 "HallTables$Town" "sells" "[I", Cond.methodLink RX5 61 yX5_tellHall, Cond.instanceMethod yX5_tellHall, Cond.selects RX5 yX5_tellHall yX5_tellHall, Cond.code yX5_tellHall cX5_tellHall 4 none, Cond.fieldLink RX5 125 "HallTables$Town" "table" "[I", Cond.methodLink RX5 64 yX5_tellMan, Cond.instanceMethod yX5_tellMan, Cond.selects RX5 yX5_tellMan yX5_tellMan, Cond.code yX5_tellMan cX5_tellMan 8 none, Cond.fieldLink RX5 144 "HallTables$Town" "home" "[I", Cond.fieldLink RX5 147 "HallTables$Town" "hand" "[I"]
def wsX11_read_r11 : List Cond := [Cond.methodLink RX5 132 yX7_inHand, Cond.static yX7_inHand, Cond.code yX7_inHand cX7_inHand 2 (some .int), Cond.methodLink RX5 135 yX7_oneOf, Cond.static yX7_oneOf, Cond.code yX7_oneOf cX7_oneOf 1 (some .int), Cond.methodLink RX5 67 yX5_tellLaw, Cond.instanceMethod yX5_tellLaw, Cond.selects RX5 yX5_tellLaw yX5_tellLaw, Cond.code yX5_tellLaw cX5_tellLaw 1 none, Cond.fieldLink RX5 150 "HallTables$Town" "law" "I", Cond.methodLink RX5 70 yX5_tellCall, Cond.instanceMethod yX5_tellCall, Cond.selects RX5 yX5_tellCall yX5_tellCall, Cond.code yX5_tellCall cX5_tellCall 3 none, Cond.fieldLink RX5 153 "HallTables$Town" "calls" "I", Cond.fieldLink RX5 156 "HallTables$Town" "callMan" "[I", Cond.fieldLink RX5 159 "HallTables$Town" "callHouse" "[I", Cond.methodLink RX11 104 yX11_moveIn, Cond.instanceMethod yX11_moveIn, Cond.selects RX11 yX11_moveIn yX11_moveIn, Cond.initialized RX11, Cond.code yX11_moveIn cX11_moveIn 2 none, Cond.fieldLink RX11 77 "HallTables" "town" "LHallTables$Town;"]
def wsX11_read_r12 : List Cond := [Cond.fieldLink RX11 24 "HallTables" "now" "LHallTables$Stand;", Cond.fieldLink RX11 35 "HallTables" "track" "LHallTables$Track;", Cond.fieldLink RX11 70 "HallTables" "visits" "LHallTables$Visits;", Cond.fieldLink RX11 42 "HallTables" "ways" "LHallTables$Ways;", Cond.fieldLink RX11 28 "HallTables" "slots" "[LHallTables$Stand;", Cond.fieldLink RX11 122 "HallTables$Stand" "holds" "Z", Cond.methodLink RX11 107 yX5_exchange, Cond.instanceMethod yX5_exchange, Cond.selects RX5 yX5_exchange yX5_exchange, Cond.code yX5_exchange cX5_exchange 3 (some (.object "HallTables$Town")), Cond.methodLink RX11 111 yX4_begin, Cond.instanceMethod yX4_begin, Cond.selects RX4 yX4_begin yX4_begin, Cond.initialized RX4, Cond.code yX4_begin cX4_begin 2 none, Cond.fieldLink RX4 27 "HallTables$Town" "men" "I", Cond.fieldLink RX4 33 "HallTables$Stand" "men" "I", Cond.fieldLink RX4 34 "HallTables$Town" "home" "[I", Cond.fieldLink RX4 9 "HallTables$Stand" "at" "[I", Cond.methodLink RX4 37 arraycopyName, Cond.native arraycopyName, Cond.static arraycopyName, Cond.initialized "java/lang/System", Cond.fieldLink RX4 43 "HallTables$Town" "hand" "[I"]
def wsX11_read_r13 : List Cond := [Cond.fieldLink RX4 15 "HallTables$Stand" "hand" "[I", Cond.fieldLink RX4 44 "HallTables$Town" "table" "[I", Cond.fieldLink RX4 24 "HallTables$Stand" "table" "[I", Cond.fieldLink RX4 18 "HallTables$Stand" "minutes" "[I", Cond.fieldLink RX4 21 "HallTables$Stand" "loss" "[I", Cond.methodLink RX4 45 yJ7_fill_53178, Cond.methodLink RX11 115 yX8_clear, Cond.instanceMethod yX8_clear, Cond.selects RX8 yX8_clear yX8_clear, Cond.initialized RX8, Cond.code yX8_clear cX8_clear 1 none, Cond.fieldLink RX8 24 "HallTables$Track" "count" "I", Cond.methodLink RX11 118 yX9_clear, Cond.instanceMethod yX9_clear, Cond.selects RX9 yX9_clear yX9_clear, Cond.initialized RX9, Cond.code yX9_clear cX9_clear 1 none, Cond.fieldLink RX9 31 "HallTables$Visits" "seen" "I", Cond.methodLink RX11 119 yX10_forgetLast, Cond.instanceMethod yX10_forgetLast, Cond.selects RX10 yX10_forgetLast yX10_forgetLast, Cond.initialized RX10, Cond.code yX10_forgetLast cX10_forgetLast 1 none, Cond.fieldLink RX10 47 "HallTables$Ways" "ready" "Z"]
def wsX11_read : List Cond := .code yX11_read cX11_read 1 (some .int) :: ((wsX11_read_r1 ++ (wsX11_read_r2 ++ (wsX11_read_r3 ++ (wsX11_read_r4 ++ (wsX11_read_r5 ++ (wsX11_read_r6 ++ (wsX11_read_r7 ++ (wsX11_read_r8 ++ (wsX11_read_r9 ++ (wsX11_read_r10 ++ (wsX11_read_r11 ++ (wsX11_read_r12 ++ wsX11_read_r13)))))))))))) ++ wsX110 ++ wsX60 ++ wsX50 ++ wsX70 ++ wsX40 ++ wsX80 ++ wsX90 ++ wsX100)
def wsX11_place : List Cond := .code yX11_place cX11_place 1 (some .int) :: ([.fieldLink RX11 20 "HallTables" "text" "LHallTables$Text;", .fieldLink RX11 126 "HallTables$Text" "faultPlace" "I"] ++ wsX110 ++ wsX60)
def wsX11_door : List Cond := .code yX11_door cX11_door 3 (some .int) :: ([.fieldLink RX11 77 "HallTables" "town" "LHallTables$Town;", .methodLink RX11 129 yX7_isHouse, .instanceMethod yX7_isHouse, .selects RX7 yX7_isHouse yX7_isHouse, .initialized RX7, .code yX7_isHouse cX7_isHouse 2 (some .boolean), .fieldLink RX7 53 "HallTables$Town" "houses" "I", .methodLink RX11 132 yX7_minutesTo, .instanceMethod yX7_minutesTo, .selects RX7 yX7_minutesTo yX7_minutesTo, .code yX7_minutesTo cX7_minutesTo 3 (some .int), .fieldLink RX7 28 "HallTables$Town" "minutes" "[I"] ++ wsX110 ++ wsX70)
def wsX11_worth : List Cond := .code yX11_worth cX11_worth 3 (some .int) :: ([.fieldLink RX11 77 "HallTables" "town" "LHallTables$Town;", .fieldLink RX11 139 "HallTables$Town" "plainWorth" "[I", .methodLink RX11 136 yX7_isSort, .instanceMethod yX7_isSort, .selects RX7 yX7_isSort yX7_isSort, .initialized RX7, .code yX7_isSort cX7_isSort 2 (some .boolean), .fieldLink RX7 49 "HallTables$Town" "sorts" "I", .methodLink RX11 129 yX7_isHouse, .instanceMethod yX7_isHouse, .selects RX7 yX7_isHouse yX7_isHouse, .code yX7_isHouse cX7_isHouse 2 (some .boolean), .fieldLink RX7 53 "HallTables$Town" "houses" "I", .methodLink RX11 143 yX7_worthAt, .instanceMethod yX7_worthAt, .selects RX7 yX7_worthAt yX7_worthAt, .code yX7_worthAt cX7_worthAt 3 (some .int), .fieldLink RX7 25 "HallTables$Town" "worth" "[I"] ++ wsX110 ++ wsX70)
def wsX11_table : List Cond := .code yX11_table cX11_table 3 (some .int) :: ([.fieldLink RX11 77 "HallTables" "town" "LHallTables$Town;", .fieldLink RX11 24 "HallTables" "now" "LHallTables$Stand;", .fieldLink RX11 146 "HallTables$Stand" "table" "[I", .methodLink RX11 129 yX7_isHouse, .instanceMethod yX7_isHouse, .selects RX7 yX7_isHouse yX7_isHouse, .initialized RX7, .code yX7_isHouse cX7_isHouse 2 (some .boolean), .fieldLink RX7 53 "HallTables$Town" "houses" "I", .methodLink RX11 136 yX7_isSort, .instanceMethod yX7_isSort, .selects RX7 yX7_isSort yX7_isSort, .code yX7_isSort cX7_isSort 2 (some .boolean), .fieldLink RX7 49 "HallTables$Town" "sorts" "I", .methodLink RX11 149 yX7_cell, .static yX7_cell, .code yX7_cell cX7_cell 2 (some .int)] ++ wsX110 ++ wsX40 ++ wsX70)
def wsX11_man : List Cond := .code yX11_man cX11_man 3 (some .int) :: ([.fieldLink RX11 77 "HallTables" "town" "LHallTables$Town;", .fieldLink RX11 24 "HallTables" "now" "LHallTables$Stand;", .fieldLink RX11 155 "HallTables$Stand" "at" "[I", .fieldLink RX11 158 "HallTables$Town" "home" "[I", .fieldLink RX11 161 "HallTables$Stand" "hand" "[I", .fieldLink RX11 168 "HallTables$Stand" "minutes" "[I", .fieldLink RX11 171 "HallTables$Stand" "loss" "[I", .methodLink RX11 152 yX7_isMan, .instanceMethod yX7_isMan, .selects RX7 yX7_isMan yX7_isMan, .initialized RX7, .code yX7_isMan cX7_isMan 2 (some .boolean), .fieldLink RX7 59 "HallTables$Town" "men" "I", .methodLink RX11 164 yX7_things, .static yX7_things, .code yX7_things cX7_things 1 (some .int), .methodLink RX7 78 yJ6_bitCount_0f7a4, .static yJ6_bitCount_0f7a4, .initialized RJ6, .code yJ6_bitCount_0f7a4 cJ6_bitCount_0f7a4 1 (some .int), .constant RJ6 265 (1431655765), .constant RJ6 266 (858993459), .constant RJ6 267 (252645135)] ++ wsX110 ++ wsX40 ++ wsX70)
def wsX11_has : List Cond := .code yX11_has cX11_has 3 (some .int) :: ([.fieldLink RX11 77 "HallTables" "town" "LHallTables$Town;", .fieldLink RX11 24 "HallTables" "now" "LHallTables$Stand;", .fieldLink RX11 161 "HallTables$Stand" "hand" "[I", .methodLink RX11 152 yX7_isMan, .instanceMethod yX7_isMan, .selects RX7 yX7_isMan yX7_isMan, .initialized RX7, .code yX7_isMan cX7_isMan 2 (some .boolean), .fieldLink RX7 59 "HallTables$Town" "men" "I", .methodLink RX11 136 yX7_isSort, .instanceMethod yX7_isSort, .selects RX7 yX7_isSort yX7_isSort, .code yX7_isSort cX7_isSort 2 (some .boolean), .fieldLink RX7 49 "HallTables$Town" "sorts" "I", .methodLink RX11 174 yX7_inHand, .static yX7_inHand, .code yX7_inHand cX7_inHand 2 (some .int)] ++ wsX110 ++ wsX40 ++ wsX70)
def wsX11_may_r1 : List Cond := [Cond.fieldLink RX11 77 "HallTables" "town" "LHallTables$Town;", Cond.fieldLink RX11 158 "HallTables$Town" "home" "[I", Cond.fieldLink RX11 24 "HallTables" "now" "LHallTables$Stand;", Cond.fieldLink RX11 161 "HallTables$Stand" "hand" "[I", Cond.methodLink RX11 152 yX7_isMan, Cond.instanceMethod yX7_isMan, Cond.selects RX7 yX7_isMan yX7_isMan, Cond.initialized RX7, Cond.code yX7_isMan cX7_isMan 2 (some .boolean), Cond.fieldLink RX7 59 "HallTables$Town" "men" "I", Cond.methodLink RX11 129 yX7_isHouse, Cond.instanceMethod yX7_isHouse, Cond.selects RX7 yX7_isHouse yX7_isHouse, Cond.code yX7_isHouse cX7_isHouse 2 (some .boolean), Cond.fieldLink RX7 53 "HallTables$Town" "houses" "I", Cond.methodLink RX11 136 yX7_isSort, Cond.instanceMethod yX7_isSort, Cond.selects RX7 yX7_isSort yX7_isSort, Cond.code yX7_isSort cX7_isSort 2 (some .boolean), Cond.fieldLink RX7 49 "HallTables$Town" "sorts" "I", Cond.methodLink RX11 177 yX7_mayLeave, Cond.instanceMethod yX7_mayLeave, Cond.selects RX7 yX7_mayLeave yX7_mayLeave, Cond.code yX7_mayLeave cX7_mayLeave 4 (some .boolean)]
def wsX11_may_r2 : List Cond := [Cond.methodLink RX7 93 yX7_isSort, Cond.methodLink RX7 97 yX7_choices, Cond.instanceMethod yX7_choices, Cond.selects RX7 yX7_choices yX7_choices, Cond.code yX7_choices cX7_choices 5 (some .int), Cond.fieldLink RX7 65 "HallTables$Town" "law" "I", Cond.methodLink RX7 90 yX7_leftByLaw, Cond.instanceMethod yX7_leftByLaw, Cond.selects RX7 yX7_leftByLaw yX7_leftByLaw, Cond.code yX7_leftByLaw cX7_leftByLaw 8 (some .int), Cond.methodLink RX7 87 yX7_worthAt, Cond.instanceMethod yX7_worthAt, Cond.selects RX7 yX7_worthAt yX7_worthAt, Cond.code yX7_worthAt cX7_worthAt 3 (some .int), Cond.fieldLink RX7 25 "HallTables$Town" "worth" "[I", Cond.methodLink RX7 84 yX7_inHand, Cond.static yX7_inHand, Cond.code yX7_inHand cX7_inHand 2 (some .int)]
def wsX11_may : List Cond := .code yX11_may cX11_may 4 (some .int) :: ((wsX11_may_r1 ++ wsX11_may_r2) ++ wsX110 ++ wsX70 ++ wsX40)
def wsX11_go_r1 : List Cond := [Cond.fieldLink RX11 77 "HallTables" "town" "LHallTables$Town;", Cond.fieldLink RX11 24 "HallTables" "now" "LHallTables$Stand;", Cond.fieldLink RX11 155 "HallTables$Stand" "at" "[I", Cond.fieldLink RX11 158 "HallTables$Town" "home" "[I", Cond.fieldLink RX11 161 "HallTables$Stand" "hand" "[I", Cond.fieldLink RX11 35 "HallTables" "track" "LHallTables$Track;", Cond.methodLink RX11 152 yX7_isMan, Cond.instanceMethod yX7_isMan, Cond.selects RX7 yX7_isMan yX7_isMan, Cond.initialized RX7, Cond.code yX7_isMan cX7_isMan 2 (some .boolean), Cond.fieldLink RX7 59 "HallTables$Town" "men" "I", Cond.methodLink RX11 129 yX7_isHouse, Cond.instanceMethod yX7_isHouse, Cond.selects RX7 yX7_isHouse yX7_isHouse, Cond.code yX7_isHouse cX7_isHouse 2 (some .boolean), Cond.fieldLink RX7 53 "HallTables$Town" "houses" "I", Cond.methodLink RX11 136 yX7_isSort, Cond.instanceMethod yX7_isSort, Cond.selects RX7 yX7_isSort yX7_isSort, Cond.code yX7_isSort cX7_isSort 2 (some .boolean), Cond.fieldLink RX7 49 "HallTables$Town" "sorts" "I", Cond.methodLink RX11 132 yX7_minutesTo, Cond.instanceMethod yX7_minutesTo]
def wsX11_go_r2 : List Cond := [Cond.selects RX7 yX7_minutesTo yX7_minutesTo, Cond.code yX7_minutesTo cX7_minutesTo 3 (some .int), Cond.fieldLink RX7 28 "HallTables$Town" "minutes" "[I", Cond.methodLink RX11 177 yX7_mayLeave, Cond.instanceMethod yX7_mayLeave, Cond.selects RX7 yX7_mayLeave yX7_mayLeave, Cond.code yX7_mayLeave cX7_mayLeave 4 (some .boolean), Cond.methodLink RX7 93 yX7_isSort, Cond.methodLink RX7 97 yX7_choices, Cond.instanceMethod yX7_choices, Cond.selects RX7 yX7_choices yX7_choices, Cond.code yX7_choices cX7_choices 5 (some .int), Cond.fieldLink RX7 65 "HallTables$Town" "law" "I", Cond.methodLink RX7 90 yX7_leftByLaw, Cond.instanceMethod yX7_leftByLaw, Cond.selects RX7 yX7_leftByLaw yX7_leftByLaw, Cond.code yX7_leftByLaw cX7_leftByLaw 8 (some .int), Cond.methodLink RX7 87 yX7_worthAt, Cond.instanceMethod yX7_worthAt, Cond.selects RX7 yX7_worthAt yX7_worthAt, Cond.code yX7_worthAt cX7_worthAt 3 (some .int), Cond.fieldLink RX7 25 "HallTables$Town" "worth" "[I", Cond.methodLink RX7 84 yX7_inHand, Cond.static yX7_inHand]
def wsX11_go_r3 : List Cond := [Cond.code yX7_inHand cX7_inHand 2 (some .int), Cond.methodLink RX11 181 yX8_note, Cond.instanceMethod yX8_note, Cond.selects RX8 yX8_note yX8_note, Cond.initialized RX8, Cond.code yX8_note cX8_note 5 none, Cond.fieldLink RX8 11 "HallTables$Track" "man" "[I", Cond.fieldLink RX8 28 "HallTables$Track" "next" "I", Cond.fieldLink RX8 15 "HallTables$Track" "from" "[I", Cond.fieldLink RX8 18 "HallTables$Track" "sort" "[I", Cond.fieldLink RX8 21 "HallTables$Track" "minutes" "[I", Cond.fieldLink RX8 24 "HallTables$Track" "count" "I", Cond.methodLink RX8 31 Lib.Math.min.name, Cond.static Lib.Math.min.name, Cond.initialized "java/lang/Math", Cond.code Lib.Math.min.name Lib.Math.min.code 2 (some .int), Cond.methodLink RX11 185 yX4_enter, Cond.instanceMethod yX4_enter, Cond.selects RX4 yX4_enter yX4_enter, Cond.initialized RX4, Cond.code yX4_enter cX4_enter 5 none, Cond.fieldLink RX4 18 "HallTables$Stand" "minutes" "[I", Cond.fieldLink RX4 9 "HallTables$Stand" "at" "[I", Cond.fieldLink RX4 15 "HallTables$Stand" "hand" "[I"]
def wsX11_go_r4 : List Cond := [Cond.fieldLink RX4 21 "HallTables$Stand" "loss" "[I", Cond.fieldLink RX4 24 "HallTables$Stand" "table" "[I", Cond.methodLink RX4 51 yX7_minutesTo, Cond.methodLink RX4 55 yX7_oneOf, Cond.static yX7_oneOf, Cond.code yX7_oneOf cX7_oneOf 1 (some .int), Cond.methodLink RX4 59 yX7_worthAt, Cond.methodLink RX4 62 yX7_cell, Cond.static yX7_cell, Cond.code yX7_cell cX7_cell 2 (some .int)]
def wsX11_go : List Cond := .code yX11_go cX11_go 7 (some .int) :: ((wsX11_go_r1 ++ (wsX11_go_r2 ++ (wsX11_go_r3 ++ wsX11_go_r4))) ++ wsX110 ++ wsX40 ++ wsX70 ++ wsX80)
def wsX11_buy_r1 : List Cond := [Cond.fieldLink RX11 77 "HallTables" "town" "LHallTables$Town;", Cond.fieldLink RX11 24 "HallTables" "now" "LHallTables$Stand;", Cond.fieldLink RX11 155 "HallTables$Stand" "at" "[I", Cond.fieldLink RX11 161 "HallTables$Stand" "hand" "[I", Cond.fieldLink RX11 35 "HallTables" "track" "LHallTables$Track;", Cond.fieldLink RX11 168 "HallTables$Stand" "minutes" "[I", Cond.methodLink RX11 152 yX7_isMan, Cond.instanceMethod yX7_isMan, Cond.selects RX7 yX7_isMan yX7_isMan, Cond.initialized RX7, Cond.code yX7_isMan cX7_isMan 2 (some .boolean), Cond.fieldLink RX7 59 "HallTables$Town" "men" "I", Cond.methodLink RX11 136 yX7_isSort, Cond.instanceMethod yX7_isSort, Cond.selects RX7 yX7_isSort yX7_isSort, Cond.code yX7_isSort cX7_isSort 2 (some .boolean), Cond.fieldLink RX7 49 "HallTables$Town" "sorts" "I", Cond.methodLink RX11 189 yX7_isSold, Cond.instanceMethod yX7_isSold, Cond.selects RX7 yX7_isSold yX7_isSold, Cond.code yX7_isSold cX7_isSold 3 (some .boolean), Cond.fieldLink RX7 31 "HallTables$Town" "sells" "[I", Cond.methodLink RX11 174 yX7_inHand, Cond.static yX7_inHand]
def wsX11_buy_r2 : List Cond := [Cond.code yX7_inHand cX7_inHand 2 (some .int), Cond.methodLink RX11 181 yX8_note, Cond.instanceMethod yX8_note, Cond.selects RX8 yX8_note yX8_note, Cond.initialized RX8, Cond.code yX8_note cX8_note 5 none, Cond.fieldLink RX8 11 "HallTables$Track" "man" "[I", Cond.fieldLink RX8 28 "HallTables$Track" "next" "I", Cond.fieldLink RX8 15 "HallTables$Track" "from" "[I", Cond.fieldLink RX8 18 "HallTables$Track" "sort" "[I", Cond.fieldLink RX8 21 "HallTables$Track" "minutes" "[I", Cond.fieldLink RX8 24 "HallTables$Track" "count" "I", Cond.methodLink RX8 31 Lib.Math.min.name, Cond.static Lib.Math.min.name, Cond.initialized "java/lang/Math", Cond.code Lib.Math.min.name Lib.Math.min.code 2 (some .int), Cond.methodLink RX11 193 yX7_oneOf, Cond.static yX7_oneOf, Cond.code yX7_oneOf cX7_oneOf 1 (some .int)]
def wsX11_buy : List Cond := .code yX11_buy cX11_buy 3 (some .int) :: ((wsX11_buy_r1 ++ wsX11_buy_r2) ++ wsX110 ++ wsX40 ++ wsX70 ++ wsX80)
def wsX11_undo_r1 : List Cond := [Cond.fieldLink RX11 35 "HallTables" "track" "LHallTables$Track;", Cond.fieldLink RX11 24 "HallTables" "now" "LHallTables$Stand;", Cond.fieldLink RX11 77 "HallTables" "town" "LHallTables$Town;", Cond.methodLink RX11 196 yX8_takeLast, Cond.instanceMethod yX8_takeLast, Cond.selects RX8 yX8_takeLast yX8_takeLast, Cond.initialized RX8, Cond.code yX8_takeLast cX8_takeLast 1 (some .int), Cond.fieldLink RX8 24 "HallTables$Track" "count" "I", Cond.fieldLink RX8 28 "HallTables$Track" "next" "I", Cond.methodLink RX11 200 yX4_takeBack, Cond.instanceMethod yX4_takeBack, Cond.selects RX4 yX4_takeBack yX4_takeBack, Cond.initialized RX4, Cond.code yX4_takeBack cX4_takeBack 7 none, Cond.fieldLink RX4 65 "HallTables$Track" "man" "[I", Cond.fieldLink RX4 70 "HallTables$Track" "sort" "[I", Cond.fieldLink RX4 9 "HallTables$Stand" "at" "[I", Cond.fieldLink RX4 18 "HallTables$Stand" "minutes" "[I", Cond.fieldLink RX4 73 "HallTables$Track" "minutes" "[I", Cond.fieldLink RX4 74 "HallTables$Track" "from" "[I", Cond.fieldLink RX4 15 "HallTables$Stand" "hand" "[I", Cond.fieldLink RX4 21 "HallTables$Stand" "loss" "[I", Cond.fieldLink RX4 24 "HallTables$Stand" "table" "[I"]
def wsX11_undo_r2 : List Cond := [Cond.methodLink RX4 55 yX7_oneOf, Cond.static yX7_oneOf, Cond.initialized RX7, Cond.code yX7_oneOf cX7_oneOf 1 (some .int), Cond.methodLink RX4 59 yX7_worthAt, Cond.instanceMethod yX7_worthAt, Cond.selects RX7 yX7_worthAt yX7_worthAt, Cond.code yX7_worthAt cX7_worthAt 3 (some .int), Cond.fieldLink RX7 25 "HallTables$Town" "worth" "[I", Cond.methodLink RX4 62 yX7_cell, Cond.static yX7_cell, Cond.code yX7_cell cX7_cell 2 (some .int)]
def wsX11_undo : List Cond := .code yX11_undo cX11_undo 2 (some .boolean) :: ((wsX11_undo_r1 ++ wsX11_undo_r2) ++ wsX110 ++ wsX80 ++ wsX40 ++ wsX70)
def wsX11_isWay : List Cond := .code yX11_isWay cX11_isWay 5 (some .boolean) :: ([.fieldLink RX11 77 "HallTables" "town" "LHallTables$Town;", .methodLink RX11 152 yX7_isMan, .instanceMethod yX7_isMan, .selects RX7 yX7_isMan yX7_isMan, .initialized RX7, .code yX7_isMan cX7_isMan 2 (some .boolean), .fieldLink RX7 59 "HallTables$Town" "men" "I", .methodLink RX11 129 yX7_isHouse, .instanceMethod yX7_isHouse, .selects RX7 yX7_isHouse yX7_isHouse, .code yX7_isHouse cX7_isHouse 2 (some .boolean), .fieldLink RX7 53 "HallTables$Town" "houses" "I", .methodLink RX11 136 yX7_isSort, .instanceMethod yX7_isSort, .selects RX7 yX7_isSort yX7_isSort, .code yX7_isSort cX7_isSort 2 (some .boolean), .fieldLink RX7 49 "HallTables$Town" "sorts" "I", .methodLink RX11 221 yX10_isBy, .static yX10_isBy, .initialized RX10, .code yX10_isBy cX10_isBy 1 (some .boolean)] ++ wsX110 ++ wsX70)
def wsX11_way_r1 : List Cond := [Cond.fieldLink RX11 42 "HallTables" "ways" "LHallTables$Ways;", Cond.fieldLink RX11 77 "HallTables" "town" "LHallTables$Town;", Cond.fieldLink RX11 24 "HallTables" "now" "LHallTables$Stand;", Cond.fieldLink RX11 218 "HallTables$Ways" "sums" "[I", Cond.methodLink RX11 204 yX11_isWay, Cond.instanceMethod yX11_isWay, Cond.selects RX11 yX11_isWay yX11_isWay, Cond.initialized RX11, Cond.code yX11_isWay cX11_isWay 5 (some .boolean), Cond.methodLink RX11 152 yX7_isMan, Cond.instanceMethod yX7_isMan, Cond.selects RX7 yX7_isMan yX7_isMan, Cond.initialized RX7, Cond.code yX7_isMan cX7_isMan 2 (some .boolean), Cond.fieldLink RX7 59 "HallTables$Town" "men" "I", Cond.methodLink RX11 129 yX7_isHouse, Cond.instanceMethod yX7_isHouse, Cond.selects RX7 yX7_isHouse yX7_isHouse, Cond.code yX7_isHouse cX7_isHouse 2 (some .boolean), Cond.fieldLink RX7 53 "HallTables$Town" "houses" "I", Cond.methodLink RX11 136 yX7_isSort, Cond.instanceMethod yX7_isSort, Cond.selects RX7 yX7_isSort yX7_isSort, Cond.code yX7_isSort cX7_isSort 2 (some .boolean)]
def wsX11_way_r2 : List Cond := [Cond.fieldLink RX7 49 "HallTables$Town" "sorts" "I", Cond.methodLink RX11 221 yX10_isBy, Cond.static yX10_isBy, Cond.initialized RX10, Cond.code yX10_isBy cX10_isBy 1 (some .boolean), Cond.methodLink RX11 208 yX10_startWith, Cond.instanceMethod yX10_startWith, Cond.selects RX10 yX10_startWith yX10_startWith, Cond.code yX10_startWith cX10_startWith 5 none, Cond.fieldLink RX10 51 "HallTables$Stand" "at" "[I", Cond.fieldLink RX10 56 "HallTables$Stand" "hand" "[I", Cond.fieldLink RX10 47 "HallTables$Ways" "ready" "Z", Cond.fieldLink RX10 59 "HallTables$Ways" "start" "I", Cond.fieldLink RX10 63 "HallTables$Town" "home" "[I", Cond.fieldLink RX10 66 "HallTables$Ways" "home" "I", Cond.fieldLink RX10 21 "HallTables$Ways" "town" "LHallTables$Town;", Cond.methodLink RX11 212 yX10_find, Cond.instanceMethod yX10_find, Cond.selects RX10 yX10_find yX10_find, Cond.code yX10_find cX10_find 6 (some .boolean), Cond.fieldLink RX10 68 "HallTables$Ways" "by" "I", Cond.fieldLink RX10 71 "HallTables$Ways" "goal" "I", Cond.fieldLink RX10 74 "HallTables$Ways" "goalHouse" "I", Cond.fieldLink RX10 77 "HallTables$Ways" "goalSort" "I"]
def wsX11_way_r3 : List Cond := [Cond.fieldLink RX10 86 "HallTables$Ways" "best" "J", Cond.constantLong RX10 90 (-1), Cond.methodLink RX10 80 yX10_search, Cond.instanceMethod yX10_search, Cond.selects RX10 yX10_search yX10_search, Cond.code yX10_search cX10_search 3 none, Cond.fieldLink RX10 39 "HallTables$Ways" "key" "[J", Cond.fieldLink RX10 31 "HallTables$Ways" "heap" "LHallTables$Heap;", Cond.fieldLink RX10 98 "HallTables$Heap" "size" "I", Cond.fieldLink RX10 101 "HallTables$Ways" "settled" "I", Cond.fieldLink RX10 40 "HallTables$Ways" "order" "[I", Cond.methodLink RX10 92 yJ7_fill_d0a16, Cond.static yJ7_fill_d0a16, Cond.initialized RJ7, Cond.code yJ7_fill_d0a16 cJ7_fill_d0a16 5 none, Cond.methodLink RX10 104 yX10_reach, Cond.instanceMethod yX10_reach, Cond.selects RX10 yX10_reach yX10_reach, Cond.code yX10_reach cX10_reach 6 none, Cond.methodLink RX10 138 yX7_things, Cond.static yX7_things, Cond.code yX7_things cX7_things 1 (some .int), Cond.methodLink RX7 78 yJ6_bitCount_0f7a4, Cond.static yJ6_bitCount_0f7a4]
def wsX11_way_r4 : List Cond := [Cond.initialized RJ6, Cond.code yJ6_bitCount_0f7a4 cJ6_bitCount_0f7a4 1 (some .int), Cond.constant RJ6 265 (1431655765), Cond.constant RJ6 266 (858993459), Cond.constant RJ6 267 (252645135), Cond.methodLink RX10 142 yX2_add, Cond.instanceMethod yX2_add, Cond.selects RX2 yX2_add yX2_add, Cond.initialized RX2, Cond.code yX2_add cX2_add 2 none, Cond.fieldLink RX2 24 "HallTables$Heap" "size" "I", Cond.fieldLink RX2 17 "HallTables$Heap" "item" "[I", Cond.methodLink RX2 28 yX2_put, Cond.instanceMethod yX2_put, Cond.selects RX2 yX2_put yX2_put, Cond.code yX2_put cX2_put 3 none, Cond.fieldLink RX2 21 "HallTables$Heap" "spot" "[I", Cond.methodLink RX2 32 yX2_rise, Cond.instanceMethod yX2_rise, Cond.selects RX2 yX2_rise yX2_rise, Cond.code yX2_rise cX2_rise 5 none, Cond.fieldLink RX2 11 "HallTables$Heap" "key" "[J", Cond.methodLink RX10 145 yX2_rise, Cond.methodLink RX10 108 yX2_takeLeast]
def wsX11_way_r5 : List Cond := [Cond.instanceMethod yX2_takeLeast, Cond.selects RX2 yX2_takeLeast yX2_takeLeast, Cond.code yX2_takeLeast cX2_takeLeast 2 (some .int), Cond.methodLink RX2 36 yX2_sink, Cond.instanceMethod yX2_sink, Cond.selects RX2 yX2_sink yX2_sink, Cond.code yX2_sink cX2_sink 5 none, Cond.methodLink RX10 112 yX10_far, Cond.instanceMethod yX10_far, Cond.selects RX10 yX10_far yX10_far, Cond.code yX10_far cX10_far 2 (some .long), Cond.methodLink RX10 116 yX10_isGoal, Cond.instanceMethod yX10_isGoal, Cond.selects RX10 yX10_isGoal yX10_isGoal, Cond.code yX10_isGoal cX10_isGoal 4 (some .boolean), Cond.methodLink RX10 166 yX7_inHand, Cond.static yX7_inHand, Cond.code yX7_inHand cX7_inHand 2 (some .int), Cond.methodLink RX10 169 yX7_isSold, Cond.instanceMethod yX7_isSold, Cond.selects RX7 yX7_isSold yX7_isSold, Cond.code yX7_isSold cX7_isSold 3 (some .boolean), Cond.fieldLink RX7 31 "HallTables$Town" "sells" "[I", Cond.methodLink RX10 120 yX10_reachAround]
def wsX11_way_r6 : List Cond := [Cond.instanceMethod yX10_reachAround, Cond.selects RX10 yX10_reachAround yX10_reachAround, Cond.code yX10_reachAround cX10_reachAround 3 none, Cond.fieldLink RX10 127 "HallTables$Ways" "steps" "I", Cond.fieldLink RX10 25 "HallTables$Ways" "codes" "[I", Cond.methodLink RX10 124 yX10_lookAround, Cond.instanceMethod yX10_lookAround, Cond.selects RX10 yX10_lookAround yX10_lookAround, Cond.code yX10_lookAround cX10_lookAround 5 none, Cond.fieldLink RX10 173 "HallTables$Town" "houses" "I", Cond.fieldLink RX10 186 "HallTables$Town" "sells" "[I", Cond.methodLink RX10 176 yX7_minutesTo, Cond.instanceMethod yX7_minutesTo, Cond.selects RX7 yX7_minutesTo yX7_minutesTo, Cond.code yX7_minutesTo cX7_minutesTo 3 (some .int), Cond.fieldLink RX7 28 "HallTables$Town" "minutes" "[I", Cond.methodLink RX10 179 yX7_choices, Cond.instanceMethod yX7_choices, Cond.selects RX7 yX7_choices yX7_choices, Cond.code yX7_choices cX7_choices 5 (some .int), Cond.fieldLink RX7 65 "HallTables$Town" "law" "I", Cond.methodLink RX7 90 yX7_leftByLaw, Cond.instanceMethod yX7_leftByLaw, Cond.selects RX7 yX7_leftByLaw yX7_leftByLaw]
def wsX11_way_r7 : List Cond := [Cond.code yX7_leftByLaw cX7_leftByLaw 8 (some .int), Cond.methodLink RX7 87 yX7_worthAt, Cond.instanceMethod yX7_worthAt, Cond.selects RX7 yX7_worthAt yX7_worthAt, Cond.code yX7_worthAt cX7_worthAt 3 (some .int), Cond.fieldLink RX7 25 "HallTables$Town" "worth" "[I", Cond.methodLink RX7 84 yX7_inHand, Cond.methodLink RX10 182 yX10_addSteps, Cond.instanceMethod yX10_addSteps, Cond.selects RX10 yX10_addSteps yX10_addSteps, Cond.code yX10_addSteps cX10_addSteps 4 none, Cond.methodLink RX10 189 yX7_fullSorts, Cond.static yX7_fullSorts, Cond.code yX7_fullSorts cX7_fullSorts 3 (some .int), Cond.methodLink RX10 130 yX10_after, Cond.static yX10_after, Cond.code yX10_after cX10_after 3 (some .int), Cond.methodLink RX10 192 yX7_oneOf, Cond.static yX7_oneOf, Cond.code yX7_oneOf cX7_oneOf 1 (some .int), Cond.methodLink RX10 134 yX10_cost, Cond.instanceMethod yX10_cost, Cond.selects RX10 yX10_cost yX10_cost, Cond.code yX10_cost cX10_cost 3 (some .long)]
def wsX11_way_r8 : List Cond := [Cond.methodLink RX10 157 yX10_doors, Cond.static yX10_doors, Cond.code yX10_doors cX10_doors 1 (some .int), Cond.methodLink RX10 160 yX10_minutes, Cond.instanceMethod yX10_minutes, Cond.selects RX10 yX10_minutes yX10_minutes, Cond.code yX10_minutes cX10_minutes 3 (some .int), Cond.methodLink RX10 163 yX10_loss, Cond.instanceMethod yX10_loss, Cond.selects RX10 yX10_loss yX10_loss, Cond.code yX10_loss cX10_loss 2 (some .int), Cond.methodLink RX10 195 yX7_worthAt, Cond.methodLink RX10 83 yX10_markGood, Cond.instanceMethod yX10_markGood, Cond.selects RX10 yX10_markGood yX10_markGood, Cond.code yX10_markGood cX10_markGood 3 none, Cond.fieldLink RX10 43 "HallTables$Ways" "good" "[B", Cond.methodLink RX10 148 yJ7_fill_031fb, Cond.static yJ7_fill_031fb, Cond.code yJ7_fill_031fb cJ7_fill_031fb 4 none, Cond.methodLink RX10 151 yX10_firstGood, Cond.instanceMethod yX10_firstGood, Cond.selects RX10 yX10_firstGood yX10_firstGood, Cond.code yX10_firstGood cX10_firstGood 4 (some .int)]
def wsX11_way_r9 : List Cond := [Cond.methodLink RX11 215 yX10_follow, Cond.instanceMethod yX10_follow, Cond.selects RX10 yX10_follow yX10_follow, Cond.code yX10_follow cX10_follow 6 (some .int), Cond.fieldLink RX10 11 "HallTables$Ways" "sums" "[I", Cond.methodLink RX10 154 yJ7_fill_53178, Cond.static yJ7_fill_53178, Cond.code yJ7_fill_53178 cJ7_fill_53178 4 none]
def wsX11_way : List Cond := .code yX11_way cX11_way 6 (some .int) :: ((wsX11_way_r1 ++ (wsX11_way_r2 ++ (wsX11_way_r3 ++ (wsX11_way_r4 ++ (wsX11_way_r5 ++ (wsX11_way_r6 ++ (wsX11_way_r7 ++ (wsX11_way_r8 ++ wsX11_way_r9)))))))) ++ wsX110 ++ wsX100 ++ wsX70 ++ wsX40 ++ wsX20)
def wsX11_step_r1 : List Cond := [Cond.fieldLink RX11 42 "HallTables" "ways" "LHallTables$Ways;", Cond.fieldLink RX11 77 "HallTables" "town" "LHallTables$Town;", Cond.fieldLink RX11 24 "HallTables" "now" "LHallTables$Stand;", Cond.methodLink RX11 204 yX11_isWay, Cond.instanceMethod yX11_isWay, Cond.selects RX11 yX11_isWay yX11_isWay, Cond.initialized RX11, Cond.code yX11_isWay cX11_isWay 5 (some .boolean), Cond.methodLink RX11 152 yX7_isMan, Cond.instanceMethod yX7_isMan, Cond.selects RX7 yX7_isMan yX7_isMan, Cond.initialized RX7, Cond.code yX7_isMan cX7_isMan 2 (some .boolean), Cond.fieldLink RX7 59 "HallTables$Town" "men" "I", Cond.methodLink RX11 129 yX7_isHouse, Cond.instanceMethod yX7_isHouse, Cond.selects RX7 yX7_isHouse yX7_isHouse, Cond.code yX7_isHouse cX7_isHouse 2 (some .boolean), Cond.fieldLink RX7 53 "HallTables$Town" "houses" "I", Cond.methodLink RX11 136 yX7_isSort, Cond.instanceMethod yX7_isSort, Cond.selects RX7 yX7_isSort yX7_isSort, Cond.code yX7_isSort cX7_isSort 2 (some .boolean), Cond.fieldLink RX7 49 "HallTables$Town" "sorts" "I"]
def wsX11_step_r2 : List Cond := [Cond.methodLink RX11 221 yX10_isBy, Cond.static yX10_isBy, Cond.initialized RX10, Cond.code yX10_isBy cX10_isBy 1 (some .boolean), Cond.methodLink RX11 208 yX10_startWith, Cond.instanceMethod yX10_startWith, Cond.selects RX10 yX10_startWith yX10_startWith, Cond.code yX10_startWith cX10_startWith 5 none, Cond.fieldLink RX10 51 "HallTables$Stand" "at" "[I", Cond.fieldLink RX10 56 "HallTables$Stand" "hand" "[I", Cond.fieldLink RX10 47 "HallTables$Ways" "ready" "Z", Cond.fieldLink RX10 59 "HallTables$Ways" "start" "I", Cond.fieldLink RX10 63 "HallTables$Town" "home" "[I", Cond.fieldLink RX10 66 "HallTables$Ways" "home" "I", Cond.fieldLink RX10 21 "HallTables$Ways" "town" "LHallTables$Town;", Cond.methodLink RX11 212 yX10_find, Cond.instanceMethod yX10_find, Cond.selects RX10 yX10_find yX10_find, Cond.code yX10_find cX10_find 6 (some .boolean), Cond.fieldLink RX10 68 "HallTables$Ways" "by" "I", Cond.fieldLink RX10 71 "HallTables$Ways" "goal" "I", Cond.fieldLink RX10 74 "HallTables$Ways" "goalHouse" "I", Cond.fieldLink RX10 77 "HallTables$Ways" "goalSort" "I", Cond.fieldLink RX10 86 "HallTables$Ways" "best" "J"]
def wsX11_step_r3 : List Cond := [Cond.constantLong RX10 90 (-1), Cond.methodLink RX10 80 yX10_search, Cond.instanceMethod yX10_search, Cond.selects RX10 yX10_search yX10_search, Cond.code yX10_search cX10_search 3 none, Cond.fieldLink RX10 39 "HallTables$Ways" "key" "[J", Cond.fieldLink RX10 31 "HallTables$Ways" "heap" "LHallTables$Heap;", Cond.fieldLink RX10 98 "HallTables$Heap" "size" "I", Cond.fieldLink RX10 101 "HallTables$Ways" "settled" "I", Cond.fieldLink RX10 40 "HallTables$Ways" "order" "[I", Cond.methodLink RX10 92 yJ7_fill_d0a16, Cond.static yJ7_fill_d0a16, Cond.initialized RJ7, Cond.code yJ7_fill_d0a16 cJ7_fill_d0a16 5 none, Cond.methodLink RX10 104 yX10_reach, Cond.instanceMethod yX10_reach, Cond.selects RX10 yX10_reach yX10_reach, Cond.code yX10_reach cX10_reach 6 none, Cond.methodLink RX10 138 yX7_things, Cond.static yX7_things, Cond.code yX7_things cX7_things 1 (some .int), Cond.methodLink RX7 78 yJ6_bitCount_0f7a4, Cond.static yJ6_bitCount_0f7a4, Cond.initialized RJ6]
def wsX11_step_r4 : List Cond := [Cond.code yJ6_bitCount_0f7a4 cJ6_bitCount_0f7a4 1 (some .int), Cond.constant RJ6 265 (1431655765), Cond.constant RJ6 266 (858993459), Cond.constant RJ6 267 (252645135), Cond.methodLink RX10 142 yX2_add, Cond.instanceMethod yX2_add, Cond.selects RX2 yX2_add yX2_add, Cond.initialized RX2, Cond.code yX2_add cX2_add 2 none, Cond.fieldLink RX2 24 "HallTables$Heap" "size" "I", Cond.fieldLink RX2 17 "HallTables$Heap" "item" "[I", Cond.methodLink RX2 28 yX2_put, Cond.instanceMethod yX2_put, Cond.selects RX2 yX2_put yX2_put, Cond.code yX2_put cX2_put 3 none, Cond.fieldLink RX2 21 "HallTables$Heap" "spot" "[I", Cond.methodLink RX2 32 yX2_rise, Cond.instanceMethod yX2_rise, Cond.selects RX2 yX2_rise yX2_rise, Cond.code yX2_rise cX2_rise 5 none, Cond.fieldLink RX2 11 "HallTables$Heap" "key" "[J", Cond.methodLink RX10 145 yX2_rise, Cond.methodLink RX10 108 yX2_takeLeast, Cond.instanceMethod yX2_takeLeast]
def wsX11_step_r5 : List Cond := [Cond.selects RX2 yX2_takeLeast yX2_takeLeast, Cond.code yX2_takeLeast cX2_takeLeast 2 (some .int), Cond.methodLink RX2 36 yX2_sink, Cond.instanceMethod yX2_sink, Cond.selects RX2 yX2_sink yX2_sink, Cond.code yX2_sink cX2_sink 5 none, Cond.methodLink RX10 112 yX10_far, Cond.instanceMethod yX10_far, Cond.selects RX10 yX10_far yX10_far, Cond.code yX10_far cX10_far 2 (some .long), Cond.methodLink RX10 116 yX10_isGoal, Cond.instanceMethod yX10_isGoal, Cond.selects RX10 yX10_isGoal yX10_isGoal, Cond.code yX10_isGoal cX10_isGoal 4 (some .boolean), Cond.methodLink RX10 166 yX7_inHand, Cond.static yX7_inHand, Cond.code yX7_inHand cX7_inHand 2 (some .int), Cond.methodLink RX10 169 yX7_isSold, Cond.instanceMethod yX7_isSold, Cond.selects RX7 yX7_isSold yX7_isSold, Cond.code yX7_isSold cX7_isSold 3 (some .boolean), Cond.fieldLink RX7 31 "HallTables$Town" "sells" "[I", Cond.methodLink RX10 120 yX10_reachAround, Cond.instanceMethod yX10_reachAround]
def wsX11_step_r6 : List Cond := [Cond.selects RX10 yX10_reachAround yX10_reachAround, Cond.code yX10_reachAround cX10_reachAround 3 none, Cond.fieldLink RX10 127 "HallTables$Ways" "steps" "I", Cond.fieldLink RX10 25 "HallTables$Ways" "codes" "[I", Cond.methodLink RX10 124 yX10_lookAround, Cond.instanceMethod yX10_lookAround, Cond.selects RX10 yX10_lookAround yX10_lookAround, Cond.code yX10_lookAround cX10_lookAround 5 none, Cond.fieldLink RX10 173 "HallTables$Town" "houses" "I", Cond.fieldLink RX10 186 "HallTables$Town" "sells" "[I", Cond.methodLink RX10 176 yX7_minutesTo, Cond.instanceMethod yX7_minutesTo, Cond.selects RX7 yX7_minutesTo yX7_minutesTo, Cond.code yX7_minutesTo cX7_minutesTo 3 (some .int), Cond.fieldLink RX7 28 "HallTables$Town" "minutes" "[I", Cond.methodLink RX10 179 yX7_choices, Cond.instanceMethod yX7_choices, Cond.selects RX7 yX7_choices yX7_choices, Cond.code yX7_choices cX7_choices 5 (some .int), Cond.fieldLink RX7 65 "HallTables$Town" "law" "I", Cond.methodLink RX7 90 yX7_leftByLaw, Cond.instanceMethod yX7_leftByLaw, Cond.selects RX7 yX7_leftByLaw yX7_leftByLaw, Cond.code yX7_leftByLaw cX7_leftByLaw 8 (some .int)]
def wsX11_step_r7 : List Cond := [Cond.methodLink RX7 87 yX7_worthAt, Cond.instanceMethod yX7_worthAt, Cond.selects RX7 yX7_worthAt yX7_worthAt, Cond.code yX7_worthAt cX7_worthAt 3 (some .int), Cond.fieldLink RX7 25 "HallTables$Town" "worth" "[I", Cond.methodLink RX7 84 yX7_inHand, Cond.methodLink RX10 182 yX10_addSteps, Cond.instanceMethod yX10_addSteps, Cond.selects RX10 yX10_addSteps yX10_addSteps, Cond.code yX10_addSteps cX10_addSteps 4 none, Cond.methodLink RX10 189 yX7_fullSorts, Cond.static yX7_fullSorts, Cond.code yX7_fullSorts cX7_fullSorts 3 (some .int), Cond.methodLink RX10 130 yX10_after, Cond.static yX10_after, Cond.code yX10_after cX10_after 3 (some .int), Cond.methodLink RX10 192 yX7_oneOf, Cond.static yX7_oneOf, Cond.code yX7_oneOf cX7_oneOf 1 (some .int), Cond.methodLink RX10 134 yX10_cost, Cond.instanceMethod yX10_cost, Cond.selects RX10 yX10_cost yX10_cost, Cond.code yX10_cost cX10_cost 3 (some .long), Cond.methodLink RX10 157 yX10_doors]
def wsX11_step_r8 : List Cond := [Cond.static yX10_doors, Cond.code yX10_doors cX10_doors 1 (some .int), Cond.methodLink RX10 160 yX10_minutes, Cond.instanceMethod yX10_minutes, Cond.selects RX10 yX10_minutes yX10_minutes, Cond.code yX10_minutes cX10_minutes 3 (some .int), Cond.methodLink RX10 163 yX10_loss, Cond.instanceMethod yX10_loss, Cond.selects RX10 yX10_loss yX10_loss, Cond.code yX10_loss cX10_loss 2 (some .int), Cond.methodLink RX10 195 yX7_worthAt, Cond.methodLink RX10 83 yX10_markGood, Cond.instanceMethod yX10_markGood, Cond.selects RX10 yX10_markGood yX10_markGood, Cond.code yX10_markGood cX10_markGood 3 none, Cond.fieldLink RX10 43 "HallTables$Ways" "good" "[B", Cond.methodLink RX10 148 yJ7_fill_031fb, Cond.static yJ7_fill_031fb, Cond.code yJ7_fill_031fb cJ7_fill_031fb 4 none, Cond.methodLink RX10 151 yX10_firstGood, Cond.instanceMethod yX10_firstGood, Cond.selects RX10 yX10_firstGood yX10_firstGood, Cond.code yX10_firstGood cX10_firstGood 4 (some .int), Cond.methodLink RX11 215 yX10_follow]
def wsX11_step_r9 : List Cond := [Cond.instanceMethod yX10_follow, Cond.selects RX10 yX10_follow yX10_follow, Cond.code yX10_follow cX10_follow 6 (some .int), Cond.fieldLink RX10 11 "HallTables$Ways" "sums" "[I", Cond.methodLink RX10 154 yJ7_fill_53178, Cond.static yJ7_fill_53178, Cond.code yJ7_fill_53178 cJ7_fill_53178 4 none]
def wsX11_step : List Cond := .code yX11_step cX11_step 6 (some .int) :: ((wsX11_step_r1 ++ (wsX11_step_r2 ++ (wsX11_step_r3 ++ (wsX11_step_r4 ++ (wsX11_step_r5 ++ (wsX11_step_r6 ++ (wsX11_step_r7 ++ (wsX11_step_r8 ++ wsX11_step_r9)))))))) ++ wsX110 ++ wsX70 ++ wsX40 ++ wsX100 ++ wsX20)
def wsX11_rid_r1 : List Cond := [Cond.fieldLink RX11 77 "HallTables" "town" "LHallTables$Town;", Cond.fieldLink RX11 42 "HallTables" "ways" "LHallTables$Ways;", Cond.fieldLink RX11 24 "HallTables" "now" "LHallTables$Stand;", Cond.fieldLink RX11 218 "HallTables$Ways" "sums" "[I", Cond.methodLink RX11 152 yX7_isMan, Cond.instanceMethod yX7_isMan, Cond.selects RX7 yX7_isMan yX7_isMan, Cond.initialized RX7, Cond.code yX7_isMan cX7_isMan 2 (some .boolean), Cond.fieldLink RX7 59 "HallTables$Town" "men" "I", Cond.methodLink RX11 136 yX7_isSort, Cond.instanceMethod yX7_isSort, Cond.selects RX7 yX7_isSort yX7_isSort, Cond.code yX7_isSort cX7_isSort 2 (some .boolean), Cond.fieldLink RX7 49 "HallTables$Town" "sorts" "I", Cond.methodLink RX11 221 yX10_isBy, Cond.static yX10_isBy, Cond.initialized RX10, Cond.code yX10_isBy cX10_isBy 1 (some .boolean), Cond.methodLink RX11 208 yX10_startWith, Cond.instanceMethod yX10_startWith, Cond.selects RX10 yX10_startWith yX10_startWith, Cond.code yX10_startWith cX10_startWith 5 none, Cond.fieldLink RX10 51 "HallTables$Stand" "at" "[I"]
def wsX11_rid_r2 : List Cond := [Cond.fieldLink RX10 56 "HallTables$Stand" "hand" "[I", Cond.fieldLink RX10 47 "HallTables$Ways" "ready" "Z", Cond.fieldLink RX10 59 "HallTables$Ways" "start" "I", Cond.fieldLink RX10 63 "HallTables$Town" "home" "[I", Cond.fieldLink RX10 66 "HallTables$Ways" "home" "I", Cond.fieldLink RX10 21 "HallTables$Ways" "town" "LHallTables$Town;", Cond.methodLink RX11 212 yX10_find, Cond.instanceMethod yX10_find, Cond.selects RX10 yX10_find yX10_find, Cond.code yX10_find cX10_find 6 (some .boolean), Cond.fieldLink RX10 68 "HallTables$Ways" "by" "I", Cond.fieldLink RX10 71 "HallTables$Ways" "goal" "I", Cond.fieldLink RX10 74 "HallTables$Ways" "goalHouse" "I", Cond.fieldLink RX10 77 "HallTables$Ways" "goalSort" "I", Cond.fieldLink RX10 86 "HallTables$Ways" "best" "J", Cond.constantLong RX10 90 (-1), Cond.methodLink RX10 80 yX10_search, Cond.instanceMethod yX10_search, Cond.selects RX10 yX10_search yX10_search, Cond.code yX10_search cX10_search 3 none, Cond.fieldLink RX10 39 "HallTables$Ways" "key" "[J", Cond.fieldLink RX10 31 "HallTables$Ways" "heap" "LHallTables$Heap;", Cond.fieldLink RX10 98 "HallTables$Heap" "size" "I", Cond.fieldLink RX10 101 "HallTables$Ways" "settled" "I"]
def wsX11_rid_r3 : List Cond := [Cond.fieldLink RX10 40 "HallTables$Ways" "order" "[I", Cond.methodLink RX10 92 yJ7_fill_d0a16, Cond.static yJ7_fill_d0a16, Cond.initialized RJ7, Cond.code yJ7_fill_d0a16 cJ7_fill_d0a16 5 none, Cond.methodLink RX10 104 yX10_reach, Cond.instanceMethod yX10_reach, Cond.selects RX10 yX10_reach yX10_reach, Cond.code yX10_reach cX10_reach 6 none, Cond.methodLink RX10 138 yX7_things, Cond.static yX7_things, Cond.code yX7_things cX7_things 1 (some .int), Cond.methodLink RX7 78 yJ6_bitCount_0f7a4, Cond.static yJ6_bitCount_0f7a4, Cond.initialized RJ6, Cond.code yJ6_bitCount_0f7a4 cJ6_bitCount_0f7a4 1 (some .int), Cond.constant RJ6 265 (1431655765), Cond.constant RJ6 266 (858993459), Cond.constant RJ6 267 (252645135), Cond.methodLink RX10 142 yX2_add, Cond.instanceMethod yX2_add, Cond.selects RX2 yX2_add yX2_add, Cond.initialized RX2, Cond.code yX2_add cX2_add 2 none]
def wsX11_rid_r4 : List Cond := [Cond.fieldLink RX2 24 "HallTables$Heap" "size" "I", Cond.fieldLink RX2 17 "HallTables$Heap" "item" "[I", Cond.methodLink RX2 28 yX2_put, Cond.instanceMethod yX2_put, Cond.selects RX2 yX2_put yX2_put, Cond.code yX2_put cX2_put 3 none, Cond.fieldLink RX2 21 "HallTables$Heap" "spot" "[I", Cond.methodLink RX2 32 yX2_rise, Cond.instanceMethod yX2_rise, Cond.selects RX2 yX2_rise yX2_rise, Cond.code yX2_rise cX2_rise 5 none, Cond.fieldLink RX2 11 "HallTables$Heap" "key" "[J", Cond.methodLink RX10 145 yX2_rise, Cond.methodLink RX10 108 yX2_takeLeast, Cond.instanceMethod yX2_takeLeast, Cond.selects RX2 yX2_takeLeast yX2_takeLeast, Cond.code yX2_takeLeast cX2_takeLeast 2 (some .int), Cond.methodLink RX2 36 yX2_sink, Cond.instanceMethod yX2_sink, Cond.selects RX2 yX2_sink yX2_sink, Cond.code yX2_sink cX2_sink 5 none, Cond.methodLink RX10 112 yX10_far, Cond.instanceMethod yX10_far, Cond.selects RX10 yX10_far yX10_far]
def wsX11_rid_r5 : List Cond := [Cond.code yX10_far cX10_far 2 (some .long), Cond.methodLink RX10 116 yX10_isGoal, Cond.instanceMethod yX10_isGoal, Cond.selects RX10 yX10_isGoal yX10_isGoal, Cond.code yX10_isGoal cX10_isGoal 4 (some .boolean), Cond.methodLink RX10 166 yX7_inHand, Cond.static yX7_inHand, Cond.code yX7_inHand cX7_inHand 2 (some .int), Cond.methodLink RX10 169 yX7_isSold, Cond.instanceMethod yX7_isSold, Cond.selects RX7 yX7_isSold yX7_isSold, Cond.code yX7_isSold cX7_isSold 3 (some .boolean), Cond.fieldLink RX7 31 "HallTables$Town" "sells" "[I", Cond.methodLink RX10 120 yX10_reachAround, Cond.instanceMethod yX10_reachAround, Cond.selects RX10 yX10_reachAround yX10_reachAround, Cond.code yX10_reachAround cX10_reachAround 3 none, Cond.fieldLink RX10 127 "HallTables$Ways" "steps" "I", Cond.fieldLink RX10 25 "HallTables$Ways" "codes" "[I", Cond.methodLink RX10 124 yX10_lookAround, Cond.instanceMethod yX10_lookAround, Cond.selects RX10 yX10_lookAround yX10_lookAround, Cond.code yX10_lookAround cX10_lookAround 5 none, Cond.fieldLink RX10 173 "HallTables$Town" "houses" "I"]
def wsX11_rid_r6 : List Cond := [Cond.fieldLink RX10 186 "HallTables$Town" "sells" "[I", Cond.methodLink RX10 176 yX7_minutesTo, Cond.instanceMethod yX7_minutesTo, Cond.selects RX7 yX7_minutesTo yX7_minutesTo, Cond.code yX7_minutesTo cX7_minutesTo 3 (some .int), Cond.fieldLink RX7 28 "HallTables$Town" "minutes" "[I", Cond.methodLink RX10 179 yX7_choices, Cond.instanceMethod yX7_choices, Cond.selects RX7 yX7_choices yX7_choices, Cond.code yX7_choices cX7_choices 5 (some .int), Cond.fieldLink RX7 65 "HallTables$Town" "law" "I", Cond.methodLink RX7 90 yX7_leftByLaw, Cond.instanceMethod yX7_leftByLaw, Cond.selects RX7 yX7_leftByLaw yX7_leftByLaw, Cond.code yX7_leftByLaw cX7_leftByLaw 8 (some .int), Cond.methodLink RX7 87 yX7_worthAt, Cond.instanceMethod yX7_worthAt, Cond.selects RX7 yX7_worthAt yX7_worthAt, Cond.code yX7_worthAt cX7_worthAt 3 (some .int), Cond.fieldLink RX7 25 "HallTables$Town" "worth" "[I", Cond.methodLink RX7 84 yX7_inHand, Cond.methodLink RX10 182 yX10_addSteps, Cond.instanceMethod yX10_addSteps, Cond.selects RX10 yX10_addSteps yX10_addSteps]
def wsX11_rid_r7 : List Cond := [Cond.code yX10_addSteps cX10_addSteps 4 none, Cond.methodLink RX10 189 yX7_fullSorts, Cond.static yX7_fullSorts, Cond.code yX7_fullSorts cX7_fullSorts 3 (some .int), Cond.methodLink RX10 130 yX10_after, Cond.static yX10_after, Cond.code yX10_after cX10_after 3 (some .int), Cond.methodLink RX10 192 yX7_oneOf, Cond.static yX7_oneOf, Cond.code yX7_oneOf cX7_oneOf 1 (some .int), Cond.methodLink RX10 134 yX10_cost, Cond.instanceMethod yX10_cost, Cond.selects RX10 yX10_cost yX10_cost, Cond.code yX10_cost cX10_cost 3 (some .long), Cond.methodLink RX10 157 yX10_doors, Cond.static yX10_doors, Cond.code yX10_doors cX10_doors 1 (some .int), Cond.methodLink RX10 160 yX10_minutes, Cond.instanceMethod yX10_minutes, Cond.selects RX10 yX10_minutes yX10_minutes, Cond.code yX10_minutes cX10_minutes 3 (some .int), Cond.methodLink RX10 163 yX10_loss, Cond.instanceMethod yX10_loss, Cond.selects RX10 yX10_loss yX10_loss]
def wsX11_rid_r8 : List Cond := [Cond.code yX10_loss cX10_loss 2 (some .int), Cond.methodLink RX10 195 yX7_worthAt, Cond.methodLink RX10 83 yX10_markGood, Cond.instanceMethod yX10_markGood, Cond.selects RX10 yX10_markGood yX10_markGood, Cond.code yX10_markGood cX10_markGood 3 none, Cond.fieldLink RX10 43 "HallTables$Ways" "good" "[B", Cond.methodLink RX10 148 yJ7_fill_031fb, Cond.static yJ7_fill_031fb, Cond.code yJ7_fill_031fb cJ7_fill_031fb 4 none, Cond.methodLink RX10 151 yX10_firstGood, Cond.instanceMethod yX10_firstGood, Cond.selects RX10 yX10_firstGood yX10_firstGood, Cond.code yX10_firstGood cX10_firstGood 4 (some .int), Cond.methodLink RX11 215 yX10_follow, Cond.instanceMethod yX10_follow, Cond.selects RX10 yX10_follow yX10_follow, Cond.code yX10_follow cX10_follow 6 (some .int), Cond.fieldLink RX10 11 "HallTables$Ways" "sums" "[I", Cond.methodLink RX10 154 yJ7_fill_53178, Cond.static yJ7_fill_53178, Cond.code yJ7_fill_53178 cJ7_fill_53178 4 none]
def wsX11_rid : List Cond := .code yX11_rid cX11_rid 5 (some .int) :: ((wsX11_rid_r1 ++ (wsX11_rid_r2 ++ (wsX11_rid_r3 ++ (wsX11_rid_r4 ++ (wsX11_rid_r5 ++ (wsX11_rid_r6 ++ (wsX11_rid_r7 ++ wsX11_rid_r8))))))) ++ wsX110 ++ wsX100 ++ wsX70 ++ wsX40 ++ wsX20)
def wsX11_get_r1 : List Cond := [Cond.fieldLink RX11 77 "HallTables" "town" "LHallTables$Town;", Cond.fieldLink RX11 42 "HallTables" "ways" "LHallTables$Ways;", Cond.fieldLink RX11 24 "HallTables" "now" "LHallTables$Stand;", Cond.methodLink RX11 152 yX7_isMan, Cond.instanceMethod yX7_isMan, Cond.selects RX7 yX7_isMan yX7_isMan, Cond.initialized RX7, Cond.code yX7_isMan cX7_isMan 2 (some .boolean), Cond.fieldLink RX7 59 "HallTables$Town" "men" "I", Cond.methodLink RX11 136 yX7_isSort, Cond.instanceMethod yX7_isSort, Cond.selects RX7 yX7_isSort yX7_isSort, Cond.code yX7_isSort cX7_isSort 2 (some .boolean), Cond.fieldLink RX7 49 "HallTables$Town" "sorts" "I", Cond.methodLink RX11 208 yX10_startWith, Cond.instanceMethod yX10_startWith, Cond.selects RX10 yX10_startWith yX10_startWith, Cond.initialized RX10, Cond.code yX10_startWith cX10_startWith 5 none, Cond.fieldLink RX10 51 "HallTables$Stand" "at" "[I", Cond.fieldLink RX10 56 "HallTables$Stand" "hand" "[I", Cond.fieldLink RX10 47 "HallTables$Ways" "ready" "Z", Cond.fieldLink RX10 59 "HallTables$Ways" "start" "I", Cond.fieldLink RX10 63 "HallTables$Town" "home" "[I"]
def wsX11_get_r2 : List Cond := [Cond.fieldLink RX10 66 "HallTables$Ways" "home" "I", Cond.fieldLink RX10 21 "HallTables$Ways" "town" "LHallTables$Town;", Cond.methodLink RX11 212 yX10_find, Cond.instanceMethod yX10_find, Cond.selects RX10 yX10_find yX10_find, Cond.code yX10_find cX10_find 6 (some .boolean), Cond.fieldLink RX10 68 "HallTables$Ways" "by" "I", Cond.fieldLink RX10 71 "HallTables$Ways" "goal" "I", Cond.fieldLink RX10 74 "HallTables$Ways" "goalHouse" "I", Cond.fieldLink RX10 77 "HallTables$Ways" "goalSort" "I", Cond.fieldLink RX10 86 "HallTables$Ways" "best" "J", Cond.constantLong RX10 90 (-1), Cond.methodLink RX10 80 yX10_search, Cond.instanceMethod yX10_search, Cond.selects RX10 yX10_search yX10_search, Cond.code yX10_search cX10_search 3 none, Cond.fieldLink RX10 39 "HallTables$Ways" "key" "[J", Cond.fieldLink RX10 31 "HallTables$Ways" "heap" "LHallTables$Heap;", Cond.fieldLink RX10 98 "HallTables$Heap" "size" "I", Cond.fieldLink RX10 101 "HallTables$Ways" "settled" "I", Cond.fieldLink RX10 40 "HallTables$Ways" "order" "[I", Cond.methodLink RX10 92 yJ7_fill_d0a16, Cond.static yJ7_fill_d0a16, Cond.initialized RJ7]
def wsX11_get_r3 : List Cond := [Cond.code yJ7_fill_d0a16 cJ7_fill_d0a16 5 none, Cond.methodLink RX10 104 yX10_reach, Cond.instanceMethod yX10_reach, Cond.selects RX10 yX10_reach yX10_reach, Cond.code yX10_reach cX10_reach 6 none, Cond.methodLink RX10 138 yX7_things, Cond.static yX7_things, Cond.code yX7_things cX7_things 1 (some .int), Cond.methodLink RX7 78 yJ6_bitCount_0f7a4, Cond.static yJ6_bitCount_0f7a4, Cond.initialized RJ6, Cond.code yJ6_bitCount_0f7a4 cJ6_bitCount_0f7a4 1 (some .int), Cond.constant RJ6 265 (1431655765), Cond.constant RJ6 266 (858993459), Cond.constant RJ6 267 (252645135), Cond.methodLink RX10 142 yX2_add, Cond.instanceMethod yX2_add, Cond.selects RX2 yX2_add yX2_add, Cond.initialized RX2, Cond.code yX2_add cX2_add 2 none, Cond.fieldLink RX2 24 "HallTables$Heap" "size" "I", Cond.fieldLink RX2 17 "HallTables$Heap" "item" "[I", Cond.methodLink RX2 28 yX2_put, Cond.instanceMethod yX2_put]
def wsX11_get_r4 : List Cond := [Cond.selects RX2 yX2_put yX2_put, Cond.code yX2_put cX2_put 3 none, Cond.fieldLink RX2 21 "HallTables$Heap" "spot" "[I", Cond.methodLink RX2 32 yX2_rise, Cond.instanceMethod yX2_rise, Cond.selects RX2 yX2_rise yX2_rise, Cond.code yX2_rise cX2_rise 5 none, Cond.fieldLink RX2 11 "HallTables$Heap" "key" "[J", Cond.methodLink RX10 145 yX2_rise, Cond.methodLink RX10 108 yX2_takeLeast, Cond.instanceMethod yX2_takeLeast, Cond.selects RX2 yX2_takeLeast yX2_takeLeast, Cond.code yX2_takeLeast cX2_takeLeast 2 (some .int), Cond.methodLink RX2 36 yX2_sink, Cond.instanceMethod yX2_sink, Cond.selects RX2 yX2_sink yX2_sink, Cond.code yX2_sink cX2_sink 5 none, Cond.methodLink RX10 112 yX10_far, Cond.instanceMethod yX10_far, Cond.selects RX10 yX10_far yX10_far, Cond.code yX10_far cX10_far 2 (some .long), Cond.methodLink RX10 116 yX10_isGoal, Cond.instanceMethod yX10_isGoal, Cond.selects RX10 yX10_isGoal yX10_isGoal]
def wsX11_get_r5 : List Cond := [Cond.code yX10_isGoal cX10_isGoal 4 (some .boolean), Cond.methodLink RX10 166 yX7_inHand, Cond.static yX7_inHand, Cond.code yX7_inHand cX7_inHand 2 (some .int), Cond.methodLink RX10 169 yX7_isSold, Cond.instanceMethod yX7_isSold, Cond.selects RX7 yX7_isSold yX7_isSold, Cond.code yX7_isSold cX7_isSold 3 (some .boolean), Cond.fieldLink RX7 31 "HallTables$Town" "sells" "[I", Cond.methodLink RX10 120 yX10_reachAround, Cond.instanceMethod yX10_reachAround, Cond.selects RX10 yX10_reachAround yX10_reachAround, Cond.code yX10_reachAround cX10_reachAround 3 none, Cond.fieldLink RX10 127 "HallTables$Ways" "steps" "I", Cond.fieldLink RX10 25 "HallTables$Ways" "codes" "[I", Cond.methodLink RX10 124 yX10_lookAround, Cond.instanceMethod yX10_lookAround, Cond.selects RX10 yX10_lookAround yX10_lookAround, Cond.code yX10_lookAround cX10_lookAround 5 none, Cond.fieldLink RX10 173 "HallTables$Town" "houses" "I", Cond.fieldLink RX10 186 "HallTables$Town" "sells" "[I", Cond.methodLink RX10 176 yX7_minutesTo, Cond.instanceMethod yX7_minutesTo, Cond.selects RX7 yX7_minutesTo yX7_minutesTo]
def wsX11_get_r6 : List Cond := [Cond.code yX7_minutesTo cX7_minutesTo 3 (some .int), Cond.fieldLink RX7 28 "HallTables$Town" "minutes" "[I", Cond.methodLink RX10 179 yX7_choices, Cond.instanceMethod yX7_choices, Cond.selects RX7 yX7_choices yX7_choices, Cond.code yX7_choices cX7_choices 5 (some .int), Cond.fieldLink RX7 65 "HallTables$Town" "law" "I", Cond.methodLink RX7 90 yX7_leftByLaw, Cond.instanceMethod yX7_leftByLaw, Cond.selects RX7 yX7_leftByLaw yX7_leftByLaw, Cond.code yX7_leftByLaw cX7_leftByLaw 8 (some .int), Cond.methodLink RX7 87 yX7_worthAt, Cond.instanceMethod yX7_worthAt, Cond.selects RX7 yX7_worthAt yX7_worthAt, Cond.code yX7_worthAt cX7_worthAt 3 (some .int), Cond.fieldLink RX7 25 "HallTables$Town" "worth" "[I", Cond.methodLink RX7 84 yX7_inHand, Cond.methodLink RX10 182 yX10_addSteps, Cond.instanceMethod yX10_addSteps, Cond.selects RX10 yX10_addSteps yX10_addSteps, Cond.code yX10_addSteps cX10_addSteps 4 none, Cond.methodLink RX10 189 yX7_fullSorts, Cond.static yX7_fullSorts, Cond.code yX7_fullSorts cX7_fullSorts 3 (some .int)]
def wsX11_get_r7 : List Cond := [Cond.methodLink RX10 130 yX10_after, Cond.static yX10_after, Cond.code yX10_after cX10_after 3 (some .int), Cond.methodLink RX10 192 yX7_oneOf, Cond.static yX7_oneOf, Cond.code yX7_oneOf cX7_oneOf 1 (some .int), Cond.methodLink RX10 134 yX10_cost, Cond.instanceMethod yX10_cost, Cond.selects RX10 yX10_cost yX10_cost, Cond.code yX10_cost cX10_cost 3 (some .long), Cond.methodLink RX10 157 yX10_doors, Cond.static yX10_doors, Cond.code yX10_doors cX10_doors 1 (some .int), Cond.methodLink RX10 160 yX10_minutes, Cond.instanceMethod yX10_minutes, Cond.selects RX10 yX10_minutes yX10_minutes, Cond.code yX10_minutes cX10_minutes 3 (some .int), Cond.methodLink RX10 163 yX10_loss, Cond.instanceMethod yX10_loss, Cond.selects RX10 yX10_loss yX10_loss, Cond.code yX10_loss cX10_loss 2 (some .int), Cond.methodLink RX10 195 yX7_worthAt, Cond.methodLink RX10 83 yX10_markGood, Cond.instanceMethod yX10_markGood]
def wsX11_get_r8 : List Cond := [Cond.selects RX10 yX10_markGood yX10_markGood, Cond.code yX10_markGood cX10_markGood 3 none, Cond.fieldLink RX10 43 "HallTables$Ways" "good" "[B", Cond.methodLink RX10 148 yJ7_fill_031fb, Cond.static yJ7_fill_031fb, Cond.code yJ7_fill_031fb cJ7_fill_031fb 4 none, Cond.methodLink RX10 151 yX10_firstGood, Cond.instanceMethod yX10_firstGood, Cond.selects RX10 yX10_firstGood yX10_firstGood, Cond.code yX10_firstGood cX10_firstGood 4 (some .int), Cond.methodLink RX11 224 yX10_least, Cond.instanceMethod yX10_least, Cond.selects RX10 yX10_least yX10_least, Cond.code yX10_least cX10_least 1 (some .int)]
def wsX11_get : List Cond := .code yX11_get cX11_get 3 (some .int) :: ((wsX11_get_r1 ++ (wsX11_get_r2 ++ (wsX11_get_r3 ++ (wsX11_get_r4 ++ (wsX11_get_r5 ++ (wsX11_get_r6 ++ (wsX11_get_r7 ++ wsX11_get_r8))))))) ++ wsX110 ++ wsX70 ++ wsX40 ++ wsX100 ++ wsX20)
def wsX11_inReach_r1 : List Cond := [Cond.fieldLink RX11 77 "HallTables" "town" "LHallTables$Town;", Cond.fieldLink RX11 42 "HallTables" "ways" "LHallTables$Ways;", Cond.fieldLink RX11 24 "HallTables" "now" "LHallTables$Stand;", Cond.methodLink RX11 152 yX7_isMan, Cond.instanceMethod yX7_isMan, Cond.selects RX7 yX7_isMan yX7_isMan, Cond.initialized RX7, Cond.code yX7_isMan cX7_isMan 2 (some .boolean), Cond.fieldLink RX7 59 "HallTables$Town" "men" "I", Cond.methodLink RX11 208 yX10_startWith, Cond.instanceMethod yX10_startWith, Cond.selects RX10 yX10_startWith yX10_startWith, Cond.initialized RX10, Cond.code yX10_startWith cX10_startWith 5 none, Cond.fieldLink RX10 51 "HallTables$Stand" "at" "[I", Cond.fieldLink RX10 56 "HallTables$Stand" "hand" "[I", Cond.fieldLink RX10 47 "HallTables$Ways" "ready" "Z", Cond.fieldLink RX10 59 "HallTables$Ways" "start" "I", Cond.fieldLink RX10 63 "HallTables$Town" "home" "[I", Cond.fieldLink RX10 66 "HallTables$Ways" "home" "I", Cond.fieldLink RX10 21 "HallTables$Ways" "town" "LHallTables$Town;", Cond.methodLink RX11 212 yX10_find, Cond.instanceMethod yX10_find, Cond.selects RX10 yX10_find yX10_find]
def wsX11_inReach_r2 : List Cond := [Cond.code yX10_find cX10_find 6 (some .boolean), Cond.fieldLink RX10 68 "HallTables$Ways" "by" "I", Cond.fieldLink RX10 71 "HallTables$Ways" "goal" "I", Cond.fieldLink RX10 74 "HallTables$Ways" "goalHouse" "I", Cond.fieldLink RX10 77 "HallTables$Ways" "goalSort" "I", Cond.fieldLink RX10 86 "HallTables$Ways" "best" "J", Cond.constantLong RX10 90 (-1), Cond.methodLink RX10 80 yX10_search, Cond.instanceMethod yX10_search, Cond.selects RX10 yX10_search yX10_search, Cond.code yX10_search cX10_search 3 none, Cond.fieldLink RX10 39 "HallTables$Ways" "key" "[J", Cond.fieldLink RX10 31 "HallTables$Ways" "heap" "LHallTables$Heap;", Cond.fieldLink RX10 98 "HallTables$Heap" "size" "I", Cond.fieldLink RX10 101 "HallTables$Ways" "settled" "I", Cond.fieldLink RX10 40 "HallTables$Ways" "order" "[I", Cond.methodLink RX10 92 yJ7_fill_d0a16, Cond.static yJ7_fill_d0a16, Cond.initialized RJ7, Cond.code yJ7_fill_d0a16 cJ7_fill_d0a16 5 none, Cond.methodLink RX10 104 yX10_reach, Cond.instanceMethod yX10_reach, Cond.selects RX10 yX10_reach yX10_reach, Cond.code yX10_reach cX10_reach 6 none]
def wsX11_inReach_r3 : List Cond := [Cond.methodLink RX10 138 yX7_things, Cond.static yX7_things, Cond.code yX7_things cX7_things 1 (some .int), Cond.methodLink RX7 78 yJ6_bitCount_0f7a4, Cond.static yJ6_bitCount_0f7a4, Cond.initialized RJ6, Cond.code yJ6_bitCount_0f7a4 cJ6_bitCount_0f7a4 1 (some .int), Cond.constant RJ6 265 (1431655765), Cond.constant RJ6 266 (858993459), Cond.constant RJ6 267 (252645135), Cond.methodLink RX10 142 yX2_add, Cond.instanceMethod yX2_add, Cond.selects RX2 yX2_add yX2_add, Cond.initialized RX2, Cond.code yX2_add cX2_add 2 none, Cond.fieldLink RX2 24 "HallTables$Heap" "size" "I", Cond.fieldLink RX2 17 "HallTables$Heap" "item" "[I", Cond.methodLink RX2 28 yX2_put, Cond.instanceMethod yX2_put, Cond.selects RX2 yX2_put yX2_put, Cond.code yX2_put cX2_put 3 none, Cond.fieldLink RX2 21 "HallTables$Heap" "spot" "[I", Cond.methodLink RX2 32 yX2_rise, Cond.instanceMethod yX2_rise]
def wsX11_inReach_r4 : List Cond := [Cond.selects RX2 yX2_rise yX2_rise, Cond.code yX2_rise cX2_rise 5 none, Cond.fieldLink RX2 11 "HallTables$Heap" "key" "[J", Cond.methodLink RX10 145 yX2_rise, Cond.methodLink RX10 108 yX2_takeLeast, Cond.instanceMethod yX2_takeLeast, Cond.selects RX2 yX2_takeLeast yX2_takeLeast, Cond.code yX2_takeLeast cX2_takeLeast 2 (some .int), Cond.methodLink RX2 36 yX2_sink, Cond.instanceMethod yX2_sink, Cond.selects RX2 yX2_sink yX2_sink, Cond.code yX2_sink cX2_sink 5 none, Cond.methodLink RX10 112 yX10_far, Cond.instanceMethod yX10_far, Cond.selects RX10 yX10_far yX10_far, Cond.code yX10_far cX10_far 2 (some .long), Cond.methodLink RX10 116 yX10_isGoal, Cond.instanceMethod yX10_isGoal, Cond.selects RX10 yX10_isGoal yX10_isGoal, Cond.code yX10_isGoal cX10_isGoal 4 (some .boolean), Cond.methodLink RX10 166 yX7_inHand, Cond.static yX7_inHand, Cond.code yX7_inHand cX7_inHand 2 (some .int), Cond.methodLink RX10 169 yX7_isSold]
def wsX11_inReach_r5 : List Cond := [Cond.instanceMethod yX7_isSold, Cond.selects RX7 yX7_isSold yX7_isSold, Cond.code yX7_isSold cX7_isSold 3 (some .boolean), Cond.fieldLink RX7 31 "HallTables$Town" "sells" "[I", Cond.methodLink RX10 120 yX10_reachAround, Cond.instanceMethod yX10_reachAround, Cond.selects RX10 yX10_reachAround yX10_reachAround, Cond.code yX10_reachAround cX10_reachAround 3 none, Cond.fieldLink RX10 127 "HallTables$Ways" "steps" "I", Cond.fieldLink RX10 25 "HallTables$Ways" "codes" "[I", Cond.methodLink RX10 124 yX10_lookAround, Cond.instanceMethod yX10_lookAround, Cond.selects RX10 yX10_lookAround yX10_lookAround, Cond.code yX10_lookAround cX10_lookAround 5 none, Cond.fieldLink RX10 173 "HallTables$Town" "houses" "I", Cond.fieldLink RX10 186 "HallTables$Town" "sells" "[I", Cond.methodLink RX10 176 yX7_minutesTo, Cond.instanceMethod yX7_minutesTo, Cond.selects RX7 yX7_minutesTo yX7_minutesTo, Cond.code yX7_minutesTo cX7_minutesTo 3 (some .int), Cond.fieldLink RX7 28 "HallTables$Town" "minutes" "[I", Cond.methodLink RX10 179 yX7_choices, Cond.instanceMethod yX7_choices, Cond.selects RX7 yX7_choices yX7_choices]
def wsX11_inReach_r6 : List Cond := [Cond.code yX7_choices cX7_choices 5 (some .int), Cond.fieldLink RX7 65 "HallTables$Town" "law" "I", Cond.fieldLink RX7 49 "HallTables$Town" "sorts" "I", Cond.methodLink RX7 90 yX7_leftByLaw, Cond.instanceMethod yX7_leftByLaw, Cond.selects RX7 yX7_leftByLaw yX7_leftByLaw, Cond.code yX7_leftByLaw cX7_leftByLaw 8 (some .int), Cond.methodLink RX7 87 yX7_worthAt, Cond.instanceMethod yX7_worthAt, Cond.selects RX7 yX7_worthAt yX7_worthAt, Cond.code yX7_worthAt cX7_worthAt 3 (some .int), Cond.fieldLink RX7 25 "HallTables$Town" "worth" "[I", Cond.methodLink RX7 84 yX7_inHand, Cond.methodLink RX10 182 yX10_addSteps, Cond.instanceMethod yX10_addSteps, Cond.selects RX10 yX10_addSteps yX10_addSteps, Cond.code yX10_addSteps cX10_addSteps 4 none, Cond.methodLink RX10 189 yX7_fullSorts, Cond.static yX7_fullSorts, Cond.code yX7_fullSorts cX7_fullSorts 3 (some .int), Cond.methodLink RX10 130 yX10_after, Cond.static yX10_after, Cond.code yX10_after cX10_after 3 (some .int), Cond.methodLink RX10 192 yX7_oneOf]
def wsX11_inReach_r7 : List Cond := [Cond.static yX7_oneOf, Cond.code yX7_oneOf cX7_oneOf 1 (some .int), Cond.methodLink RX10 134 yX10_cost, Cond.instanceMethod yX10_cost, Cond.selects RX10 yX10_cost yX10_cost, Cond.code yX10_cost cX10_cost 3 (some .long), Cond.methodLink RX10 157 yX10_doors, Cond.static yX10_doors, Cond.code yX10_doors cX10_doors 1 (some .int), Cond.methodLink RX10 160 yX10_minutes, Cond.instanceMethod yX10_minutes, Cond.selects RX10 yX10_minutes yX10_minutes, Cond.code yX10_minutes cX10_minutes 3 (some .int), Cond.methodLink RX10 163 yX10_loss, Cond.instanceMethod yX10_loss, Cond.selects RX10 yX10_loss yX10_loss, Cond.code yX10_loss cX10_loss 2 (some .int), Cond.methodLink RX10 195 yX7_worthAt, Cond.methodLink RX10 83 yX10_markGood, Cond.instanceMethod yX10_markGood, Cond.selects RX10 yX10_markGood yX10_markGood, Cond.code yX10_markGood cX10_markGood 3 none, Cond.fieldLink RX10 43 "HallTables$Ways" "good" "[B", Cond.methodLink RX10 148 yJ7_fill_031fb]
def wsX11_inReach_r8 : List Cond := [Cond.static yJ7_fill_031fb, Cond.code yJ7_fill_031fb cJ7_fill_031fb 4 none, Cond.methodLink RX10 151 yX10_firstGood, Cond.instanceMethod yX10_firstGood, Cond.selects RX10 yX10_firstGood yX10_firstGood, Cond.code yX10_firstGood cX10_firstGood 4 (some .int), Cond.methodLink RX11 227 yX10_housesFound, Cond.instanceMethod yX10_housesFound, Cond.selects RX10 yX10_housesFound yX10_housesFound, Cond.code yX10_housesFound cX10_housesFound 3 (some .int)]
def wsX11_inReach : List Cond := .code yX11_inReach cX11_inReach 2 (some .int) :: ((wsX11_inReach_r1 ++ (wsX11_inReach_r2 ++ (wsX11_inReach_r3 ++ (wsX11_inReach_r4 ++ (wsX11_inReach_r5 ++ (wsX11_inReach_r6 ++ (wsX11_inReach_r7 ++ wsX11_inReach_r8))))))) ++ wsX110 ++ wsX70 ++ wsX40 ++ wsX100 ++ wsX20)
def wsX11_most_r1 : List Cond := [Cond.fieldLink RX11 77 "HallTables" "town" "LHallTables$Town;", Cond.fieldLink RX11 42 "HallTables" "ways" "LHallTables$Ways;", Cond.fieldLink RX11 24 "HallTables" "now" "LHallTables$Stand;", Cond.methodLink RX11 152 yX7_isMan, Cond.instanceMethod yX7_isMan, Cond.selects RX7 yX7_isMan yX7_isMan, Cond.initialized RX7, Cond.code yX7_isMan cX7_isMan 2 (some .boolean), Cond.fieldLink RX7 59 "HallTables$Town" "men" "I", Cond.methodLink RX11 129 yX7_isHouse, Cond.instanceMethod yX7_isHouse, Cond.selects RX7 yX7_isHouse yX7_isHouse, Cond.code yX7_isHouse cX7_isHouse 2 (some .boolean), Cond.fieldLink RX7 53 "HallTables$Town" "houses" "I", Cond.methodLink RX11 208 yX10_startWith, Cond.instanceMethod yX10_startWith, Cond.selects RX10 yX10_startWith yX10_startWith, Cond.initialized RX10, Cond.code yX10_startWith cX10_startWith 5 none, Cond.fieldLink RX10 51 "HallTables$Stand" "at" "[I", Cond.fieldLink RX10 56 "HallTables$Stand" "hand" "[I", Cond.fieldLink RX10 47 "HallTables$Ways" "ready" "Z", Cond.fieldLink RX10 59 "HallTables$Ways" "start" "I", Cond.fieldLink RX10 63 "HallTables$Town" "home" "[I"]
def wsX11_most_r2 : List Cond := [Cond.fieldLink RX10 66 "HallTables$Ways" "home" "I", Cond.fieldLink RX10 21 "HallTables$Ways" "town" "LHallTables$Town;", Cond.methodLink RX11 212 yX10_find, Cond.instanceMethod yX10_find, Cond.selects RX10 yX10_find yX10_find, Cond.code yX10_find cX10_find 6 (some .boolean), Cond.fieldLink RX10 68 "HallTables$Ways" "by" "I", Cond.fieldLink RX10 71 "HallTables$Ways" "goal" "I", Cond.fieldLink RX10 74 "HallTables$Ways" "goalHouse" "I", Cond.fieldLink RX10 77 "HallTables$Ways" "goalSort" "I", Cond.fieldLink RX10 86 "HallTables$Ways" "best" "J", Cond.constantLong RX10 90 (-1), Cond.methodLink RX10 80 yX10_search, Cond.instanceMethod yX10_search, Cond.selects RX10 yX10_search yX10_search, Cond.code yX10_search cX10_search 3 none, Cond.fieldLink RX10 39 "HallTables$Ways" "key" "[J", Cond.fieldLink RX10 31 "HallTables$Ways" "heap" "LHallTables$Heap;", Cond.fieldLink RX10 98 "HallTables$Heap" "size" "I", Cond.fieldLink RX10 101 "HallTables$Ways" "settled" "I", Cond.fieldLink RX10 40 "HallTables$Ways" "order" "[I", Cond.methodLink RX10 92 yJ7_fill_d0a16, Cond.static yJ7_fill_d0a16, Cond.initialized RJ7]
def wsX11_most_r3 : List Cond := [Cond.code yJ7_fill_d0a16 cJ7_fill_d0a16 5 none, Cond.methodLink RX10 104 yX10_reach, Cond.instanceMethod yX10_reach, Cond.selects RX10 yX10_reach yX10_reach, Cond.code yX10_reach cX10_reach 6 none, Cond.methodLink RX10 138 yX7_things, Cond.static yX7_things, Cond.code yX7_things cX7_things 1 (some .int), Cond.methodLink RX7 78 yJ6_bitCount_0f7a4, Cond.static yJ6_bitCount_0f7a4, Cond.initialized RJ6, Cond.code yJ6_bitCount_0f7a4 cJ6_bitCount_0f7a4 1 (some .int), Cond.constant RJ6 265 (1431655765), Cond.constant RJ6 266 (858993459), Cond.constant RJ6 267 (252645135), Cond.methodLink RX10 142 yX2_add, Cond.instanceMethod yX2_add, Cond.selects RX2 yX2_add yX2_add, Cond.initialized RX2, Cond.code yX2_add cX2_add 2 none, Cond.fieldLink RX2 24 "HallTables$Heap" "size" "I", Cond.fieldLink RX2 17 "HallTables$Heap" "item" "[I", Cond.methodLink RX2 28 yX2_put, Cond.instanceMethod yX2_put]
def wsX11_most_r4 : List Cond := [Cond.selects RX2 yX2_put yX2_put, Cond.code yX2_put cX2_put 3 none, Cond.fieldLink RX2 21 "HallTables$Heap" "spot" "[I", Cond.methodLink RX2 32 yX2_rise, Cond.instanceMethod yX2_rise, Cond.selects RX2 yX2_rise yX2_rise, Cond.code yX2_rise cX2_rise 5 none, Cond.fieldLink RX2 11 "HallTables$Heap" "key" "[J", Cond.methodLink RX10 145 yX2_rise, Cond.methodLink RX10 108 yX2_takeLeast, Cond.instanceMethod yX2_takeLeast, Cond.selects RX2 yX2_takeLeast yX2_takeLeast, Cond.code yX2_takeLeast cX2_takeLeast 2 (some .int), Cond.methodLink RX2 36 yX2_sink, Cond.instanceMethod yX2_sink, Cond.selects RX2 yX2_sink yX2_sink, Cond.code yX2_sink cX2_sink 5 none, Cond.methodLink RX10 112 yX10_far, Cond.instanceMethod yX10_far, Cond.selects RX10 yX10_far yX10_far, Cond.code yX10_far cX10_far 2 (some .long), Cond.methodLink RX10 116 yX10_isGoal, Cond.instanceMethod yX10_isGoal, Cond.selects RX10 yX10_isGoal yX10_isGoal]
def wsX11_most_r5 : List Cond := [Cond.code yX10_isGoal cX10_isGoal 4 (some .boolean), Cond.methodLink RX10 166 yX7_inHand, Cond.static yX7_inHand, Cond.code yX7_inHand cX7_inHand 2 (some .int), Cond.methodLink RX10 169 yX7_isSold, Cond.instanceMethod yX7_isSold, Cond.selects RX7 yX7_isSold yX7_isSold, Cond.code yX7_isSold cX7_isSold 3 (some .boolean), Cond.fieldLink RX7 31 "HallTables$Town" "sells" "[I", Cond.methodLink RX10 120 yX10_reachAround, Cond.instanceMethod yX10_reachAround, Cond.selects RX10 yX10_reachAround yX10_reachAround, Cond.code yX10_reachAround cX10_reachAround 3 none, Cond.fieldLink RX10 127 "HallTables$Ways" "steps" "I", Cond.fieldLink RX10 25 "HallTables$Ways" "codes" "[I", Cond.methodLink RX10 124 yX10_lookAround, Cond.instanceMethod yX10_lookAround, Cond.selects RX10 yX10_lookAround yX10_lookAround, Cond.code yX10_lookAround cX10_lookAround 5 none, Cond.fieldLink RX10 173 "HallTables$Town" "houses" "I", Cond.fieldLink RX10 186 "HallTables$Town" "sells" "[I", Cond.methodLink RX10 176 yX7_minutesTo, Cond.instanceMethod yX7_minutesTo, Cond.selects RX7 yX7_minutesTo yX7_minutesTo]
def wsX11_most_r6 : List Cond := [Cond.code yX7_minutesTo cX7_minutesTo 3 (some .int), Cond.fieldLink RX7 28 "HallTables$Town" "minutes" "[I", Cond.methodLink RX10 179 yX7_choices, Cond.instanceMethod yX7_choices, Cond.selects RX7 yX7_choices yX7_choices, Cond.code yX7_choices cX7_choices 5 (some .int), Cond.fieldLink RX7 65 "HallTables$Town" "law" "I", Cond.fieldLink RX7 49 "HallTables$Town" "sorts" "I", Cond.methodLink RX7 90 yX7_leftByLaw, Cond.instanceMethod yX7_leftByLaw, Cond.selects RX7 yX7_leftByLaw yX7_leftByLaw, Cond.code yX7_leftByLaw cX7_leftByLaw 8 (some .int), Cond.methodLink RX7 87 yX7_worthAt, Cond.instanceMethod yX7_worthAt, Cond.selects RX7 yX7_worthAt yX7_worthAt, Cond.code yX7_worthAt cX7_worthAt 3 (some .int), Cond.fieldLink RX7 25 "HallTables$Town" "worth" "[I", Cond.methodLink RX7 84 yX7_inHand, Cond.methodLink RX10 182 yX10_addSteps, Cond.instanceMethod yX10_addSteps, Cond.selects RX10 yX10_addSteps yX10_addSteps, Cond.code yX10_addSteps cX10_addSteps 4 none, Cond.methodLink RX10 189 yX7_fullSorts, Cond.static yX7_fullSorts]
def wsX11_most_r7 : List Cond := [Cond.code yX7_fullSorts cX7_fullSorts 3 (some .int), Cond.methodLink RX10 130 yX10_after, Cond.static yX10_after, Cond.code yX10_after cX10_after 3 (some .int), Cond.methodLink RX10 192 yX7_oneOf, Cond.static yX7_oneOf, Cond.code yX7_oneOf cX7_oneOf 1 (some .int), Cond.methodLink RX10 134 yX10_cost, Cond.instanceMethod yX10_cost, Cond.selects RX10 yX10_cost yX10_cost, Cond.code yX10_cost cX10_cost 3 (some .long), Cond.methodLink RX10 157 yX10_doors, Cond.static yX10_doors, Cond.code yX10_doors cX10_doors 1 (some .int), Cond.methodLink RX10 160 yX10_minutes, Cond.instanceMethod yX10_minutes, Cond.selects RX10 yX10_minutes yX10_minutes, Cond.code yX10_minutes cX10_minutes 3 (some .int), Cond.methodLink RX10 163 yX10_loss, Cond.instanceMethod yX10_loss, Cond.selects RX10 yX10_loss yX10_loss, Cond.code yX10_loss cX10_loss 2 (some .int), Cond.methodLink RX10 195 yX7_worthAt, Cond.methodLink RX10 83 yX10_markGood]
def wsX11_most_r8 : List Cond := [Cond.instanceMethod yX10_markGood, Cond.selects RX10 yX10_markGood yX10_markGood, Cond.code yX10_markGood cX10_markGood 3 none, Cond.fieldLink RX10 43 "HallTables$Ways" "good" "[B", Cond.methodLink RX10 148 yJ7_fill_031fb, Cond.static yJ7_fill_031fb, Cond.code yJ7_fill_031fb cJ7_fill_031fb 4 none, Cond.methodLink RX10 151 yX10_firstGood, Cond.instanceMethod yX10_firstGood, Cond.selects RX10 yX10_firstGood yX10_firstGood, Cond.code yX10_firstGood cX10_firstGood 4 (some .int), Cond.methodLink RX11 230 yX10_mostAt, Cond.instanceMethod yX10_mostAt, Cond.selects RX10 yX10_mostAt yX10_mostAt, Cond.code yX10_mostAt cX10_mostAt 4 (some .int), Cond.methodLink RX10 198 Lib.Math.max.name, Cond.static Lib.Math.max.name, Cond.initialized "java/lang/Math", Cond.code Lib.Math.max.name Lib.Math.max.code 2 (some .int)]
def wsX11_most : List Cond := .code yX11_most cX11_most 3 (some .int) :: ((wsX11_most_r1 ++ (wsX11_most_r2 ++ (wsX11_most_r3 ++ (wsX11_most_r4 ++ (wsX11_most_r5 ++ (wsX11_most_r6 ++ (wsX11_most_r7 ++ wsX11_most_r8))))))) ++ wsX110 ++ wsX70 ++ wsX40 ++ wsX100 ++ wsX20)
def wsX11_meet_r1 : List Cond := [Cond.fieldLink RX11 77 "HallTables" "town" "LHallTables$Town;", Cond.fieldLink RX11 42 "HallTables" "ways" "LHallTables$Ways;", Cond.fieldLink RX11 233 "HallTables$Ways" "together" "[I", Cond.fieldLink RX11 24 "HallTables" "now" "LHallTables$Stand;", Cond.fieldLink RX11 245 "HallTables$Town" "houses" "I", Cond.methodLink RX11 152 yX7_isMan, Cond.instanceMethod yX7_isMan, Cond.selects RX7 yX7_isMan yX7_isMan, Cond.initialized RX7, Cond.code yX7_isMan cX7_isMan 2 (some .boolean), Cond.fieldLink RX7 59 "HallTables$Town" "men" "I", Cond.methodLink RX11 236 yJ7_fill_53178, Cond.static yJ7_fill_53178, Cond.initialized RJ7, Cond.code yJ7_fill_53178 cJ7_fill_53178 4 none, Cond.methodLink RX11 208 yX10_startWith, Cond.instanceMethod yX10_startWith, Cond.selects RX10 yX10_startWith yX10_startWith, Cond.initialized RX10, Cond.code yX10_startWith cX10_startWith 5 none, Cond.fieldLink RX10 51 "HallTables$Stand" "at" "[I", Cond.fieldLink RX10 56 "HallTables$Stand" "hand" "[I", Cond.fieldLink RX10 47 "HallTables$Ways" "ready" "Z", Cond.fieldLink RX10 59 "HallTables$Ways" "start" "I"]
def wsX11_meet_r2 : List Cond := [Cond.fieldLink RX10 63 "HallTables$Town" "home" "[I", Cond.fieldLink RX10 66 "HallTables$Ways" "home" "I", Cond.fieldLink RX10 21 "HallTables$Ways" "town" "LHallTables$Town;", Cond.methodLink RX11 212 yX10_find, Cond.instanceMethod yX10_find, Cond.selects RX10 yX10_find yX10_find, Cond.code yX10_find cX10_find 6 (some .boolean), Cond.fieldLink RX10 68 "HallTables$Ways" "by" "I", Cond.fieldLink RX10 71 "HallTables$Ways" "goal" "I", Cond.fieldLink RX10 74 "HallTables$Ways" "goalHouse" "I", Cond.fieldLink RX10 77 "HallTables$Ways" "goalSort" "I", Cond.fieldLink RX10 86 "HallTables$Ways" "best" "J", Cond.constantLong RX10 90 (-1), Cond.methodLink RX10 80 yX10_search, Cond.instanceMethod yX10_search, Cond.selects RX10 yX10_search yX10_search, Cond.code yX10_search cX10_search 3 none, Cond.fieldLink RX10 39 "HallTables$Ways" "key" "[J", Cond.fieldLink RX10 31 "HallTables$Ways" "heap" "LHallTables$Heap;", Cond.fieldLink RX10 98 "HallTables$Heap" "size" "I", Cond.fieldLink RX10 101 "HallTables$Ways" "settled" "I", Cond.fieldLink RX10 40 "HallTables$Ways" "order" "[I", Cond.methodLink RX10 92 yJ7_fill_d0a16, Cond.static yJ7_fill_d0a16]
def wsX11_meet_r3 : List Cond := [Cond.code yJ7_fill_d0a16 cJ7_fill_d0a16 5 none, Cond.methodLink RX10 104 yX10_reach, Cond.instanceMethod yX10_reach, Cond.selects RX10 yX10_reach yX10_reach, Cond.code yX10_reach cX10_reach 6 none, Cond.methodLink RX10 138 yX7_things, Cond.static yX7_things, Cond.code yX7_things cX7_things 1 (some .int), Cond.methodLink RX7 78 yJ6_bitCount_0f7a4, Cond.static yJ6_bitCount_0f7a4, Cond.initialized RJ6, Cond.code yJ6_bitCount_0f7a4 cJ6_bitCount_0f7a4 1 (some .int), Cond.constant RJ6 265 (1431655765), Cond.constant RJ6 266 (858993459), Cond.constant RJ6 267 (252645135), Cond.methodLink RX10 142 yX2_add, Cond.instanceMethod yX2_add, Cond.selects RX2 yX2_add yX2_add, Cond.initialized RX2, Cond.code yX2_add cX2_add 2 none, Cond.fieldLink RX2 24 "HallTables$Heap" "size" "I", Cond.fieldLink RX2 17 "HallTables$Heap" "item" "[I", Cond.methodLink RX2 28 yX2_put, Cond.instanceMethod yX2_put]
def wsX11_meet_r4 : List Cond := [Cond.selects RX2 yX2_put yX2_put, Cond.code yX2_put cX2_put 3 none, Cond.fieldLink RX2 21 "HallTables$Heap" "spot" "[I", Cond.methodLink RX2 32 yX2_rise, Cond.instanceMethod yX2_rise, Cond.selects RX2 yX2_rise yX2_rise, Cond.code yX2_rise cX2_rise 5 none, Cond.fieldLink RX2 11 "HallTables$Heap" "key" "[J", Cond.methodLink RX10 145 yX2_rise, Cond.methodLink RX10 108 yX2_takeLeast, Cond.instanceMethod yX2_takeLeast, Cond.selects RX2 yX2_takeLeast yX2_takeLeast, Cond.code yX2_takeLeast cX2_takeLeast 2 (some .int), Cond.methodLink RX2 36 yX2_sink, Cond.instanceMethod yX2_sink, Cond.selects RX2 yX2_sink yX2_sink, Cond.code yX2_sink cX2_sink 5 none, Cond.methodLink RX10 112 yX10_far, Cond.instanceMethod yX10_far, Cond.selects RX10 yX10_far yX10_far, Cond.code yX10_far cX10_far 2 (some .long), Cond.methodLink RX10 116 yX10_isGoal, Cond.instanceMethod yX10_isGoal, Cond.selects RX10 yX10_isGoal yX10_isGoal]
def wsX11_meet_r5 : List Cond := [Cond.code yX10_isGoal cX10_isGoal 4 (some .boolean), Cond.methodLink RX10 166 yX7_inHand, Cond.static yX7_inHand, Cond.code yX7_inHand cX7_inHand 2 (some .int), Cond.methodLink RX10 169 yX7_isSold, Cond.instanceMethod yX7_isSold, Cond.selects RX7 yX7_isSold yX7_isSold, Cond.code yX7_isSold cX7_isSold 3 (some .boolean), Cond.fieldLink RX7 31 "HallTables$Town" "sells" "[I", Cond.methodLink RX10 120 yX10_reachAround, Cond.instanceMethod yX10_reachAround, Cond.selects RX10 yX10_reachAround yX10_reachAround, Cond.code yX10_reachAround cX10_reachAround 3 none, Cond.fieldLink RX10 127 "HallTables$Ways" "steps" "I", Cond.fieldLink RX10 25 "HallTables$Ways" "codes" "[I", Cond.methodLink RX10 124 yX10_lookAround, Cond.instanceMethod yX10_lookAround, Cond.selects RX10 yX10_lookAround yX10_lookAround, Cond.code yX10_lookAround cX10_lookAround 5 none, Cond.fieldLink RX10 173 "HallTables$Town" "houses" "I", Cond.fieldLink RX10 186 "HallTables$Town" "sells" "[I", Cond.methodLink RX10 176 yX7_minutesTo, Cond.instanceMethod yX7_minutesTo, Cond.selects RX7 yX7_minutesTo yX7_minutesTo]
def wsX11_meet_r6 : List Cond := [Cond.code yX7_minutesTo cX7_minutesTo 3 (some .int), Cond.fieldLink RX7 28 "HallTables$Town" "minutes" "[I", Cond.methodLink RX10 179 yX7_choices, Cond.instanceMethod yX7_choices, Cond.selects RX7 yX7_choices yX7_choices, Cond.code yX7_choices cX7_choices 5 (some .int), Cond.fieldLink RX7 65 "HallTables$Town" "law" "I", Cond.fieldLink RX7 49 "HallTables$Town" "sorts" "I", Cond.methodLink RX7 90 yX7_leftByLaw, Cond.instanceMethod yX7_leftByLaw, Cond.selects RX7 yX7_leftByLaw yX7_leftByLaw, Cond.code yX7_leftByLaw cX7_leftByLaw 8 (some .int), Cond.methodLink RX7 87 yX7_worthAt, Cond.instanceMethod yX7_worthAt, Cond.selects RX7 yX7_worthAt yX7_worthAt, Cond.code yX7_worthAt cX7_worthAt 3 (some .int), Cond.fieldLink RX7 25 "HallTables$Town" "worth" "[I", Cond.methodLink RX7 84 yX7_inHand, Cond.methodLink RX10 182 yX10_addSteps, Cond.instanceMethod yX10_addSteps, Cond.selects RX10 yX10_addSteps yX10_addSteps, Cond.code yX10_addSteps cX10_addSteps 4 none, Cond.methodLink RX10 189 yX7_fullSorts, Cond.static yX7_fullSorts]
def wsX11_meet_r7 : List Cond := [Cond.code yX7_fullSorts cX7_fullSorts 3 (some .int), Cond.methodLink RX10 130 yX10_after, Cond.static yX10_after, Cond.code yX10_after cX10_after 3 (some .int), Cond.methodLink RX10 192 yX7_oneOf, Cond.static yX7_oneOf, Cond.code yX7_oneOf cX7_oneOf 1 (some .int), Cond.methodLink RX10 134 yX10_cost, Cond.instanceMethod yX10_cost, Cond.selects RX10 yX10_cost yX10_cost, Cond.code yX10_cost cX10_cost 3 (some .long), Cond.methodLink RX10 157 yX10_doors, Cond.static yX10_doors, Cond.code yX10_doors cX10_doors 1 (some .int), Cond.methodLink RX10 160 yX10_minutes, Cond.instanceMethod yX10_minutes, Cond.selects RX10 yX10_minutes yX10_minutes, Cond.code yX10_minutes cX10_minutes 3 (some .int), Cond.methodLink RX10 163 yX10_loss, Cond.instanceMethod yX10_loss, Cond.selects RX10 yX10_loss yX10_loss, Cond.code yX10_loss cX10_loss 2 (some .int), Cond.methodLink RX10 195 yX7_worthAt, Cond.methodLink RX10 83 yX10_markGood]
def wsX11_meet_r8 : List Cond := [Cond.instanceMethod yX10_markGood, Cond.selects RX10 yX10_markGood yX10_markGood, Cond.code yX10_markGood cX10_markGood 3 none, Cond.fieldLink RX10 43 "HallTables$Ways" "good" "[B", Cond.methodLink RX10 148 yJ7_fill_031fb, Cond.static yJ7_fill_031fb, Cond.code yJ7_fill_031fb cJ7_fill_031fb 4 none, Cond.methodLink RX10 151 yX10_firstGood, Cond.instanceMethod yX10_firstGood, Cond.selects RX10 yX10_firstGood yX10_firstGood, Cond.code yX10_firstGood cX10_firstGood 4 (some .int), Cond.methodLink RX11 242 yX10_addMinutes, Cond.instanceMethod yX10_addMinutes, Cond.selects RX10 yX10_addMinutes yX10_addMinutes, Cond.code yX10_addMinutes cX10_addMinutes 4 none, Cond.fieldLink RX10 15 "HallTables$Ways" "together" "[I"]
def wsX11_meet : List Cond := .code yX11_meet cX11_meet 7 (some .int) :: ((wsX11_meet_r1 ++ (wsX11_meet_r2 ++ (wsX11_meet_r3 ++ (wsX11_meet_r4 ++ (wsX11_meet_r5 ++ (wsX11_meet_r6 ++ (wsX11_meet_r7 ++ wsX11_meet_r8))))))) ++ wsX110 ++ wsX100 ++ wsX70 ++ wsX40 ++ wsX20)
def wsX11_riches : List Cond := .code yX11_riches cX11_riches 6 (some .int) :: ([.fieldLink RX11 77 "HallTables" "town" "LHallTables$Town;", .fieldLink RX11 245 "HallTables$Town" "houses" "I", .methodLink RX11 129 yX7_isHouse, .instanceMethod yX7_isHouse, .selects RX7 yX7_isHouse yX7_isHouse, .initialized RX7, .code yX7_isHouse cX7_isHouse 2 (some .boolean), .fieldLink RX7 53 "HallTables$Town" "houses" "I", .methodLink RX11 248 yX11_richesAt, .instanceMethod yX11_richesAt, .selects RX11 yX11_richesAt yX11_richesAt, .initialized RX11, .code yX11_richesAt cX11_richesAt 4 (some .int), .fieldLink RX11 251 "HallTables$Town" "sorts" "I", .fieldLink RX11 24 "HallTables" "now" "LHallTables$Stand;", .fieldLink RX11 146 "HallTables$Stand" "table" "[I", .methodLink RX11 149 yX7_cell, .static yX7_cell, .code yX7_cell cX7_cell 2 (some .int), .methodLink RX11 143 yX7_worthAt, .instanceMethod yX7_worthAt, .selects RX7 yX7_worthAt yX7_worthAt, .code yX7_worthAt cX7_worthAt 3 (some .int), .fieldLink RX7 25 "HallTables$Town" "worth" "[I"] ++ wsX110 ++ wsX70 ++ wsX40)
def wsX11_round_r1 : List Cond := [Cond.fieldLink RX11 77 "HallTables" "town" "LHallTables$Town;", Cond.fieldLink RX11 245 "HallTables$Town" "houses" "I", Cond.fieldLink RX11 49 "HallTables" "rounds" "LHallTables$Rounds;", Cond.fieldLink RX11 24 "HallTables" "now" "LHallTables$Stand;", Cond.methodLink RX11 152 yX7_isMan, Cond.instanceMethod yX7_isMan, Cond.selects RX7 yX7_isMan yX7_isMan, Cond.initialized RX7, Cond.code yX7_isMan cX7_isMan 2 (some .boolean), Cond.fieldLink RX7 59 "HallTables$Town" "men" "I", Cond.methodLink RX11 254 yX3_fewest, Cond.instanceMethod yX3_fewest, Cond.selects RX3 yX3_fewest yX3_fewest, Cond.initialized RX3, Cond.code yX3_fewest cX3_fewest 9 (some .int), Cond.fieldLink RX3 21 "HallTables$Rounds" "town" "LHallTables$Town;", Cond.fieldLink RX3 25 "HallTables$Town" "home" "[I", Cond.fieldLink RX3 28 "HallTables$Rounds" "home" "I", Cond.fieldLink RX3 31 "HallTables$Rounds" "set" "I", Cond.constant RX3 34 (536870912), Cond.fieldLink RX3 35 "HallTables$Stand" "hand" "[I", Cond.fieldLink RX3 9 "HallTables$Rounds" "here" "[I", Cond.fieldLink RX3 50 "HallTables$Stand" "at" "[I", Cond.methodLink RX3 60 Lib.Math.min.name]
def wsX11_round_r2 : List Cond := [Cond.static Lib.Math.min.name, Cond.initialized "java/lang/Math", Cond.code Lib.Math.min.name Lib.Math.min.code 2 (some .int), Cond.fieldLink RX3 15 "HallTables$Rounds" "next" "[I", Cond.methodLink RX3 40 yX7_things, Cond.static yX7_things, Cond.code yX7_things cX7_things 1 (some .int), Cond.methodLink RX7 78 yJ6_bitCount_0f7a4, Cond.static yJ6_bitCount_0f7a4, Cond.initialized RJ6, Cond.code yJ6_bitCount_0f7a4 cJ6_bitCount_0f7a4 1 (some .int), Cond.constant RJ6 265 (1431655765), Cond.constant RJ6 266 (858993459), Cond.constant RJ6 267 (252645135), Cond.methodLink RX3 44 yJ7_fill_53178, Cond.static yJ7_fill_53178, Cond.initialized RJ7, Cond.code yJ7_fill_53178 cJ7_fill_53178 4 none, Cond.methodLink RX3 53 yX3_spot, Cond.instanceMethod yX3_spot, Cond.selects RX3 yX3_spot yX3_spot, Cond.code yX3_spot cX3_spot 3 (some .int), Cond.methodLink RX3 57 yX3_goHome, Cond.instanceMethod yX3_goHome]
def wsX11_round_r3 : List Cond := [Cond.selects RX3 yX3_goHome yX3_goHome, Cond.code yX3_goHome cX3_goHome 3 none, Cond.fieldLink RX3 68 "HallTables$Town" "houses" "I", Cond.methodLink RX3 71 yX3_isPart, Cond.instanceMethod yX3_isPart, Cond.selects RX3 yX3_isPart yX3_isPart, Cond.code yX3_isPart cX3_isPart 2 (some .boolean), Cond.methodLink RX3 75 yX3_pass, Cond.instanceMethod yX3_pass, Cond.selects RX3 yX3_pass yX3_pass, Cond.code yX3_pass cX3_pass 8 none, Cond.methodLink RX3 83 yX7_minutesTo, Cond.instanceMethod yX7_minutesTo, Cond.selects RX7 yX7_minutesTo yX7_minutesTo, Cond.code yX7_minutesTo cX7_minutesTo 3 (some .int), Cond.fieldLink RX7 28 "HallTables$Town" "minutes" "[I", Cond.methodLink RX3 65 yX3_goOn, Cond.instanceMethod yX3_goOn, Cond.selects RX3 yX3_goOn yX3_goOn, Cond.code yX3_goOn cX3_goOn 3 none, Cond.methodLink RX3 79 yX3_goOnFrom, Cond.instanceMethod yX3_goOnFrom, Cond.selects RX3 yX3_goOnFrom yX3_goOnFrom, Cond.code yX3_goOnFrom cX3_goOnFrom 4 none]
def wsX11_round : List Cond := .code yX11_round cX11_round 3 (some .int) :: ((wsX11_round_r1 ++ (wsX11_round_r2 ++ wsX11_round_r3)) ++ wsX110 ++ wsX70 ++ wsX30 ++ wsX40)
def wsX11_carried_r1 : List Cond := [Cond.fieldLink RX11 77 "HallTables" "town" "LHallTables$Town;", Cond.fieldLink RX11 56 "HallTables" "day" "LHallTables$Day;", Cond.methodLink RX11 136 yX7_isSort, Cond.instanceMethod yX7_isSort, Cond.selects RX7 yX7_isSort yX7_isSort, Cond.initialized RX7, Cond.code yX7_isSort cX7_isSort 2 (some .boolean), Cond.fieldLink RX7 49 "HallTables$Town" "sorts" "I", Cond.methodLink RX11 129 yX7_isHouse, Cond.instanceMethod yX7_isHouse, Cond.selects RX7 yX7_isHouse yX7_isHouse, Cond.code yX7_isHouse cX7_isHouse 2 (some .boolean), Cond.fieldLink RX7 53 "HallTables$Town" "houses" "I", Cond.methodLink RX11 258 yX1_prepare, Cond.instanceMethod yX1_prepare, Cond.selects RX1 yX1_prepare yX1_prepare, Cond.initialized RX1, Cond.code yX1_prepare cX1_prepare 5 none, Cond.fieldLink RX1 39 "HallTables$Town" "houses" "I", Cond.fieldLink RX1 45 "HallTables$Day" "houses" "I", Cond.fieldLink RX1 46 "HallTables$Town" "calls" "I", Cond.fieldLink RX1 49 "HallTables$Day" "calls" "I", Cond.fieldLink RX1 50 "HallTables$Day" "target" "I", Cond.fieldLink RX1 9 "HallTables$Day" "stock" "[I"]
def wsX11_carried_r2 : List Cond := [Cond.fieldLink RX1 53 "HallTables$Town" "table" "[I", Cond.fieldLink RX1 60 "HallTables$Town" "men" "I", Cond.fieldLink RX1 63 "HallTables$Town" "home" "[I", Cond.fieldLink RX1 66 "HallTables$Town" "hand" "[I", Cond.fieldLink RX1 18 "HallTables$Day" "from" "[I", Cond.fieldLink RX1 72 "HallTables$Town" "callMan" "[I", Cond.fieldLink RX1 21 "HallTables$Day" "to" "[I", Cond.fieldLink RX1 75 "HallTables$Town" "callHouse" "[I", Cond.methodLink RX1 56 yX7_cell, Cond.static yX7_cell, Cond.code yX7_cell cX7_cell 2 (some .int), Cond.methodLink RX1 69 yX7_inHand, Cond.static yX7_inHand, Cond.code yX7_inHand cX7_inHand 2 (some .int), Cond.methodLink RX11 262 yX1_flow, Cond.instanceMethod yX1_flow, Cond.selects RX1 yX1_flow yX1_flow, Cond.code yX1_flow cX1_flow 3 (some .int), Cond.fieldLink RX1 24 "HallTables$Day" "carries" "[I", Cond.fieldLink RX1 27 "HallTables$Day" "stay" "[I", Cond.fieldLink RX1 15 "HallTables$Day" "unsent" "[I", Cond.methodLink RX1 84 arraycopyName, Cond.native arraycopyName, Cond.static arraycopyName]
def wsX11_carried_r3 : List Cond := [Cond.initialized "java/lang/System", Cond.methodLink RX1 78 yJ7_fill_53178, Cond.static yJ7_fill_53178, Cond.initialized RJ7, Cond.code yJ7_fill_53178 cJ7_fill_53178 4 none, Cond.methodLink RX1 90 yX1_sendOne, Cond.instanceMethod yX1_sendOne, Cond.selects RX1 yX1_sendOne yX1_sendOne, Cond.code yX1_sendOne cX1_sendOne 3 (some .boolean), Cond.fieldLink RX1 33 "HallTables$Day" "cameFrom" "[I", Cond.methodLink RX1 94 yX1_spread, Cond.instanceMethod yX1_spread, Cond.selects RX1 yX1_spread yX1_spread, Cond.code yX1_spread cX1_spread 6 none, Cond.fieldLink RX1 101 "HallTables$Day" "queued" "I", Cond.fieldLink RX1 30 "HallTables$Day" "queue" "[I", Cond.methodLink RX1 104 yX1_reach, Cond.instanceMethod yX1_reach, Cond.selects RX1 yX1_reach yX1_reach, Cond.code yX1_reach cX1_reach 4 none, Cond.methodLink RX1 97 yX1_change, Cond.instanceMethod yX1_change, Cond.selects RX1 yX1_change yX1_change, Cond.code yX1_change cX1_change 5 none]
def wsX11_carried : List Cond := .code yX11_carried cX11_carried 3 (some .int) :: ((wsX11_carried_r1 ++ (wsX11_carried_r2 ++ wsX11_carried_r3)) ++ wsX110 ++ wsX70 ++ wsX10)
def wsX11_helps_r1 : List Cond := [Cond.fieldLink RX11 77 "HallTables" "town" "LHallTables$Town;", Cond.fieldLink RX11 56 "HallTables" "day" "LHallTables$Day;", Cond.methodLink RX11 136 yX7_isSort, Cond.instanceMethod yX7_isSort, Cond.selects RX7 yX7_isSort yX7_isSort, Cond.initialized RX7, Cond.code yX7_isSort cX7_isSort 2 (some .boolean), Cond.fieldLink RX7 49 "HallTables$Town" "sorts" "I", Cond.methodLink RX11 129 yX7_isHouse, Cond.instanceMethod yX7_isHouse, Cond.selects RX7 yX7_isHouse yX7_isHouse, Cond.code yX7_isHouse cX7_isHouse 2 (some .boolean), Cond.fieldLink RX7 53 "HallTables$Town" "houses" "I", Cond.methodLink RX11 258 yX1_prepare, Cond.instanceMethod yX1_prepare, Cond.selects RX1 yX1_prepare yX1_prepare, Cond.initialized RX1, Cond.code yX1_prepare cX1_prepare 5 none, Cond.fieldLink RX1 39 "HallTables$Town" "houses" "I", Cond.fieldLink RX1 45 "HallTables$Day" "houses" "I", Cond.fieldLink RX1 46 "HallTables$Town" "calls" "I", Cond.fieldLink RX1 49 "HallTables$Day" "calls" "I", Cond.fieldLink RX1 50 "HallTables$Day" "target" "I", Cond.fieldLink RX1 9 "HallTables$Day" "stock" "[I"]
def wsX11_helps_r2 : List Cond := [Cond.fieldLink RX1 53 "HallTables$Town" "table" "[I", Cond.fieldLink RX1 60 "HallTables$Town" "men" "I", Cond.fieldLink RX1 63 "HallTables$Town" "home" "[I", Cond.fieldLink RX1 66 "HallTables$Town" "hand" "[I", Cond.fieldLink RX1 18 "HallTables$Day" "from" "[I", Cond.fieldLink RX1 72 "HallTables$Town" "callMan" "[I", Cond.fieldLink RX1 21 "HallTables$Day" "to" "[I", Cond.fieldLink RX1 75 "HallTables$Town" "callHouse" "[I", Cond.methodLink RX1 56 yX7_cell, Cond.static yX7_cell, Cond.code yX7_cell cX7_cell 2 (some .int), Cond.methodLink RX1 69 yX7_inHand, Cond.static yX7_inHand, Cond.code yX7_inHand cX7_inHand 2 (some .int), Cond.methodLink RX11 265 yX1_help, Cond.instanceMethod yX1_help, Cond.selects RX1 yX1_help yX1_help, Cond.code yX1_help cX1_help 7 (some .int), Cond.methodLink RX1 108 yX1_flow, Cond.instanceMethod yX1_flow, Cond.selects RX1 yX1_flow yX1_flow, Cond.code yX1_flow cX1_flow 3 (some .int), Cond.fieldLink RX1 24 "HallTables$Day" "carries" "[I", Cond.fieldLink RX1 27 "HallTables$Day" "stay" "[I"]
def wsX11_helps_r3 : List Cond := [Cond.fieldLink RX1 15 "HallTables$Day" "unsent" "[I", Cond.methodLink RX1 84 arraycopyName, Cond.native arraycopyName, Cond.static arraycopyName, Cond.initialized "java/lang/System", Cond.methodLink RX1 78 yJ7_fill_53178, Cond.static yJ7_fill_53178, Cond.initialized RJ7, Cond.code yJ7_fill_53178 cJ7_fill_53178 4 none, Cond.methodLink RX1 90 yX1_sendOne, Cond.instanceMethod yX1_sendOne, Cond.selects RX1 yX1_sendOne yX1_sendOne, Cond.code yX1_sendOne cX1_sendOne 3 (some .boolean), Cond.fieldLink RX1 33 "HallTables$Day" "cameFrom" "[I", Cond.methodLink RX1 94 yX1_spread, Cond.instanceMethod yX1_spread, Cond.selects RX1 yX1_spread yX1_spread, Cond.code yX1_spread cX1_spread 6 none, Cond.fieldLink RX1 101 "HallTables$Day" "queued" "I", Cond.fieldLink RX1 30 "HallTables$Day" "queue" "[I", Cond.methodLink RX1 104 yX1_reach, Cond.instanceMethod yX1_reach, Cond.selects RX1 yX1_reach yX1_reach, Cond.code yX1_reach cX1_reach 4 none]
def wsX11_helps_r4 : List Cond := [Cond.methodLink RX1 97 yX1_change, Cond.instanceMethod yX1_change, Cond.selects RX1 yX1_change yX1_change, Cond.code yX1_change cX1_change 5 none, Cond.methodLink RX1 112 yX1_spreadBack, Cond.instanceMethod yX1_spreadBack, Cond.selects RX1 yX1_spreadBack yX1_spreadBack, Cond.code yX1_spreadBack cX1_spreadBack 5 none, Cond.fieldLink RX1 36 "HallTables$Day" "leadsOn" "[I", Cond.methodLink RX1 115 yX1_firstHelped, Cond.instanceMethod yX1_firstHelped, Cond.selects RX1 yX1_firstHelped yX1_firstHelped, Cond.code yX1_firstHelped cX1_firstHelped 4 (some .int)]
def wsX11_helps : List Cond := .code yX11_helps cX11_helps 4 (some .int) :: ((wsX11_helps_r1 ++ (wsX11_helps_r2 ++ (wsX11_helps_r3 ++ wsX11_helps_r4))) ++ wsX110 ++ wsX70 ++ wsX10)
def wsX11_turned_r1 : List Cond := [Cond.fieldLink RX11 77 "HallTables" "town" "LHallTables$Town;", Cond.fieldLink RX11 56 "HallTables" "day" "LHallTables$Day;", Cond.methodLink RX11 136 yX7_isSort, Cond.instanceMethod yX7_isSort, Cond.selects RX7 yX7_isSort yX7_isSort, Cond.initialized RX7, Cond.code yX7_isSort cX7_isSort 2 (some .boolean), Cond.fieldLink RX7 49 "HallTables$Town" "sorts" "I", Cond.methodLink RX11 129 yX7_isHouse, Cond.instanceMethod yX7_isHouse, Cond.selects RX7 yX7_isHouse yX7_isHouse, Cond.code yX7_isHouse cX7_isHouse 2 (some .boolean), Cond.fieldLink RX7 53 "HallTables$Town" "houses" "I", Cond.methodLink RX11 258 yX1_prepare, Cond.instanceMethod yX1_prepare, Cond.selects RX1 yX1_prepare yX1_prepare, Cond.initialized RX1, Cond.code yX1_prepare cX1_prepare 5 none, Cond.fieldLink RX1 39 "HallTables$Town" "houses" "I", Cond.fieldLink RX1 45 "HallTables$Day" "houses" "I", Cond.fieldLink RX1 46 "HallTables$Town" "calls" "I", Cond.fieldLink RX1 49 "HallTables$Day" "calls" "I", Cond.fieldLink RX1 50 "HallTables$Day" "target" "I", Cond.fieldLink RX1 9 "HallTables$Day" "stock" "[I"]
def wsX11_turned_r2 : List Cond := [Cond.fieldLink RX1 53 "HallTables$Town" "table" "[I", Cond.fieldLink RX1 60 "HallTables$Town" "men" "I", Cond.fieldLink RX1 63 "HallTables$Town" "home" "[I", Cond.fieldLink RX1 66 "HallTables$Town" "hand" "[I", Cond.fieldLink RX1 18 "HallTables$Day" "from" "[I", Cond.fieldLink RX1 72 "HallTables$Town" "callMan" "[I", Cond.fieldLink RX1 21 "HallTables$Day" "to" "[I", Cond.fieldLink RX1 75 "HallTables$Town" "callHouse" "[I", Cond.methodLink RX1 56 yX7_cell, Cond.static yX7_cell, Cond.code yX7_cell cX7_cell 2 (some .int), Cond.methodLink RX1 69 yX7_inHand, Cond.static yX7_inHand, Cond.code yX7_inHand cX7_inHand 2 (some .int), Cond.methodLink RX11 269 yX1_bestTurn, Cond.instanceMethod yX1_bestTurn, Cond.selects RX1 yX1_bestTurn yX1_bestTurn, Cond.code yX1_bestTurn cX1_bestTurn 6 (some .int), Cond.methodLink RX1 108 yX1_flow, Cond.instanceMethod yX1_flow, Cond.selects RX1 yX1_flow yX1_flow, Cond.code yX1_flow cX1_flow 3 (some .int), Cond.fieldLink RX1 24 "HallTables$Day" "carries" "[I", Cond.fieldLink RX1 27 "HallTables$Day" "stay" "[I"]
def wsX11_turned_r3 : List Cond := [Cond.fieldLink RX1 15 "HallTables$Day" "unsent" "[I", Cond.methodLink RX1 84 arraycopyName, Cond.native arraycopyName, Cond.static arraycopyName, Cond.initialized "java/lang/System", Cond.methodLink RX1 78 yJ7_fill_53178, Cond.static yJ7_fill_53178, Cond.initialized RJ7, Cond.code yJ7_fill_53178 cJ7_fill_53178 4 none, Cond.methodLink RX1 90 yX1_sendOne, Cond.instanceMethod yX1_sendOne, Cond.selects RX1 yX1_sendOne yX1_sendOne, Cond.code yX1_sendOne cX1_sendOne 3 (some .boolean), Cond.fieldLink RX1 33 "HallTables$Day" "cameFrom" "[I", Cond.methodLink RX1 94 yX1_spread, Cond.instanceMethod yX1_spread, Cond.selects RX1 yX1_spread yX1_spread, Cond.code yX1_spread cX1_spread 6 none, Cond.fieldLink RX1 101 "HallTables$Day" "queued" "I", Cond.fieldLink RX1 30 "HallTables$Day" "queue" "[I", Cond.methodLink RX1 104 yX1_reach, Cond.instanceMethod yX1_reach, Cond.selects RX1 yX1_reach yX1_reach, Cond.code yX1_reach cX1_reach 4 none]
def wsX11_turned_r4 : List Cond := [Cond.methodLink RX1 97 yX1_change, Cond.instanceMethod yX1_change, Cond.selects RX1 yX1_change yX1_change, Cond.code yX1_change cX1_change 5 none, Cond.methodLink RX1 118 yX1_exchange, Cond.instanceMethod yX1_exchange, Cond.selects RX1 yX1_exchange yX1_exchange, Cond.code yX1_exchange cX1_exchange 5 none]
def wsX11_turned : List Cond := .code yX11_turned cX11_turned 3 (some .int) :: ((wsX11_turned_r1 ++ (wsX11_turned_r2 ++ (wsX11_turned_r3 ++ wsX11_turned_r4))) ++ wsX110 ++ wsX70 ++ wsX10)
def wsX11_see : List Cond := .code yX11_see cX11_see 4 (some .int) :: ([.fieldLink RX11 77 "HallTables" "town" "LHallTables$Town;", .fieldLink RX11 70 "HallTables" "visits" "LHallTables$Visits;", .methodLink RX11 129 yX7_isHouse, .instanceMethod yX7_isHouse, .selects RX7 yX7_isHouse yX7_isHouse, .initialized RX7, .code yX7_isHouse cX7_isHouse 2 (some .boolean), .fieldLink RX7 53 "HallTables$Town" "houses" "I", .methodLink RX11 136 yX7_isSort, .instanceMethod yX7_isSort, .selects RX7 yX7_isSort yX7_isSort, .code yX7_isSort cX7_isSort 2 (some .boolean), .fieldLink RX7 49 "HallTables$Town" "sorts" "I", .methodLink RX11 297 yX9_add, .instanceMethod yX9_add, .selects RX9 yX9_add yX9_add, .initialized RX9, .code yX9_add cX9_add 4 (some .int), .fieldLink RX9 31 "HallTables$Visits" "seen" "I", .fieldLink RX9 11 "HallTables$Visits" "seenCell" "[I", .fieldLink RX9 15 "HallTables$Visits" "seenMany" "[I", .methodLink RX9 35 yX7_cell, .static yX7_cell, .code yX7_cell cX7_cell 2 (some .int)] ++ wsX110 ++ wsX70 ++ wsX90)
def wsX11_forget : List Cond := .code yX11_forget cX11_forget 2 (some .int) :: ([.fieldLink RX11 70 "HallTables" "visits" "LHallTables$Visits;", .fieldLink RX11 301 "HallTables$Visits" "seen" "I", .methodLink RX11 118 yX9_clear, .instanceMethod yX9_clear, .selects RX9 yX9_clear yX9_clear, .initialized RX9, .code yX9_clear cX9_clear 1 none, .fieldLink RX9 31 "HallTables$Visits" "seen" "I"] ++ wsX110 ++ wsX90)
def wsX11_fits_r1 : List Cond := [Cond.fieldLink RX11 70 "HallTables" "visits" "LHallTables$Visits;", Cond.constantLong RX11 307 (-1), Cond.fieldLink RX11 77 "HallTables" "town" "LHallTables$Town;", Cond.methodLink RX11 304 yX9_isKnown, Cond.instanceMethod yX9_isKnown, Cond.selects RX9 yX9_isKnown yX9_isKnown, Cond.initialized RX9, Cond.code yX9_isKnown cX9_isKnown 2 (some .boolean), Cond.fieldLink RX9 31 "HallTables$Visits" "seen" "I", Cond.methodLink RX11 309 yX9_know, Cond.instanceMethod yX9_know, Cond.selects RX9 yX9_know yX9_know, Cond.code yX9_know cX9_know 5 (some .boolean), Cond.fieldLink RX9 18 "HallTables$Visits" "known" "[I", Cond.fieldLink RX9 11 "HallTables$Visits" "seenCell" "[I", Cond.fieldLink RX9 15 "HallTables$Visits" "seenMany" "[I", Cond.fieldLink RX9 47 "HallTables$Visits" "parts" "I", Cond.methodLink RX9 50 Lib.Math.max.name, Cond.static Lib.Math.max.name, Cond.initialized "java/lang/Math", Cond.code Lib.Math.max.name Lib.Math.max.code 2 (some .int), Cond.fieldLink RX9 55 "HallTables$Town" "men" "I", Cond.fieldLink RX9 21 "HallTables$Visits" "weight" "[I", Cond.methodLink RX9 41 yJ7_fill_53178]
def wsX11_fits_r2 : List Cond := [Cond.static yJ7_fill_53178, Cond.initialized RJ7, Cond.code yJ7_fill_53178 cJ7_fill_53178 4 none, Cond.methodLink RX11 313 yX9_ways, Cond.instanceMethod yX9_ways, Cond.selects RX9 yX9_ways yX9_ways, Cond.code yX9_ways cX9_ways 6 (some .long), Cond.fieldLink RX9 24 "HallTables$Visits" "here" "[J", Cond.fieldLink RX9 28 "HallTables$Visits" "after" "[J", Cond.methodLink RX9 61 arraycopyName, Cond.native arraycopyName, Cond.static arraycopyName, Cond.initialized "java/lang/System", Cond.fieldLink RX9 67 "HallTables$Town" "houses" "I", Cond.fieldLink RX9 70 "HallTables$Town" "home" "[I", Cond.fieldLink RX9 73 "HallTables$Town" "hand" "[I", Cond.methodLink RX9 58 yJ7_fill_d0a16, Cond.static yJ7_fill_d0a16, Cond.code yJ7_fill_d0a16 cJ7_fill_d0a16 5 none, Cond.methodLink RX9 76 yX7_choices, Cond.instanceMethod yX7_choices, Cond.selects RX7 yX7_choices yX7_choices, Cond.initialized RX7, Cond.code yX7_choices cX7_choices 5 (some .int)]
def wsX11_fits_r3 : List Cond := [Cond.fieldLink RX7 65 "HallTables$Town" "law" "I", Cond.fieldLink RX7 49 "HallTables$Town" "sorts" "I", Cond.methodLink RX7 90 yX7_leftByLaw, Cond.instanceMethod yX7_leftByLaw, Cond.selects RX7 yX7_leftByLaw yX7_leftByLaw, Cond.code yX7_leftByLaw cX7_leftByLaw 8 (some .int), Cond.methodLink RX7 87 yX7_worthAt, Cond.instanceMethod yX7_worthAt, Cond.selects RX7 yX7_worthAt yX7_worthAt, Cond.code yX7_worthAt cX7_worthAt 3 (some .int), Cond.fieldLink RX7 25 "HallTables$Town" "worth" "[I", Cond.methodLink RX7 84 yX7_inHand, Cond.static yX7_inHand, Cond.code yX7_inHand cX7_inHand 2 (some .int), Cond.methodLink RX9 79 yX9_visit, Cond.instanceMethod yX9_visit, Cond.selects RX9 yX9_visit yX9_visit, Cond.code yX9_visit cX9_visit 4 none, Cond.methodLink RX9 35 yX7_cell, Cond.static yX7_cell, Cond.code yX7_cell cX7_cell 2 (some .int), Cond.methodLink RX9 83 yX9_leave, Cond.instanceMethod yX9_leave, Cond.selects RX9 yX9_leave yX9_leave]
def wsX11_fits_r4 : List Cond := [Cond.code yX9_leave cX9_leave 7 none]
def wsX11_fits : List Cond := .code yX11_fits cX11_fits 2 (some .long) :: ((wsX11_fits_r1 ++ (wsX11_fits_r2 ++ (wsX11_fits_r3 ++ wsX11_fits_r4))) ++ wsX110 ++ wsX90 ++ wsX70)
def wsX11_visitors_r1 : List Cond := [Cond.fieldLink RX11 77 "HallTables" "town" "LHallTables$Town;", Cond.fieldLink RX11 70 "HallTables" "visits" "LHallTables$Visits;", Cond.fieldLink RX11 316 "HallTables$Town" "men" "I", Cond.methodLink RX11 129 yX7_isHouse, Cond.instanceMethod yX7_isHouse, Cond.selects RX7 yX7_isHouse yX7_isHouse, Cond.initialized RX7, Cond.code yX7_isHouse cX7_isHouse 2 (some .boolean), Cond.fieldLink RX7 53 "HallTables$Town" "houses" "I", Cond.methodLink RX11 304 yX9_isKnown, Cond.instanceMethod yX9_isKnown, Cond.selects RX9 yX9_isKnown yX9_isKnown, Cond.initialized RX9, Cond.code yX9_isKnown cX9_isKnown 2 (some .boolean), Cond.fieldLink RX9 31 "HallTables$Visits" "seen" "I", Cond.methodLink RX11 309 yX9_know, Cond.instanceMethod yX9_know, Cond.selects RX9 yX9_know yX9_know, Cond.code yX9_know cX9_know 5 (some .boolean), Cond.fieldLink RX9 18 "HallTables$Visits" "known" "[I", Cond.fieldLink RX9 11 "HallTables$Visits" "seenCell" "[I", Cond.fieldLink RX9 15 "HallTables$Visits" "seenMany" "[I", Cond.fieldLink RX9 47 "HallTables$Visits" "parts" "I", Cond.methodLink RX9 50 Lib.Math.max.name]
def wsX11_visitors_r2 : List Cond := [Cond.static Lib.Math.max.name, Cond.initialized "java/lang/Math", Cond.code Lib.Math.max.name Lib.Math.max.code 2 (some .int), Cond.fieldLink RX9 55 "HallTables$Town" "men" "I", Cond.fieldLink RX9 21 "HallTables$Visits" "weight" "[I", Cond.methodLink RX9 41 yJ7_fill_53178, Cond.static yJ7_fill_53178, Cond.initialized RJ7, Cond.code yJ7_fill_53178 cJ7_fill_53178 4 none, Cond.methodLink RX11 313 yX9_ways, Cond.instanceMethod yX9_ways, Cond.selects RX9 yX9_ways yX9_ways, Cond.code yX9_ways cX9_ways 6 (some .long), Cond.fieldLink RX9 24 "HallTables$Visits" "here" "[J", Cond.fieldLink RX9 28 "HallTables$Visits" "after" "[J", Cond.methodLink RX9 61 arraycopyName, Cond.native arraycopyName, Cond.static arraycopyName, Cond.initialized "java/lang/System", Cond.fieldLink RX9 67 "HallTables$Town" "houses" "I", Cond.fieldLink RX9 70 "HallTables$Town" "home" "[I", Cond.fieldLink RX9 73 "HallTables$Town" "hand" "[I", Cond.methodLink RX9 58 yJ7_fill_d0a16, Cond.static yJ7_fill_d0a16]
def wsX11_visitors_r3 : List Cond := [Cond.code yJ7_fill_d0a16 cJ7_fill_d0a16 5 none, Cond.methodLink RX9 76 yX7_choices, Cond.instanceMethod yX7_choices, Cond.selects RX7 yX7_choices yX7_choices, Cond.code yX7_choices cX7_choices 5 (some .int), Cond.fieldLink RX7 65 "HallTables$Town" "law" "I", Cond.fieldLink RX7 49 "HallTables$Town" "sorts" "I", Cond.methodLink RX7 90 yX7_leftByLaw, Cond.instanceMethod yX7_leftByLaw, Cond.selects RX7 yX7_leftByLaw yX7_leftByLaw, Cond.code yX7_leftByLaw cX7_leftByLaw 8 (some .int), Cond.methodLink RX7 87 yX7_worthAt, Cond.instanceMethod yX7_worthAt, Cond.selects RX7 yX7_worthAt yX7_worthAt, Cond.code yX7_worthAt cX7_worthAt 3 (some .int), Cond.fieldLink RX7 25 "HallTables$Town" "worth" "[I", Cond.methodLink RX7 84 yX7_inHand, Cond.static yX7_inHand, Cond.code yX7_inHand cX7_inHand 2 (some .int), Cond.methodLink RX9 79 yX9_visit, Cond.instanceMethod yX9_visit, Cond.selects RX9 yX9_visit yX9_visit, Cond.code yX9_visit cX9_visit 4 none, Cond.methodLink RX9 35 yX7_cell]
def wsX11_visitors_r4 : List Cond := [Cond.static yX7_cell, Cond.code yX7_cell cX7_cell 2 (some .int), Cond.methodLink RX9 83 yX9_leave, Cond.instanceMethod yX9_leave, Cond.selects RX9 yX9_leave yX9_leave, Cond.code yX9_leave cX9_leave 7 none]
def wsX11_visitors : List Cond := .code yX11_visitors cX11_visitors 10 (some .int) :: ((wsX11_visitors_r1 ++ (wsX11_visitors_r2 ++ (wsX11_visitors_r3 ++ wsX11_visitors_r4))) ++ wsX110 ++ wsX70 ++ wsX90)
def wsX11_hold : List Cond := .code yX11_hold cX11_hold 2 (some .boolean) :: ([.fieldLink RX11 28 "HallTables" "slots" "[LHallTables$Stand;", .fieldLink RX11 24 "HallTables" "now" "LHallTables$Stand;", .fieldLink RX11 122 "HallTables$Stand" "holds" "Z", .methodLink RX11 319 yX4_copyOf, .instanceMethod yX4_copyOf, .selects RX4 yX4_copyOf yX4_copyOf, .initialized RX4, .code yX4_copyOf cX4_copyOf 2 none, .fieldLink RX4 33 "HallTables$Stand" "men" "I", .fieldLink RX4 9 "HallTables$Stand" "at" "[I", .methodLink RX4 37 arraycopyName, .native arraycopyName, .static arraycopyName, .initialized "java/lang/System", .fieldLink RX4 15 "HallTables$Stand" "hand" "[I", .fieldLink RX4 24 "HallTables$Stand" "table" "[I", .fieldLink RX4 18 "HallTables$Stand" "minutes" "[I", .fieldLink RX4 21 "HallTables$Stand" "loss" "[I"] ++ wsX110 ++ wsX40)
def wsX11_restore_r1 : List Cond := [Cond.fieldLink RX11 28 "HallTables" "slots" "[LHallTables$Stand;", Cond.fieldLink RX11 122 "HallTables$Stand" "holds" "Z", Cond.fieldLink RX11 24 "HallTables" "now" "LHallTables$Stand;", Cond.fieldLink RX11 35 "HallTables" "track" "LHallTables$Track;", Cond.methodLink RX11 319 yX4_copyOf, Cond.instanceMethod yX4_copyOf, Cond.selects RX4 yX4_copyOf yX4_copyOf, Cond.initialized RX4, Cond.code yX4_copyOf cX4_copyOf 2 none, Cond.fieldLink RX4 33 "HallTables$Stand" "men" "I", Cond.fieldLink RX4 9 "HallTables$Stand" "at" "[I", Cond.methodLink RX4 37 arraycopyName, Cond.native arraycopyName, Cond.static arraycopyName, Cond.initialized "java/lang/System", Cond.fieldLink RX4 15 "HallTables$Stand" "hand" "[I", Cond.fieldLink RX4 24 "HallTables$Stand" "table" "[I", Cond.fieldLink RX4 18 "HallTables$Stand" "minutes" "[I", Cond.fieldLink RX4 21 "HallTables$Stand" "loss" "[I", Cond.methodLink RX11 115 yX8_clear, Cond.instanceMethod yX8_clear, Cond.selects RX8 yX8_clear yX8_clear, Cond.initialized RX8, Cond.code yX8_clear cX8_clear 1 none]
def wsX11_restore_r2 : List Cond := [Cond.fieldLink RX8 24 "HallTables$Track" "count" "I"]
def wsX11_restore : List Cond := .code yX11_restore cX11_restore 2 (some .boolean) :: ((wsX11_restore_r1 ++ wsX11_restore_r2) ++ wsX110 ++ wsX40 ++ wsX80)
def wsX11_slotsHeld : List Cond := .code yX11_slotsHeld cX11_slotsHeld 3 (some .int) :: ([.fieldLink RX11 28 "HallTables" "slots" "[LHallTables$Stand;", .fieldLink RX11 122 "HallTables$Stand" "holds" "Z"] ++ wsX110 ++ wsX40)
def wsX11_count_r1 : List Cond := [Cond.fieldLink RX11 77 "HallTables" "town" "LHallTables$Town;", Cond.fieldLink RX11 251 "HallTables$Town" "sorts" "I", Cond.fieldLink RX11 245 "HallTables$Town" "houses" "I", Cond.fieldLink RX11 323 "HallTables$Town" "doors" "I", Cond.fieldLink RX11 316 "HallTables$Town" "men" "I", Cond.fieldLink RX11 326 "HallTables$Town" "calls" "I", Cond.fieldLink RX11 329 "HallTables$Town" "law" "I", Cond.fieldLink RX11 20 "HallTables" "text" "LHallTables$Text;", Cond.fieldLink RX11 91 "HallTables$Text" "length" "I", Cond.fieldLink RX11 35 "HallTables" "track" "LHallTables$Track;", Cond.fieldLink RX11 332 "HallTables$Track" "count" "I", Cond.fieldLink RX11 70 "HallTables" "visits" "LHallTables$Visits;", Cond.fieldLink RX11 301 "HallTables$Visits" "seen" "I", Cond.fieldLink RX11 24 "HallTables" "now" "LHallTables$Stand;", Cond.methodLink RX11 335 yX11_slotsHeld, Cond.instanceMethod yX11_slotsHeld, Cond.selects RX11 yX11_slotsHeld yX11_slotsHeld, Cond.initialized RX11, Cond.code yX11_slotsHeld cX11_slotsHeld 3 (some .int), Cond.fieldLink RX11 28 "HallTables" "slots" "[LHallTables$Stand;", Cond.fieldLink RX11 122 "HallTables$Stand" "holds" "Z", Cond.methodLink RX11 338 yX4_thingsOnTables, Cond.instanceMethod yX4_thingsOnTables, Cond.selects RX4 yX4_thingsOnTables yX4_thingsOnTables]
def wsX11_count_r2 : List Cond := [Cond.initialized RX4, Cond.code yX4_thingsOnTables cX4_thingsOnTables 3 (some .int), Cond.fieldLink RX4 24 "HallTables$Stand" "table" "[I", Cond.methodLink RX11 284 yX4_thingsCarried, Cond.instanceMethod yX4_thingsCarried, Cond.selects RX4 yX4_thingsCarried yX4_thingsCarried, Cond.code yX4_thingsCarried cX4_thingsCarried 3 (some .int), Cond.fieldLink RX4 33 "HallTables$Stand" "men" "I", Cond.fieldLink RX4 15 "HallTables$Stand" "hand" "[I", Cond.methodLink RX4 77 yX7_things, Cond.static yX7_things, Cond.initialized RX7, Cond.code yX7_things cX7_things 1 (some .int), Cond.methodLink RX7 78 yJ6_bitCount_0f7a4, Cond.static yJ6_bitCount_0f7a4, Cond.initialized RJ6, Cond.code yJ6_bitCount_0f7a4 cJ6_bitCount_0f7a4 1 (some .int), Cond.constant RJ6 265 (1431655765), Cond.constant RJ6 266 (858993459), Cond.constant RJ6 267 (252645135)]
def wsX11_count : List Cond := .code yX11_count cX11_count 2 (some .int) :: ((wsX11_count_r1 ++ wsX11_count_r2) ++ wsX110 ++ wsX70 ++ wsX60 ++ wsX80 ++ wsX90 ++ wsX40)
def wsX12_in : List Cond := .code yX12_in cX12_in 3 (some .boolean) :: ([])
def wsX12_isSort : List Cond := .code yX12_isSort cX12_isSort 2 (some .boolean) :: ([.fieldLink RX12 49 "HallTablesModel" "sorts" "[I", .fieldLink RX12 266 "HallTablesModel" "live" "I", .methodLink RX12 333 yX12_in, .static yX12_in, .initialized RX12, .code yX12_in cX12_in 3 (some .boolean)] ++ wsX120)
def wsX12_isHouse : List Cond := .code yX12_isHouse cX12_isHouse 2 (some .boolean) :: ([.fieldLink RX12 55 "HallTablesModel" "houses" "[I", .fieldLink RX12 266 "HallTablesModel" "live" "I", .methodLink RX12 333 yX12_in, .static yX12_in, .initialized RX12, .code yX12_in cX12_in 3 (some .boolean)] ++ wsX120)
def wsX12_isMan : List Cond := .code yX12_isMan cX12_isMan 2 (some .boolean) :: ([.fieldLink RX12 74 "HallTablesModel" "men" "[I", .fieldLink RX12 266 "HallTablesModel" "live" "I", .methodLink RX12 333 yX12_in, .static yX12_in, .initialized RX12, .code yX12_in cX12_in 3 (some .boolean)] ++ wsX120)
def wsX12_door : List Cond := .code yX12_door cX12_door 3 (some .int) :: ([.methodLink RX12 347 yX12_isHouse, .instanceMethod yX12_isHouse, .selects RX12 yX12_isHouse yX12_isHouse, .initialized RX12, .code yX12_isHouse cX12_isHouse 2 (some .boolean), .fieldLink RX12 55 "HallTablesModel" "houses" "[I", .fieldLink RX12 266 "HallTablesModel" "live" "I", .methodLink RX12 333 yX12_in, .static yX12_in, .code yX12_in cX12_in 3 (some .boolean), .methodLink RX12 350 yX12_doorOf, .instanceMethod yX12_doorOf, .selects RX12 yX12_doorOf yX12_doorOf, .code yX12_doorOf cX12_doorOf 3 (some .int), .fieldLink RX12 71 "HallTablesModel" "minutes" "[I"] ++ wsX120)
def wsX12_worth : List Cond := .code yX12_worth cX12_worth 3 (some .int) :: ([.fieldLink RX12 52 "HallTablesModel" "plainWorth" "[I", .fieldLink RX12 266 "HallTablesModel" "live" "I", .methodLink RX12 353 yX12_isSort, .instanceMethod yX12_isSort, .selects RX12 yX12_isSort yX12_isSort, .initialized RX12, .code yX12_isSort cX12_isSort 2 (some .boolean), .fieldLink RX12 49 "HallTablesModel" "sorts" "[I", .methodLink RX12 333 yX12_in, .static yX12_in, .code yX12_in cX12_in 3 (some .boolean), .methodLink RX12 347 yX12_isHouse, .instanceMethod yX12_isHouse, .selects RX12 yX12_isHouse yX12_isHouse, .code yX12_isHouse cX12_isHouse 2 (some .boolean), .fieldLink RX12 55 "HallTablesModel" "houses" "[I", .methodLink RX12 340 yX12_worthOf, .instanceMethod yX12_worthOf, .selects RX12 yX12_worthOf yX12_worthOf, .code yX12_worthOf cX12_worthOf 4 (some .int), .fieldLink RX12 58 "HallTablesModel" "worthAt" "[I"] ++ wsX120)
def wsX12_table : List Cond := .code yX12_table cX12_table 3 (some .int) :: ([.fieldLink RX12 95 "HallTablesModel" "now" "[I", .methodLink RX12 347 yX12_isHouse, .instanceMethod yX12_isHouse, .selects RX12 yX12_isHouse yX12_isHouse, .initialized RX12, .code yX12_isHouse cX12_isHouse 2 (some .boolean), .fieldLink RX12 55 "HallTablesModel" "houses" "[I", .fieldLink RX12 266 "HallTablesModel" "live" "I", .methodLink RX12 333 yX12_in, .static yX12_in, .code yX12_in cX12_in 3 (some .boolean), .methodLink RX12 353 yX12_isSort, .instanceMethod yX12_isSort, .selects RX12 yX12_isSort yX12_isSort, .code yX12_isSort cX12_isSort 2 (some .boolean), .fieldLink RX12 49 "HallTablesModel" "sorts" "[I"] ++ wsX120)
def wsX12_man_r1 : List Cond := [Cond.fieldLink RX12 95 "HallTablesModel" "now" "[I", Cond.methodLink RX12 356 yX12_isMan, Cond.instanceMethod yX12_isMan, Cond.selects RX12 yX12_isMan yX12_isMan, Cond.initialized RX12, Cond.code yX12_isMan cX12_isMan 2 (some .boolean), Cond.fieldLink RX12 74 "HallTablesModel" "men" "[I", Cond.fieldLink RX12 266 "HallTablesModel" "live" "I", Cond.methodLink RX12 333 yX12_in, Cond.static yX12_in, Cond.code yX12_in cX12_in 3 (some .boolean), Cond.methodLink RX12 359 yX12_where, Cond.instanceMethod yX12_where, Cond.selects RX12 yX12_where yX12_where, Cond.code yX12_where cX12_where 2 (some .int), Cond.methodLink RX12 327 yX12_homeOf, Cond.instanceMethod yX12_homeOf, Cond.selects RX12 yX12_homeOf yX12_homeOf, Cond.code yX12_homeOf cX12_homeOf 2 (some .int), Cond.fieldLink RX12 77 "HallTablesModel" "home" "[I", Cond.methodLink RX12 362 yX12_hand, Cond.instanceMethod yX12_hand, Cond.selects RX12 yX12_hand yX12_hand, Cond.code yX12_hand cX12_hand 2 (some .int)]
def wsX12_man_r2 : List Cond := [Cond.methodLink RX12 365 yX12_things, Cond.static yX12_things, Cond.code yX12_things cX12_things 3 (some .int)]
def wsX12_man : List Cond := .code yX12_man cX12_man 3 (some .int) :: ((wsX12_man_r1 ++ wsX12_man_r2) ++ wsX120)
def wsX12_has : List Cond := .code yX12_has cX12_has 3 (some .int) :: ([.methodLink RX12 356 yX12_isMan, .instanceMethod yX12_isMan, .selects RX12 yX12_isMan yX12_isMan, .initialized RX12, .code yX12_isMan cX12_isMan 2 (some .boolean), .fieldLink RX12 74 "HallTablesModel" "men" "[I", .fieldLink RX12 266 "HallTablesModel" "live" "I", .methodLink RX12 333 yX12_in, .static yX12_in, .code yX12_in cX12_in 3 (some .boolean), .methodLink RX12 353 yX12_isSort, .instanceMethod yX12_isSort, .selects RX12 yX12_isSort yX12_isSort, .code yX12_isSort cX12_isSort 2 (some .boolean), .fieldLink RX12 49 "HallTablesModel" "sorts" "[I", .methodLink RX12 362 yX12_hand, .instanceMethod yX12_hand, .selects RX12 yX12_hand yX12_hand, .code yX12_hand cX12_hand 2 (some .int), .fieldLink RX12 95 "HallTablesModel" "now" "[I", .methodLink RX12 337 yX12_of, .static yX12_of, .code yX12_of cX12_of 2 (some .int)] ++ wsX120)
def wsX12_may_r1 : List Cond := [Cond.methodLink RX12 356 yX12_isMan, Cond.instanceMethod yX12_isMan, Cond.selects RX12 yX12_isMan yX12_isMan, Cond.initialized RX12, Cond.code yX12_isMan cX12_isMan 2 (some .boolean), Cond.fieldLink RX12 74 "HallTablesModel" "men" "[I", Cond.fieldLink RX12 266 "HallTablesModel" "live" "I", Cond.methodLink RX12 333 yX12_in, Cond.static yX12_in, Cond.code yX12_in cX12_in 3 (some .boolean), Cond.methodLink RX12 347 yX12_isHouse, Cond.instanceMethod yX12_isHouse, Cond.selects RX12 yX12_isHouse yX12_isHouse, Cond.code yX12_isHouse cX12_isHouse 2 (some .boolean), Cond.fieldLink RX12 55 "HallTablesModel" "houses" "[I", Cond.methodLink RX12 353 yX12_isSort, Cond.instanceMethod yX12_isSort, Cond.selects RX12 yX12_isSort yX12_isSort, Cond.code yX12_isSort cX12_isSort 2 (some .boolean), Cond.fieldLink RX12 49 "HallTablesModel" "sorts" "[I", Cond.methodLink RX12 327 yX12_homeOf, Cond.instanceMethod yX12_homeOf, Cond.selects RX12 yX12_homeOf yX12_homeOf, Cond.code yX12_homeOf cX12_homeOf 2 (some .int)]
def wsX12_may_r2 : List Cond := [Cond.fieldLink RX12 77 "HallTablesModel" "home" "[I", Cond.methodLink RX12 362 yX12_hand, Cond.instanceMethod yX12_hand, Cond.selects RX12 yX12_hand yX12_hand, Cond.code yX12_hand cX12_hand 2 (some .int), Cond.fieldLink RX12 95 "HallTablesModel" "now" "[I", Cond.methodLink RX12 368 yX12_mayLeave, Cond.instanceMethod yX12_mayLeave, Cond.selects RX12 yX12_mayLeave yX12_mayLeave, Cond.code yX12_mayLeave cX12_mayLeave 4 (some .boolean), Cond.fieldLink RX12 83 "HallTablesModel" "laws" "[I", Cond.methodLink RX12 337 yX12_of, Cond.static yX12_of, Cond.code yX12_of cX12_of 2 (some .int), Cond.methodLink RX12 343 yX12_leastOf, Cond.instanceMethod yX12_leastOf, Cond.selects RX12 yX12_leastOf yX12_leastOf, Cond.code yX12_leastOf cX12_leastOf 6 (some .int), Cond.methodLink RX12 340 yX12_worthOf, Cond.instanceMethod yX12_worthOf, Cond.selects RX12 yX12_worthOf yX12_worthOf, Cond.code yX12_worthOf cX12_worthOf 4 (some .int), Cond.fieldLink RX12 58 "HallTablesModel" "worthAt" "[I", Cond.fieldLink RX12 52 "HallTablesModel" "plainWorth" "[I"]
def wsX12_may : List Cond := .code yX12_may cX12_may 4 (some .int) :: ((wsX12_may_r1 ++ wsX12_may_r2) ++ wsX120)
def wsX12_go_r1 : List Cond := [Cond.fieldLink RX12 95 "HallTablesModel" "now" "[I", Cond.methodLink RX12 356 yX12_isMan, Cond.instanceMethod yX12_isMan, Cond.selects RX12 yX12_isMan yX12_isMan, Cond.initialized RX12, Cond.code yX12_isMan cX12_isMan 2 (some .boolean), Cond.fieldLink RX12 74 "HallTablesModel" "men" "[I", Cond.fieldLink RX12 266 "HallTablesModel" "live" "I", Cond.methodLink RX12 333 yX12_in, Cond.static yX12_in, Cond.code yX12_in cX12_in 3 (some .boolean), Cond.methodLink RX12 347 yX12_isHouse, Cond.instanceMethod yX12_isHouse, Cond.selects RX12 yX12_isHouse yX12_isHouse, Cond.code yX12_isHouse cX12_isHouse 2 (some .boolean), Cond.fieldLink RX12 55 "HallTablesModel" "houses" "[I", Cond.methodLink RX12 353 yX12_isSort, Cond.instanceMethod yX12_isSort, Cond.selects RX12 yX12_isSort yX12_isSort, Cond.code yX12_isSort cX12_isSort 2 (some .boolean), Cond.fieldLink RX12 49 "HallTablesModel" "sorts" "[I", Cond.methodLink RX12 359 yX12_where, Cond.instanceMethod yX12_where, Cond.selects RX12 yX12_where yX12_where]
def wsX12_go_r2 : List Cond := [Cond.code yX12_where cX12_where 2 (some .int), Cond.methodLink RX12 350 yX12_doorOf, Cond.instanceMethod yX12_doorOf, Cond.selects RX12 yX12_doorOf yX12_doorOf, Cond.code yX12_doorOf cX12_doorOf 3 (some .int), Cond.fieldLink RX12 71 "HallTablesModel" "minutes" "[I", Cond.methodLink RX12 327 yX12_homeOf, Cond.instanceMethod yX12_homeOf, Cond.selects RX12 yX12_homeOf yX12_homeOf, Cond.code yX12_homeOf cX12_homeOf 2 (some .int), Cond.fieldLink RX12 77 "HallTablesModel" "home" "[I", Cond.methodLink RX12 362 yX12_hand, Cond.instanceMethod yX12_hand, Cond.selects RX12 yX12_hand yX12_hand, Cond.code yX12_hand cX12_hand 2 (some .int), Cond.methodLink RX12 368 yX12_mayLeave, Cond.instanceMethod yX12_mayLeave, Cond.selects RX12 yX12_mayLeave yX12_mayLeave, Cond.code yX12_mayLeave cX12_mayLeave 4 (some .boolean), Cond.fieldLink RX12 83 "HallTablesModel" "laws" "[I", Cond.methodLink RX12 337 yX12_of, Cond.static yX12_of, Cond.code yX12_of cX12_of 2 (some .int), Cond.methodLink RX12 343 yX12_leastOf]
def wsX12_go_r3 : List Cond := [Cond.instanceMethod yX12_leastOf, Cond.selects RX12 yX12_leastOf yX12_leastOf, Cond.code yX12_leastOf cX12_leastOf 6 (some .int), Cond.methodLink RX12 340 yX12_worthOf, Cond.instanceMethod yX12_worthOf, Cond.selects RX12 yX12_worthOf yX12_worthOf, Cond.code yX12_worthOf cX12_worthOf 4 (some .int), Cond.fieldLink RX12 58 "HallTablesModel" "worthAt" "[I", Cond.fieldLink RX12 52 "HallTablesModel" "plainWorth" "[I", Cond.methodLink RX12 371 yX12_keeps, Cond.instanceMethod yX12_keeps, Cond.selects RX12 yX12_keeps yX12_keeps, Cond.code yX12_keeps cX12_keeps 2 none, Cond.fieldLink RX12 281 "HallTablesModel" "undos" "I", Cond.fieldLink RX12 98 "HallTablesModel" "history" "[I"]
def wsX12_go : List Cond := .code yX12_go cX12_go 6 (some .int) :: ((wsX12_go_r1 ++ (wsX12_go_r2 ++ wsX12_go_r3)) ++ wsX120)
def wsX12_buy_r1 : List Cond := [Cond.fieldLink RX12 64 "HallTablesModel" "sells" "[Z", Cond.fieldLink RX12 266 "HallTablesModel" "live" "I", Cond.fieldLink RX12 95 "HallTablesModel" "now" "[I", Cond.methodLink RX12 356 yX12_isMan, Cond.instanceMethod yX12_isMan, Cond.selects RX12 yX12_isMan yX12_isMan, Cond.initialized RX12, Cond.code yX12_isMan cX12_isMan 2 (some .boolean), Cond.fieldLink RX12 74 "HallTablesModel" "men" "[I", Cond.methodLink RX12 333 yX12_in, Cond.static yX12_in, Cond.code yX12_in cX12_in 3 (some .boolean), Cond.methodLink RX12 353 yX12_isSort, Cond.instanceMethod yX12_isSort, Cond.selects RX12 yX12_isSort yX12_isSort, Cond.code yX12_isSort cX12_isSort 2 (some .boolean), Cond.fieldLink RX12 49 "HallTablesModel" "sorts" "[I", Cond.methodLink RX12 359 yX12_where, Cond.instanceMethod yX12_where, Cond.selects RX12 yX12_where yX12_where, Cond.code yX12_where cX12_where 2 (some .int), Cond.methodLink RX12 362 yX12_hand, Cond.instanceMethod yX12_hand, Cond.selects RX12 yX12_hand yX12_hand]
def wsX12_buy_r2 : List Cond := [Cond.code yX12_hand cX12_hand 2 (some .int), Cond.methodLink RX12 337 yX12_of, Cond.static yX12_of, Cond.code yX12_of cX12_of 2 (some .int), Cond.methodLink RX12 371 yX12_keeps, Cond.instanceMethod yX12_keeps, Cond.selects RX12 yX12_keeps yX12_keeps, Cond.code yX12_keeps cX12_keeps 2 none, Cond.fieldLink RX12 281 "HallTablesModel" "undos" "I", Cond.fieldLink RX12 98 "HallTablesModel" "history" "[I"]
def wsX12_buy : List Cond := .code yX12_buy cX12_buy 3 (some .int) :: ((wsX12_buy_r1 ++ wsX12_buy_r2) ++ wsX120)
def wsX12_canAsk : List Cond := .code yX12_canAsk cX12_canAsk 5 (some .boolean) :: ([.methodLink RX12 356 yX12_isMan, .instanceMethod yX12_isMan, .selects RX12 yX12_isMan yX12_isMan, .initialized RX12, .code yX12_isMan cX12_isMan 2 (some .boolean), .fieldLink RX12 74 "HallTablesModel" "men" "[I", .fieldLink RX12 266 "HallTablesModel" "live" "I", .methodLink RX12 333 yX12_in, .static yX12_in, .code yX12_in cX12_in 3 (some .boolean), .methodLink RX12 347 yX12_isHouse, .instanceMethod yX12_isHouse, .selects RX12 yX12_isHouse yX12_isHouse, .code yX12_isHouse cX12_isHouse 2 (some .boolean), .fieldLink RX12 55 "HallTablesModel" "houses" "[I", .methodLink RX12 353 yX12_isSort, .instanceMethod yX12_isSort, .selects RX12 yX12_isSort yX12_isSort, .code yX12_isSort cX12_isSort 2 (some .boolean), .fieldLink RX12 49 "HallTablesModel" "sorts" "[I"] ++ wsX120)
def wsX12_way_r1 : List Cond := [Cond.fieldLink RX12 430 "HallTablesModel" "wayDoors" "I", Cond.fieldLink RX12 433 "HallTablesModel" "wayMinutes" "I", Cond.fieldLink RX12 436 "HallTablesModel" "wayLoss" "I", Cond.fieldLink RX12 421 "HallTablesModel" "waySteps" "I", Cond.methodLink RX12 445 yX12_canAsk, Cond.instanceMethod yX12_canAsk, Cond.selects RX12 yX12_canAsk yX12_canAsk, Cond.initialized RX12, Cond.code yX12_canAsk cX12_canAsk 5 (some .boolean), Cond.methodLink RX12 356 yX12_isMan, Cond.instanceMethod yX12_isMan, Cond.selects RX12 yX12_isMan yX12_isMan, Cond.code yX12_isMan cX12_isMan 2 (some .boolean), Cond.fieldLink RX12 74 "HallTablesModel" "men" "[I", Cond.fieldLink RX12 266 "HallTablesModel" "live" "I", Cond.methodLink RX12 333 yX12_in, Cond.static yX12_in, Cond.code yX12_in cX12_in 3 (some .boolean), Cond.methodLink RX12 347 yX12_isHouse, Cond.instanceMethod yX12_isHouse, Cond.selects RX12 yX12_isHouse yX12_isHouse, Cond.code yX12_isHouse cX12_isHouse 2 (some .boolean), Cond.fieldLink RX12 55 "HallTablesModel" "houses" "[I", Cond.methodLink RX12 353 yX12_isSort]
def wsX12_way_r2 : List Cond := [Cond.instanceMethod yX12_isSort, Cond.selects RX12 yX12_isSort yX12_isSort, Cond.code yX12_isSort cX12_isSort 2 (some .boolean), Cond.fieldLink RX12 49 "HallTablesModel" "sorts" "[I", Cond.methodLink RX12 449 yX12_sets, Cond.instanceMethod yX12_sets, Cond.selects RX12 yX12_sets yX12_sets, Cond.code yX12_sets cX12_sets 6 none, Cond.fieldLink RX12 394 "HallTablesModel" "wayMan" "I", Cond.fieldLink RX12 387 "HallTablesModel" "wayBy" "I", Cond.fieldLink RX12 374 "HallTablesModel" "goal" "I", Cond.fieldLink RX12 377 "HallTablesModel" "goalHouse" "I", Cond.fieldLink RX12 380 "HallTablesModel" "goalSort" "I", Cond.methodLink RX12 418 yX12_fillWays, Cond.instanceMethod yX12_fillWays, Cond.selects RX12 yX12_fillWays yX12_fillWays, Cond.code yX12_fillWays cX12_fillWays 6 none, Cond.fieldLink RX12 101 "HallTablesModel" "best" "[J", Cond.constantLong RX12 392 (100000000000000000), Cond.methodLink RX12 408 yX12_hands, Cond.instanceMethod yX12_hands, Cond.selects RX12 yX12_hands yX12_hands, Cond.code yX12_hands cX12_hands 1 (some .int), Cond.methodLink RX12 411 yX12_isThere]
def wsX12_way_r3 : List Cond := [Cond.instanceMethod yX12_isThere, Cond.selects RX12 yX12_isThere yX12_isThere, Cond.code yX12_isThere cX12_isThere 3 (some .boolean), Cond.methodLink RX12 337 yX12_of, Cond.static yX12_of, Cond.code yX12_of cX12_of 2 (some .int), Cond.methodLink RX12 383 yX12_sellsAt, Cond.instanceMethod yX12_sellsAt, Cond.selects RX12 yX12_sellsAt yX12_sellsAt, Cond.code yX12_sellsAt cX12_sellsAt 3 (some .boolean), Cond.fieldLink RX12 64 "HallTablesModel" "sells" "[Z", Cond.methodLink RX12 414 yX12_leastFrom, Cond.instanceMethod yX12_leastFrom, Cond.selects RX12 yX12_leastFrom yX12_leastFrom, Cond.code yX12_leastFrom cX12_leastFrom 9 (some .long), Cond.methodLink RX12 401 yX12_byGoing, Cond.instanceMethod yX12_byGoing, Cond.selects RX12 yX12_byGoing yX12_byGoing, Cond.code yX12_byGoing cX12_byGoing 6 (some .long), Cond.methodLink RX12 350 yX12_doorOf, Cond.instanceMethod yX12_doorOf, Cond.selects RX12 yX12_doorOf yX12_doorOf, Cond.code yX12_doorOf cX12_doorOf 3 (some .int), Cond.fieldLink RX12 71 "HallTablesModel" "minutes" "[I"]
def wsX12_way_r4 : List Cond := [Cond.methodLink RX12 327 yX12_homeOf, Cond.instanceMethod yX12_homeOf, Cond.selects RX12 yX12_homeOf yX12_homeOf, Cond.code yX12_homeOf cX12_homeOf 2 (some .int), Cond.fieldLink RX12 77 "HallTablesModel" "home" "[I", Cond.methodLink RX12 397 yX12_costOf, Cond.instanceMethod yX12_costOf, Cond.selects RX12 yX12_costOf yX12_costOf, Cond.code yX12_costOf cX12_costOf 4 (some .long), Cond.constantLong RX12 390 (100000000), Cond.methodLink RX12 368 yX12_mayLeave, Cond.instanceMethod yX12_mayLeave, Cond.selects RX12 yX12_mayLeave yX12_mayLeave, Cond.code yX12_mayLeave cX12_mayLeave 4 (some .boolean), Cond.fieldLink RX12 83 "HallTablesModel" "laws" "[I", Cond.methodLink RX12 343 yX12_leastOf, Cond.instanceMethod yX12_leastOf, Cond.selects RX12 yX12_leastOf yX12_leastOf, Cond.code yX12_leastOf cX12_leastOf 6 (some .int), Cond.methodLink RX12 340 yX12_worthOf, Cond.instanceMethod yX12_worthOf, Cond.selects RX12 yX12_worthOf yX12_worthOf, Cond.code yX12_worthOf cX12_worthOf 4 (some .int), Cond.fieldLink RX12 58 "HallTablesModel" "worthAt" "[I"]
def wsX12_way_r5 : List Cond := [Cond.fieldLink RX12 52 "HallTablesModel" "plainWorth" "[I", Cond.methodLink RX12 405 yX12_byBuying, Cond.instanceMethod yX12_byBuying, Cond.selects RX12 yX12_byBuying yX12_byBuying, Cond.code yX12_byBuying cX12_byBuying 4 (some .long), Cond.methodLink RX12 453 yX12_findsWay, Cond.instanceMethod yX12_findsWay, Cond.selects RX12 yX12_findsWay yX12_findsWay, Cond.code yX12_findsWay cX12_findsWay 1 (some .boolean), Cond.fieldLink RX12 424 "HallTablesModel" "wayHouse" "I", Cond.fieldLink RX12 427 "HallTablesModel" "wayHand" "I", Cond.methodLink RX12 359 yX12_where, Cond.instanceMethod yX12_where, Cond.selects RX12 yX12_where yX12_where, Cond.code yX12_where cX12_where 2 (some .int), Cond.fieldLink RX12 95 "HallTablesModel" "now" "[I", Cond.methodLink RX12 362 yX12_hand, Cond.instanceMethod yX12_hand, Cond.selects RX12 yX12_hand yX12_hand, Cond.code yX12_hand cX12_hand 2 (some .int), Cond.methodLink RX12 442 yX12_takesStep, Cond.instanceMethod yX12_takesStep, Cond.selects RX12 yX12_takesStep yX12_takesStep, Cond.code yX12_takesStep cX12_takesStep 6 none]
def wsX12_way_r6 : List Cond := [Cond.methodLink RX12 439 yX12_notesStep, Cond.instanceMethod yX12_notesStep, Cond.selects RX12 yX12_notesStep yX12_notesStep, Cond.code yX12_notesStep cX12_notesStep 2 none, Cond.fieldLink RX12 104 "HallTablesModel" "stepCode" "[I"]
def wsX12_way : List Cond := .code yX12_way cX12_way 6 (some .int) :: ((wsX12_way_r1 ++ (wsX12_way_r2 ++ (wsX12_way_r3 ++ (wsX12_way_r4 ++ (wsX12_way_r5 ++ wsX12_way_r6))))) ++ wsX120)
def wsX12_step_r1 : List Cond := [Cond.fieldLink RX12 421 "HallTablesModel" "waySteps" "I", Cond.fieldLink RX12 104 "HallTablesModel" "stepCode" "[I", Cond.methodLink RX12 445 yX12_canAsk, Cond.instanceMethod yX12_canAsk, Cond.selects RX12 yX12_canAsk yX12_canAsk, Cond.initialized RX12, Cond.code yX12_canAsk cX12_canAsk 5 (some .boolean), Cond.methodLink RX12 356 yX12_isMan, Cond.instanceMethod yX12_isMan, Cond.selects RX12 yX12_isMan yX12_isMan, Cond.code yX12_isMan cX12_isMan 2 (some .boolean), Cond.fieldLink RX12 74 "HallTablesModel" "men" "[I", Cond.fieldLink RX12 266 "HallTablesModel" "live" "I", Cond.methodLink RX12 333 yX12_in, Cond.static yX12_in, Cond.code yX12_in cX12_in 3 (some .boolean), Cond.methodLink RX12 347 yX12_isHouse, Cond.instanceMethod yX12_isHouse, Cond.selects RX12 yX12_isHouse yX12_isHouse, Cond.code yX12_isHouse cX12_isHouse 2 (some .boolean), Cond.fieldLink RX12 55 "HallTablesModel" "houses" "[I", Cond.methodLink RX12 353 yX12_isSort, Cond.instanceMethod yX12_isSort, Cond.selects RX12 yX12_isSort yX12_isSort]
def wsX12_step_r2 : List Cond := [Cond.code yX12_isSort cX12_isSort 2 (some .boolean), Cond.fieldLink RX12 49 "HallTablesModel" "sorts" "[I", Cond.methodLink RX12 449 yX12_sets, Cond.instanceMethod yX12_sets, Cond.selects RX12 yX12_sets yX12_sets, Cond.code yX12_sets cX12_sets 6 none, Cond.fieldLink RX12 394 "HallTablesModel" "wayMan" "I", Cond.fieldLink RX12 387 "HallTablesModel" "wayBy" "I", Cond.fieldLink RX12 374 "HallTablesModel" "goal" "I", Cond.fieldLink RX12 377 "HallTablesModel" "goalHouse" "I", Cond.fieldLink RX12 380 "HallTablesModel" "goalSort" "I", Cond.methodLink RX12 418 yX12_fillWays, Cond.instanceMethod yX12_fillWays, Cond.selects RX12 yX12_fillWays yX12_fillWays, Cond.code yX12_fillWays cX12_fillWays 6 none, Cond.fieldLink RX12 101 "HallTablesModel" "best" "[J", Cond.constantLong RX12 392 (100000000000000000), Cond.methodLink RX12 408 yX12_hands, Cond.instanceMethod yX12_hands, Cond.selects RX12 yX12_hands yX12_hands, Cond.code yX12_hands cX12_hands 1 (some .int), Cond.methodLink RX12 411 yX12_isThere, Cond.instanceMethod yX12_isThere, Cond.selects RX12 yX12_isThere yX12_isThere]
def wsX12_step_r3 : List Cond := [Cond.code yX12_isThere cX12_isThere 3 (some .boolean), Cond.methodLink RX12 337 yX12_of, Cond.static yX12_of, Cond.code yX12_of cX12_of 2 (some .int), Cond.methodLink RX12 383 yX12_sellsAt, Cond.instanceMethod yX12_sellsAt, Cond.selects RX12 yX12_sellsAt yX12_sellsAt, Cond.code yX12_sellsAt cX12_sellsAt 3 (some .boolean), Cond.fieldLink RX12 64 "HallTablesModel" "sells" "[Z", Cond.methodLink RX12 414 yX12_leastFrom, Cond.instanceMethod yX12_leastFrom, Cond.selects RX12 yX12_leastFrom yX12_leastFrom, Cond.code yX12_leastFrom cX12_leastFrom 9 (some .long), Cond.methodLink RX12 401 yX12_byGoing, Cond.instanceMethod yX12_byGoing, Cond.selects RX12 yX12_byGoing yX12_byGoing, Cond.code yX12_byGoing cX12_byGoing 6 (some .long), Cond.methodLink RX12 350 yX12_doorOf, Cond.instanceMethod yX12_doorOf, Cond.selects RX12 yX12_doorOf yX12_doorOf, Cond.code yX12_doorOf cX12_doorOf 3 (some .int), Cond.fieldLink RX12 71 "HallTablesModel" "minutes" "[I", Cond.methodLink RX12 327 yX12_homeOf, Cond.instanceMethod yX12_homeOf]
def wsX12_step_r4 : List Cond := [Cond.selects RX12 yX12_homeOf yX12_homeOf, Cond.code yX12_homeOf cX12_homeOf 2 (some .int), Cond.fieldLink RX12 77 "HallTablesModel" "home" "[I", Cond.methodLink RX12 397 yX12_costOf, Cond.instanceMethod yX12_costOf, Cond.selects RX12 yX12_costOf yX12_costOf, Cond.code yX12_costOf cX12_costOf 4 (some .long), Cond.constantLong RX12 390 (100000000), Cond.methodLink RX12 368 yX12_mayLeave, Cond.instanceMethod yX12_mayLeave, Cond.selects RX12 yX12_mayLeave yX12_mayLeave, Cond.code yX12_mayLeave cX12_mayLeave 4 (some .boolean), Cond.fieldLink RX12 83 "HallTablesModel" "laws" "[I", Cond.methodLink RX12 343 yX12_leastOf, Cond.instanceMethod yX12_leastOf, Cond.selects RX12 yX12_leastOf yX12_leastOf, Cond.code yX12_leastOf cX12_leastOf 6 (some .int), Cond.methodLink RX12 340 yX12_worthOf, Cond.instanceMethod yX12_worthOf, Cond.selects RX12 yX12_worthOf yX12_worthOf, Cond.code yX12_worthOf cX12_worthOf 4 (some .int), Cond.fieldLink RX12 58 "HallTablesModel" "worthAt" "[I", Cond.fieldLink RX12 52 "HallTablesModel" "plainWorth" "[I", Cond.methodLink RX12 405 yX12_byBuying]
def wsX12_step_r5 : List Cond := [Cond.instanceMethod yX12_byBuying, Cond.selects RX12 yX12_byBuying yX12_byBuying, Cond.code yX12_byBuying cX12_byBuying 4 (some .long), Cond.methodLink RX12 453 yX12_findsWay, Cond.instanceMethod yX12_findsWay, Cond.selects RX12 yX12_findsWay yX12_findsWay, Cond.code yX12_findsWay cX12_findsWay 1 (some .boolean), Cond.fieldLink RX12 430 "HallTablesModel" "wayDoors" "I", Cond.fieldLink RX12 433 "HallTablesModel" "wayMinutes" "I", Cond.fieldLink RX12 436 "HallTablesModel" "wayLoss" "I", Cond.fieldLink RX12 424 "HallTablesModel" "wayHouse" "I", Cond.fieldLink RX12 427 "HallTablesModel" "wayHand" "I", Cond.methodLink RX12 359 yX12_where, Cond.instanceMethod yX12_where, Cond.selects RX12 yX12_where yX12_where, Cond.code yX12_where cX12_where 2 (some .int), Cond.fieldLink RX12 95 "HallTablesModel" "now" "[I", Cond.methodLink RX12 362 yX12_hand, Cond.instanceMethod yX12_hand, Cond.selects RX12 yX12_hand yX12_hand, Cond.code yX12_hand cX12_hand 2 (some .int), Cond.methodLink RX12 442 yX12_takesStep, Cond.instanceMethod yX12_takesStep, Cond.selects RX12 yX12_takesStep yX12_takesStep]
def wsX12_step_r6 : List Cond := [Cond.code yX12_takesStep cX12_takesStep 6 none, Cond.methodLink RX12 439 yX12_notesStep, Cond.instanceMethod yX12_notesStep, Cond.selects RX12 yX12_notesStep yX12_notesStep, Cond.code yX12_notesStep cX12_notesStep 2 none]
def wsX12_step : List Cond := .code yX12_step cX12_step 6 (some .int) :: ((wsX12_step_r1 ++ (wsX12_step_r2 ++ (wsX12_step_r3 ++ (wsX12_step_r4 ++ (wsX12_step_r5 ++ wsX12_step_r6))))) ++ wsX120)
def wsX12_rid_r1 : List Cond := [Cond.fieldLink RX12 430 "HallTablesModel" "wayDoors" "I", Cond.fieldLink RX12 433 "HallTablesModel" "wayMinutes" "I", Cond.fieldLink RX12 436 "HallTablesModel" "wayLoss" "I", Cond.methodLink RX12 356 yX12_isMan, Cond.instanceMethod yX12_isMan, Cond.selects RX12 yX12_isMan yX12_isMan, Cond.initialized RX12, Cond.code yX12_isMan cX12_isMan 2 (some .boolean), Cond.fieldLink RX12 74 "HallTablesModel" "men" "[I", Cond.fieldLink RX12 266 "HallTablesModel" "live" "I", Cond.methodLink RX12 333 yX12_in, Cond.static yX12_in, Cond.code yX12_in cX12_in 3 (some .boolean), Cond.methodLink RX12 353 yX12_isSort, Cond.instanceMethod yX12_isSort, Cond.selects RX12 yX12_isSort yX12_isSort, Cond.code yX12_isSort cX12_isSort 2 (some .boolean), Cond.fieldLink RX12 49 "HallTablesModel" "sorts" "[I", Cond.methodLink RX12 449 yX12_sets, Cond.instanceMethod yX12_sets, Cond.selects RX12 yX12_sets yX12_sets, Cond.code yX12_sets cX12_sets 6 none, Cond.fieldLink RX12 394 "HallTablesModel" "wayMan" "I", Cond.fieldLink RX12 387 "HallTablesModel" "wayBy" "I"]
def wsX12_rid_r2 : List Cond := [Cond.fieldLink RX12 374 "HallTablesModel" "goal" "I", Cond.fieldLink RX12 377 "HallTablesModel" "goalHouse" "I", Cond.fieldLink RX12 380 "HallTablesModel" "goalSort" "I", Cond.methodLink RX12 418 yX12_fillWays, Cond.instanceMethod yX12_fillWays, Cond.selects RX12 yX12_fillWays yX12_fillWays, Cond.code yX12_fillWays cX12_fillWays 6 none, Cond.fieldLink RX12 55 "HallTablesModel" "houses" "[I", Cond.fieldLink RX12 101 "HallTablesModel" "best" "[J", Cond.constantLong RX12 392 (100000000000000000), Cond.methodLink RX12 408 yX12_hands, Cond.instanceMethod yX12_hands, Cond.selects RX12 yX12_hands yX12_hands, Cond.code yX12_hands cX12_hands 1 (some .int), Cond.methodLink RX12 411 yX12_isThere, Cond.instanceMethod yX12_isThere, Cond.selects RX12 yX12_isThere yX12_isThere, Cond.code yX12_isThere cX12_isThere 3 (some .boolean), Cond.methodLink RX12 337 yX12_of, Cond.static yX12_of, Cond.code yX12_of cX12_of 2 (some .int), Cond.methodLink RX12 383 yX12_sellsAt, Cond.instanceMethod yX12_sellsAt, Cond.selects RX12 yX12_sellsAt yX12_sellsAt]
def wsX12_rid_r3 : List Cond := [Cond.code yX12_sellsAt cX12_sellsAt 3 (some .boolean), Cond.fieldLink RX12 64 "HallTablesModel" "sells" "[Z", Cond.methodLink RX12 414 yX12_leastFrom, Cond.instanceMethod yX12_leastFrom, Cond.selects RX12 yX12_leastFrom yX12_leastFrom, Cond.code yX12_leastFrom cX12_leastFrom 9 (some .long), Cond.methodLink RX12 401 yX12_byGoing, Cond.instanceMethod yX12_byGoing, Cond.selects RX12 yX12_byGoing yX12_byGoing, Cond.code yX12_byGoing cX12_byGoing 6 (some .long), Cond.methodLink RX12 350 yX12_doorOf, Cond.instanceMethod yX12_doorOf, Cond.selects RX12 yX12_doorOf yX12_doorOf, Cond.code yX12_doorOf cX12_doorOf 3 (some .int), Cond.fieldLink RX12 71 "HallTablesModel" "minutes" "[I", Cond.methodLink RX12 327 yX12_homeOf, Cond.instanceMethod yX12_homeOf, Cond.selects RX12 yX12_homeOf yX12_homeOf, Cond.code yX12_homeOf cX12_homeOf 2 (some .int), Cond.fieldLink RX12 77 "HallTablesModel" "home" "[I", Cond.methodLink RX12 397 yX12_costOf, Cond.instanceMethod yX12_costOf, Cond.selects RX12 yX12_costOf yX12_costOf, Cond.code yX12_costOf cX12_costOf 4 (some .long)]
def wsX12_rid_r4 : List Cond := [Cond.constantLong RX12 390 (100000000), Cond.methodLink RX12 368 yX12_mayLeave, Cond.instanceMethod yX12_mayLeave, Cond.selects RX12 yX12_mayLeave yX12_mayLeave, Cond.code yX12_mayLeave cX12_mayLeave 4 (some .boolean), Cond.fieldLink RX12 83 "HallTablesModel" "laws" "[I", Cond.methodLink RX12 343 yX12_leastOf, Cond.instanceMethod yX12_leastOf, Cond.selects RX12 yX12_leastOf yX12_leastOf, Cond.code yX12_leastOf cX12_leastOf 6 (some .int), Cond.methodLink RX12 340 yX12_worthOf, Cond.instanceMethod yX12_worthOf, Cond.selects RX12 yX12_worthOf yX12_worthOf, Cond.code yX12_worthOf cX12_worthOf 4 (some .int), Cond.fieldLink RX12 58 "HallTablesModel" "worthAt" "[I", Cond.fieldLink RX12 52 "HallTablesModel" "plainWorth" "[I", Cond.methodLink RX12 405 yX12_byBuying, Cond.instanceMethod yX12_byBuying, Cond.selects RX12 yX12_byBuying yX12_byBuying, Cond.code yX12_byBuying cX12_byBuying 4 (some .long), Cond.methodLink RX12 453 yX12_findsWay, Cond.instanceMethod yX12_findsWay, Cond.selects RX12 yX12_findsWay yX12_findsWay, Cond.code yX12_findsWay cX12_findsWay 1 (some .boolean)]
def wsX12_rid_r5 : List Cond := [Cond.fieldLink RX12 421 "HallTablesModel" "waySteps" "I", Cond.fieldLink RX12 424 "HallTablesModel" "wayHouse" "I", Cond.fieldLink RX12 427 "HallTablesModel" "wayHand" "I", Cond.methodLink RX12 359 yX12_where, Cond.instanceMethod yX12_where, Cond.selects RX12 yX12_where yX12_where, Cond.code yX12_where cX12_where 2 (some .int), Cond.fieldLink RX12 95 "HallTablesModel" "now" "[I", Cond.methodLink RX12 362 yX12_hand, Cond.instanceMethod yX12_hand, Cond.selects RX12 yX12_hand yX12_hand, Cond.code yX12_hand cX12_hand 2 (some .int), Cond.methodLink RX12 442 yX12_takesStep, Cond.instanceMethod yX12_takesStep, Cond.selects RX12 yX12_takesStep yX12_takesStep, Cond.code yX12_takesStep cX12_takesStep 6 none, Cond.methodLink RX12 439 yX12_notesStep, Cond.instanceMethod yX12_notesStep, Cond.selects RX12 yX12_notesStep yX12_notesStep, Cond.code yX12_notesStep cX12_notesStep 2 none, Cond.fieldLink RX12 104 "HallTablesModel" "stepCode" "[I"]
def wsX12_rid : List Cond := .code yX12_rid cX12_rid 5 (some .int) :: ((wsX12_rid_r1 ++ (wsX12_rid_r2 ++ (wsX12_rid_r3 ++ (wsX12_rid_r4 ++ wsX12_rid_r5)))) ++ wsX120)
def wsX12_get_r1 : List Cond := [Cond.fieldLink RX12 430 "HallTablesModel" "wayDoors" "I", Cond.methodLink RX12 356 yX12_isMan, Cond.instanceMethod yX12_isMan, Cond.selects RX12 yX12_isMan yX12_isMan, Cond.initialized RX12, Cond.code yX12_isMan cX12_isMan 2 (some .boolean), Cond.fieldLink RX12 74 "HallTablesModel" "men" "[I", Cond.fieldLink RX12 266 "HallTablesModel" "live" "I", Cond.methodLink RX12 333 yX12_in, Cond.static yX12_in, Cond.code yX12_in cX12_in 3 (some .boolean), Cond.methodLink RX12 353 yX12_isSort, Cond.instanceMethod yX12_isSort, Cond.selects RX12 yX12_isSort yX12_isSort, Cond.code yX12_isSort cX12_isSort 2 (some .boolean), Cond.fieldLink RX12 49 "HallTablesModel" "sorts" "[I", Cond.methodLink RX12 449 yX12_sets, Cond.instanceMethod yX12_sets, Cond.selects RX12 yX12_sets yX12_sets, Cond.code yX12_sets cX12_sets 6 none, Cond.fieldLink RX12 394 "HallTablesModel" "wayMan" "I", Cond.fieldLink RX12 387 "HallTablesModel" "wayBy" "I", Cond.fieldLink RX12 374 "HallTablesModel" "goal" "I", Cond.fieldLink RX12 377 "HallTablesModel" "goalHouse" "I"]
def wsX12_get_r2 : List Cond := [Cond.fieldLink RX12 380 "HallTablesModel" "goalSort" "I", Cond.methodLink RX12 418 yX12_fillWays, Cond.instanceMethod yX12_fillWays, Cond.selects RX12 yX12_fillWays yX12_fillWays, Cond.code yX12_fillWays cX12_fillWays 6 none, Cond.fieldLink RX12 55 "HallTablesModel" "houses" "[I", Cond.fieldLink RX12 101 "HallTablesModel" "best" "[J", Cond.constantLong RX12 392 (100000000000000000), Cond.methodLink RX12 408 yX12_hands, Cond.instanceMethod yX12_hands, Cond.selects RX12 yX12_hands yX12_hands, Cond.code yX12_hands cX12_hands 1 (some .int), Cond.methodLink RX12 411 yX12_isThere, Cond.instanceMethod yX12_isThere, Cond.selects RX12 yX12_isThere yX12_isThere, Cond.code yX12_isThere cX12_isThere 3 (some .boolean), Cond.methodLink RX12 337 yX12_of, Cond.static yX12_of, Cond.code yX12_of cX12_of 2 (some .int), Cond.methodLink RX12 383 yX12_sellsAt, Cond.instanceMethod yX12_sellsAt, Cond.selects RX12 yX12_sellsAt yX12_sellsAt, Cond.code yX12_sellsAt cX12_sellsAt 3 (some .boolean), Cond.fieldLink RX12 64 "HallTablesModel" "sells" "[Z"]
def wsX12_get_r3 : List Cond := [Cond.methodLink RX12 414 yX12_leastFrom, Cond.instanceMethod yX12_leastFrom, Cond.selects RX12 yX12_leastFrom yX12_leastFrom, Cond.code yX12_leastFrom cX12_leastFrom 9 (some .long), Cond.methodLink RX12 401 yX12_byGoing, Cond.instanceMethod yX12_byGoing, Cond.selects RX12 yX12_byGoing yX12_byGoing, Cond.code yX12_byGoing cX12_byGoing 6 (some .long), Cond.methodLink RX12 350 yX12_doorOf, Cond.instanceMethod yX12_doorOf, Cond.selects RX12 yX12_doorOf yX12_doorOf, Cond.code yX12_doorOf cX12_doorOf 3 (some .int), Cond.fieldLink RX12 71 "HallTablesModel" "minutes" "[I", Cond.methodLink RX12 327 yX12_homeOf, Cond.instanceMethod yX12_homeOf, Cond.selects RX12 yX12_homeOf yX12_homeOf, Cond.code yX12_homeOf cX12_homeOf 2 (some .int), Cond.fieldLink RX12 77 "HallTablesModel" "home" "[I", Cond.methodLink RX12 397 yX12_costOf, Cond.instanceMethod yX12_costOf, Cond.selects RX12 yX12_costOf yX12_costOf, Cond.code yX12_costOf cX12_costOf 4 (some .long), Cond.constantLong RX12 390 (100000000), Cond.methodLink RX12 368 yX12_mayLeave]
def wsX12_get_r4 : List Cond := [Cond.instanceMethod yX12_mayLeave, Cond.selects RX12 yX12_mayLeave yX12_mayLeave, Cond.code yX12_mayLeave cX12_mayLeave 4 (some .boolean), Cond.fieldLink RX12 83 "HallTablesModel" "laws" "[I", Cond.methodLink RX12 343 yX12_leastOf, Cond.instanceMethod yX12_leastOf, Cond.selects RX12 yX12_leastOf yX12_leastOf, Cond.code yX12_leastOf cX12_leastOf 6 (some .int), Cond.methodLink RX12 340 yX12_worthOf, Cond.instanceMethod yX12_worthOf, Cond.selects RX12 yX12_worthOf yX12_worthOf, Cond.code yX12_worthOf cX12_worthOf 4 (some .int), Cond.fieldLink RX12 58 "HallTablesModel" "worthAt" "[I", Cond.fieldLink RX12 52 "HallTablesModel" "plainWorth" "[I", Cond.methodLink RX12 405 yX12_byBuying, Cond.instanceMethod yX12_byBuying, Cond.selects RX12 yX12_byBuying yX12_byBuying, Cond.code yX12_byBuying cX12_byBuying 4 (some .long), Cond.methodLink RX12 453 yX12_findsWay, Cond.instanceMethod yX12_findsWay, Cond.selects RX12 yX12_findsWay yX12_findsWay, Cond.code yX12_findsWay cX12_findsWay 1 (some .boolean), Cond.fieldLink RX12 421 "HallTablesModel" "waySteps" "I", Cond.fieldLink RX12 433 "HallTablesModel" "wayMinutes" "I"]
def wsX12_get_r5 : List Cond := [Cond.fieldLink RX12 436 "HallTablesModel" "wayLoss" "I", Cond.fieldLink RX12 424 "HallTablesModel" "wayHouse" "I", Cond.fieldLink RX12 427 "HallTablesModel" "wayHand" "I", Cond.methodLink RX12 359 yX12_where, Cond.instanceMethod yX12_where, Cond.selects RX12 yX12_where yX12_where, Cond.code yX12_where cX12_where 2 (some .int), Cond.fieldLink RX12 95 "HallTablesModel" "now" "[I", Cond.methodLink RX12 362 yX12_hand, Cond.instanceMethod yX12_hand, Cond.selects RX12 yX12_hand yX12_hand, Cond.code yX12_hand cX12_hand 2 (some .int), Cond.methodLink RX12 442 yX12_takesStep, Cond.instanceMethod yX12_takesStep, Cond.selects RX12 yX12_takesStep yX12_takesStep, Cond.code yX12_takesStep cX12_takesStep 6 none, Cond.methodLink RX12 439 yX12_notesStep, Cond.instanceMethod yX12_notesStep, Cond.selects RX12 yX12_notesStep yX12_notesStep, Cond.code yX12_notesStep cX12_notesStep 2 none, Cond.fieldLink RX12 104 "HallTablesModel" "stepCode" "[I"]
def wsX12_get : List Cond := .code yX12_get cX12_get 3 (some .int) :: ((wsX12_get_r1 ++ (wsX12_get_r2 ++ (wsX12_get_r3 ++ (wsX12_get_r4 ++ wsX12_get_r5)))) ++ wsX120)
def wsX12_inReach_r1 : List Cond := [Cond.fieldLink RX12 55 "HallTablesModel" "houses" "[I", Cond.fieldLink RX12 266 "HallTablesModel" "live" "I", Cond.methodLink RX12 356 yX12_isMan, Cond.instanceMethod yX12_isMan, Cond.selects RX12 yX12_isMan yX12_isMan, Cond.initialized RX12, Cond.code yX12_isMan cX12_isMan 2 (some .boolean), Cond.fieldLink RX12 74 "HallTablesModel" "men" "[I", Cond.methodLink RX12 333 yX12_in, Cond.static yX12_in, Cond.code yX12_in cX12_in 3 (some .boolean), Cond.methodLink RX12 463 yX12_fillReach, Cond.instanceMethod yX12_fillReach, Cond.selects RX12 yX12_fillReach yX12_fillReach, Cond.code yX12_fillReach cX12_fillReach 6 none, Cond.fieldLink RX12 107 "HallTablesModel" "comes" "[Z", Cond.fieldLink RX12 457 "HallTablesModel" "piled" "I", Cond.fieldLink RX12 110 "HallTablesModel" "pile" "[I", Cond.fieldLink RX12 49 "HallTablesModel" "sorts" "[I", Cond.methodLink RX12 359 yX12_where, Cond.instanceMethod yX12_where, Cond.selects RX12 yX12_where yX12_where, Cond.code yX12_where cX12_where 2 (some .int), Cond.fieldLink RX12 95 "HallTablesModel" "now" "[I"]
def wsX12_inReach_r2 : List Cond := [Cond.methodLink RX12 362 yX12_hand, Cond.instanceMethod yX12_hand, Cond.selects RX12 yX12_hand yX12_hand, Cond.code yX12_hand cX12_hand 2 (some .int), Cond.methodLink RX12 460 yX12_comesTo, Cond.instanceMethod yX12_comesTo, Cond.selects RX12 yX12_comesTo yX12_comesTo, Cond.code yX12_comesTo cX12_comesTo 4 none, Cond.methodLink RX12 350 yX12_doorOf, Cond.instanceMethod yX12_doorOf, Cond.selects RX12 yX12_doorOf yX12_doorOf, Cond.code yX12_doorOf cX12_doorOf 3 (some .int), Cond.fieldLink RX12 71 "HallTablesModel" "minutes" "[I", Cond.methodLink RX12 327 yX12_homeOf, Cond.instanceMethod yX12_homeOf, Cond.selects RX12 yX12_homeOf yX12_homeOf, Cond.code yX12_homeOf cX12_homeOf 2 (some .int), Cond.fieldLink RX12 77 "HallTablesModel" "home" "[I", Cond.methodLink RX12 368 yX12_mayLeave, Cond.instanceMethod yX12_mayLeave, Cond.selects RX12 yX12_mayLeave yX12_mayLeave, Cond.code yX12_mayLeave cX12_mayLeave 4 (some .boolean), Cond.fieldLink RX12 83 "HallTablesModel" "laws" "[I", Cond.methodLink RX12 337 yX12_of]
def wsX12_inReach_r3 : List Cond := [Cond.static yX12_of, Cond.code yX12_of cX12_of 2 (some .int), Cond.methodLink RX12 343 yX12_leastOf, Cond.instanceMethod yX12_leastOf, Cond.selects RX12 yX12_leastOf yX12_leastOf, Cond.code yX12_leastOf cX12_leastOf 6 (some .int), Cond.methodLink RX12 340 yX12_worthOf, Cond.instanceMethod yX12_worthOf, Cond.selects RX12 yX12_worthOf yX12_worthOf, Cond.code yX12_worthOf cX12_worthOf 4 (some .int), Cond.fieldLink RX12 58 "HallTablesModel" "worthAt" "[I", Cond.fieldLink RX12 52 "HallTablesModel" "plainWorth" "[I", Cond.methodLink RX12 383 yX12_sellsAt, Cond.instanceMethod yX12_sellsAt, Cond.selects RX12 yX12_sellsAt yX12_sellsAt, Cond.code yX12_sellsAt cX12_sellsAt 3 (some .boolean), Cond.fieldLink RX12 64 "HallTablesModel" "sells" "[Z", Cond.methodLink RX12 466 yX12_mostAt, Cond.instanceMethod yX12_mostAt, Cond.selects RX12 yX12_mostAt yX12_mostAt, Cond.code yX12_mostAt cX12_mostAt 4 (some .int), Cond.methodLink RX12 408 yX12_hands, Cond.instanceMethod yX12_hands, Cond.selects RX12 yX12_hands yX12_hands]
def wsX12_inReach_r4 : List Cond := [Cond.code yX12_hands cX12_hands 1 (some .int), Cond.methodLink RX12 365 yX12_things, Cond.static yX12_things, Cond.code yX12_things cX12_things 3 (some .int)]
def wsX12_inReach : List Cond := .code yX12_inReach cX12_inReach 4 (some .int) :: ((wsX12_inReach_r1 ++ (wsX12_inReach_r2 ++ (wsX12_inReach_r3 ++ wsX12_inReach_r4))) ++ wsX120)
def wsX12_most_r1 : List Cond := [Cond.methodLink RX12 356 yX12_isMan, Cond.instanceMethod yX12_isMan, Cond.selects RX12 yX12_isMan yX12_isMan, Cond.initialized RX12, Cond.code yX12_isMan cX12_isMan 2 (some .boolean), Cond.fieldLink RX12 74 "HallTablesModel" "men" "[I", Cond.fieldLink RX12 266 "HallTablesModel" "live" "I", Cond.methodLink RX12 333 yX12_in, Cond.static yX12_in, Cond.code yX12_in cX12_in 3 (some .boolean), Cond.methodLink RX12 347 yX12_isHouse, Cond.instanceMethod yX12_isHouse, Cond.selects RX12 yX12_isHouse yX12_isHouse, Cond.code yX12_isHouse cX12_isHouse 2 (some .boolean), Cond.fieldLink RX12 55 "HallTablesModel" "houses" "[I", Cond.methodLink RX12 463 yX12_fillReach, Cond.instanceMethod yX12_fillReach, Cond.selects RX12 yX12_fillReach yX12_fillReach, Cond.code yX12_fillReach cX12_fillReach 6 none, Cond.fieldLink RX12 107 "HallTablesModel" "comes" "[Z", Cond.fieldLink RX12 457 "HallTablesModel" "piled" "I", Cond.fieldLink RX12 110 "HallTablesModel" "pile" "[I", Cond.fieldLink RX12 49 "HallTablesModel" "sorts" "[I", Cond.methodLink RX12 359 yX12_where]
def wsX12_most_r2 : List Cond := [Cond.instanceMethod yX12_where, Cond.selects RX12 yX12_where yX12_where, Cond.code yX12_where cX12_where 2 (some .int), Cond.fieldLink RX12 95 "HallTablesModel" "now" "[I", Cond.methodLink RX12 362 yX12_hand, Cond.instanceMethod yX12_hand, Cond.selects RX12 yX12_hand yX12_hand, Cond.code yX12_hand cX12_hand 2 (some .int), Cond.methodLink RX12 460 yX12_comesTo, Cond.instanceMethod yX12_comesTo, Cond.selects RX12 yX12_comesTo yX12_comesTo, Cond.code yX12_comesTo cX12_comesTo 4 none, Cond.methodLink RX12 350 yX12_doorOf, Cond.instanceMethod yX12_doorOf, Cond.selects RX12 yX12_doorOf yX12_doorOf, Cond.code yX12_doorOf cX12_doorOf 3 (some .int), Cond.fieldLink RX12 71 "HallTablesModel" "minutes" "[I", Cond.methodLink RX12 327 yX12_homeOf, Cond.instanceMethod yX12_homeOf, Cond.selects RX12 yX12_homeOf yX12_homeOf, Cond.code yX12_homeOf cX12_homeOf 2 (some .int), Cond.fieldLink RX12 77 "HallTablesModel" "home" "[I", Cond.methodLink RX12 368 yX12_mayLeave, Cond.instanceMethod yX12_mayLeave]
def wsX12_most_r3 : List Cond := [Cond.selects RX12 yX12_mayLeave yX12_mayLeave, Cond.code yX12_mayLeave cX12_mayLeave 4 (some .boolean), Cond.fieldLink RX12 83 "HallTablesModel" "laws" "[I", Cond.methodLink RX12 337 yX12_of, Cond.static yX12_of, Cond.code yX12_of cX12_of 2 (some .int), Cond.methodLink RX12 343 yX12_leastOf, Cond.instanceMethod yX12_leastOf, Cond.selects RX12 yX12_leastOf yX12_leastOf, Cond.code yX12_leastOf cX12_leastOf 6 (some .int), Cond.methodLink RX12 340 yX12_worthOf, Cond.instanceMethod yX12_worthOf, Cond.selects RX12 yX12_worthOf yX12_worthOf, Cond.code yX12_worthOf cX12_worthOf 4 (some .int), Cond.fieldLink RX12 58 "HallTablesModel" "worthAt" "[I", Cond.fieldLink RX12 52 "HallTablesModel" "plainWorth" "[I", Cond.methodLink RX12 383 yX12_sellsAt, Cond.instanceMethod yX12_sellsAt, Cond.selects RX12 yX12_sellsAt yX12_sellsAt, Cond.code yX12_sellsAt cX12_sellsAt 3 (some .boolean), Cond.fieldLink RX12 64 "HallTablesModel" "sells" "[Z", Cond.methodLink RX12 466 yX12_mostAt, Cond.instanceMethod yX12_mostAt, Cond.selects RX12 yX12_mostAt yX12_mostAt]
def wsX12_most_r4 : List Cond := [Cond.code yX12_mostAt cX12_mostAt 4 (some .int), Cond.methodLink RX12 408 yX12_hands, Cond.instanceMethod yX12_hands, Cond.selects RX12 yX12_hands yX12_hands, Cond.code yX12_hands cX12_hands 1 (some .int), Cond.methodLink RX12 365 yX12_things, Cond.static yX12_things, Cond.code yX12_things cX12_things 3 (some .int)]
def wsX12_most : List Cond := .code yX12_most cX12_most 3 (some .int) :: ((wsX12_most_r1 ++ (wsX12_most_r2 ++ (wsX12_most_r3 ++ wsX12_most_r4))) ++ wsX120)
def wsX12_meet_r1 : List Cond := [Cond.fieldLink RX12 55 "HallTablesModel" "houses" "[I", Cond.fieldLink RX12 266 "HallTablesModel" "live" "I", Cond.methodLink RX12 356 yX12_isMan, Cond.instanceMethod yX12_isMan, Cond.selects RX12 yX12_isMan yX12_isMan, Cond.initialized RX12, Cond.code yX12_isMan cX12_isMan 2 (some .boolean), Cond.fieldLink RX12 74 "HallTablesModel" "men" "[I", Cond.methodLink RX12 333 yX12_in, Cond.static yX12_in, Cond.code yX12_in cX12_in 3 (some .boolean), Cond.methodLink RX12 469 yX12_minutesTo, Cond.instanceMethod yX12_minutesTo, Cond.selects RX12 yX12_minutesTo yX12_minutesTo, Cond.code yX12_minutesTo cX12_minutesTo 3 (some .int), Cond.fieldLink RX12 433 "HallTablesModel" "wayMinutes" "I", Cond.methodLink RX12 449 yX12_sets, Cond.instanceMethod yX12_sets, Cond.selects RX12 yX12_sets yX12_sets, Cond.code yX12_sets cX12_sets 6 none, Cond.fieldLink RX12 394 "HallTablesModel" "wayMan" "I", Cond.fieldLink RX12 387 "HallTablesModel" "wayBy" "I", Cond.fieldLink RX12 374 "HallTablesModel" "goal" "I", Cond.fieldLink RX12 377 "HallTablesModel" "goalHouse" "I"]
def wsX12_meet_r2 : List Cond := [Cond.fieldLink RX12 380 "HallTablesModel" "goalSort" "I", Cond.methodLink RX12 418 yX12_fillWays, Cond.instanceMethod yX12_fillWays, Cond.selects RX12 yX12_fillWays yX12_fillWays, Cond.code yX12_fillWays cX12_fillWays 6 none, Cond.fieldLink RX12 101 "HallTablesModel" "best" "[J", Cond.constantLong RX12 392 (100000000000000000), Cond.methodLink RX12 408 yX12_hands, Cond.instanceMethod yX12_hands, Cond.selects RX12 yX12_hands yX12_hands, Cond.code yX12_hands cX12_hands 1 (some .int), Cond.fieldLink RX12 49 "HallTablesModel" "sorts" "[I", Cond.methodLink RX12 411 yX12_isThere, Cond.instanceMethod yX12_isThere, Cond.selects RX12 yX12_isThere yX12_isThere, Cond.code yX12_isThere cX12_isThere 3 (some .boolean), Cond.methodLink RX12 337 yX12_of, Cond.static yX12_of, Cond.code yX12_of cX12_of 2 (some .int), Cond.methodLink RX12 383 yX12_sellsAt, Cond.instanceMethod yX12_sellsAt, Cond.selects RX12 yX12_sellsAt yX12_sellsAt, Cond.code yX12_sellsAt cX12_sellsAt 3 (some .boolean), Cond.fieldLink RX12 64 "HallTablesModel" "sells" "[Z"]
def wsX12_meet_r3 : List Cond := [Cond.methodLink RX12 414 yX12_leastFrom, Cond.instanceMethod yX12_leastFrom, Cond.selects RX12 yX12_leastFrom yX12_leastFrom, Cond.code yX12_leastFrom cX12_leastFrom 9 (some .long), Cond.methodLink RX12 401 yX12_byGoing, Cond.instanceMethod yX12_byGoing, Cond.selects RX12 yX12_byGoing yX12_byGoing, Cond.code yX12_byGoing cX12_byGoing 6 (some .long), Cond.methodLink RX12 350 yX12_doorOf, Cond.instanceMethod yX12_doorOf, Cond.selects RX12 yX12_doorOf yX12_doorOf, Cond.code yX12_doorOf cX12_doorOf 3 (some .int), Cond.fieldLink RX12 71 "HallTablesModel" "minutes" "[I", Cond.methodLink RX12 327 yX12_homeOf, Cond.instanceMethod yX12_homeOf, Cond.selects RX12 yX12_homeOf yX12_homeOf, Cond.code yX12_homeOf cX12_homeOf 2 (some .int), Cond.fieldLink RX12 77 "HallTablesModel" "home" "[I", Cond.methodLink RX12 397 yX12_costOf, Cond.instanceMethod yX12_costOf, Cond.selects RX12 yX12_costOf yX12_costOf, Cond.code yX12_costOf cX12_costOf 4 (some .long), Cond.constantLong RX12 390 (100000000), Cond.methodLink RX12 368 yX12_mayLeave]
def wsX12_meet_r4 : List Cond := [Cond.instanceMethod yX12_mayLeave, Cond.selects RX12 yX12_mayLeave yX12_mayLeave, Cond.code yX12_mayLeave cX12_mayLeave 4 (some .boolean), Cond.fieldLink RX12 83 "HallTablesModel" "laws" "[I", Cond.methodLink RX12 343 yX12_leastOf, Cond.instanceMethod yX12_leastOf, Cond.selects RX12 yX12_leastOf yX12_leastOf, Cond.code yX12_leastOf cX12_leastOf 6 (some .int), Cond.methodLink RX12 340 yX12_worthOf, Cond.instanceMethod yX12_worthOf, Cond.selects RX12 yX12_worthOf yX12_worthOf, Cond.code yX12_worthOf cX12_worthOf 4 (some .int), Cond.fieldLink RX12 58 "HallTablesModel" "worthAt" "[I", Cond.fieldLink RX12 52 "HallTablesModel" "plainWorth" "[I", Cond.methodLink RX12 405 yX12_byBuying, Cond.instanceMethod yX12_byBuying, Cond.selects RX12 yX12_byBuying yX12_byBuying, Cond.code yX12_byBuying cX12_byBuying 4 (some .long), Cond.methodLink RX12 453 yX12_findsWay, Cond.instanceMethod yX12_findsWay, Cond.selects RX12 yX12_findsWay yX12_findsWay, Cond.code yX12_findsWay cX12_findsWay 1 (some .boolean), Cond.fieldLink RX12 421 "HallTablesModel" "waySteps" "I", Cond.fieldLink RX12 430 "HallTablesModel" "wayDoors" "I"]
def wsX12_meet_r5 : List Cond := [Cond.fieldLink RX12 436 "HallTablesModel" "wayLoss" "I", Cond.fieldLink RX12 424 "HallTablesModel" "wayHouse" "I", Cond.fieldLink RX12 427 "HallTablesModel" "wayHand" "I", Cond.methodLink RX12 359 yX12_where, Cond.instanceMethod yX12_where, Cond.selects RX12 yX12_where yX12_where, Cond.code yX12_where cX12_where 2 (some .int), Cond.fieldLink RX12 95 "HallTablesModel" "now" "[I", Cond.methodLink RX12 362 yX12_hand, Cond.instanceMethod yX12_hand, Cond.selects RX12 yX12_hand yX12_hand, Cond.code yX12_hand cX12_hand 2 (some .int), Cond.methodLink RX12 442 yX12_takesStep, Cond.instanceMethod yX12_takesStep, Cond.selects RX12 yX12_takesStep yX12_takesStep, Cond.code yX12_takesStep cX12_takesStep 6 none, Cond.methodLink RX12 439 yX12_notesStep, Cond.instanceMethod yX12_notesStep, Cond.selects RX12 yX12_notesStep yX12_notesStep, Cond.code yX12_notesStep cX12_notesStep 2 none, Cond.fieldLink RX12 104 "HallTablesModel" "stepCode" "[I"]
def wsX12_meet : List Cond := .code yX12_meet cX12_meet 9 (some .int) :: ((wsX12_meet_r1 ++ (wsX12_meet_r2 ++ (wsX12_meet_r3 ++ (wsX12_meet_r4 ++ wsX12_meet_r5)))) ++ wsX120)
def wsX12_riches : List Cond := .code yX12_riches cX12_riches 4 (some .int) :: ([.fieldLink RX12 55 "HallTablesModel" "houses" "[I", .fieldLink RX12 266 "HallTablesModel" "live" "I", .methodLink RX12 347 yX12_isHouse, .instanceMethod yX12_isHouse, .selects RX12 yX12_isHouse yX12_isHouse, .initialized RX12, .code yX12_isHouse cX12_isHouse 2 (some .boolean), .methodLink RX12 333 yX12_in, .static yX12_in, .code yX12_in cX12_in 3 (some .boolean), .methodLink RX12 472 yX12_richesOf, .instanceMethod yX12_richesOf, .selects RX12 yX12_richesOf yX12_richesOf, .code yX12_richesOf cX12_richesOf 4 (some .int), .fieldLink RX12 49 "HallTablesModel" "sorts" "[I", .fieldLink RX12 95 "HallTablesModel" "now" "[I", .methodLink RX12 340 yX12_worthOf, .instanceMethod yX12_worthOf, .selects RX12 yX12_worthOf yX12_worthOf, .code yX12_worthOf cX12_worthOf 4 (some .int), .fieldLink RX12 58 "HallTablesModel" "worthAt" "[I", .fieldLink RX12 52 "HallTablesModel" "plainWorth" "[I"] ++ wsX120)
def wsX12_round_r1 : List Cond := [Cond.fieldLink RX12 55 "HallTablesModel" "houses" "[I", Cond.fieldLink RX12 266 "HallTablesModel" "live" "I", Cond.fieldLink RX12 113 "HallTablesModel" "gone" "[I", Cond.constant RX12 475 (1000000000), Cond.methodLink RX12 356 yX12_isMan, Cond.instanceMethod yX12_isMan, Cond.selects RX12 yX12_isMan yX12_isMan, Cond.initialized RX12, Cond.code yX12_isMan cX12_isMan 2 (some .boolean), Cond.fieldLink RX12 74 "HallTablesModel" "men" "[I", Cond.methodLink RX12 333 yX12_in, Cond.static yX12_in, Cond.code yX12_in cX12_in 3 (some .boolean), Cond.methodLink RX12 327 yX12_homeOf, Cond.instanceMethod yX12_homeOf, Cond.selects RX12 yX12_homeOf yX12_homeOf, Cond.code yX12_homeOf cX12_homeOf 2 (some .int), Cond.fieldLink RX12 77 "HallTablesModel" "home" "[I", Cond.methodLink RX12 359 yX12_where, Cond.instanceMethod yX12_where, Cond.selects RX12 yX12_where yX12_where, Cond.code yX12_where cX12_where 2 (some .int), Cond.fieldLink RX12 95 "HallTablesModel" "now" "[I", Cond.methodLink RX12 362 yX12_hand]
def wsX12_round_r2 : List Cond := [Cond.instanceMethod yX12_hand, Cond.selects RX12 yX12_hand yX12_hand, Cond.code yX12_hand cX12_hand 2 (some .int), Cond.methodLink RX12 365 yX12_things, Cond.static yX12_things, Cond.code yX12_things cX12_things 3 (some .int), Cond.methodLink RX12 476 yX12_goesHome, Cond.instanceMethod yX12_goesHome, Cond.selects RX12 yX12_goesHome yX12_goesHome, Cond.code yX12_goesHome cX12_goesHome 7 none, Cond.methodLink RX12 350 yX12_doorOf, Cond.instanceMethod yX12_doorOf, Cond.selects RX12 yX12_doorOf yX12_doorOf, Cond.code yX12_doorOf cX12_doorOf 3 (some .int), Cond.fieldLink RX12 71 "HallTablesModel" "minutes" "[I", Cond.methodLink RX12 479 yX12_goesOnward, Cond.instanceMethod yX12_goesOnward, Cond.selects RX12 yX12_goesOnward yX12_goesOnward, Cond.code yX12_goesOnward cX12_goesOnward 8 none, Cond.fieldLink RX12 116 "HallTablesModel" "goneThen" "[I"]
def wsX12_round : List Cond := .code yX12_round cX12_round 7 (some .int) :: ((wsX12_round_r1 ++ wsX12_round_r2) ++ wsX120)
def wsX12_carried_r1 : List Cond := [Cond.methodLink RX12 353 yX12_isSort, Cond.instanceMethod yX12_isSort, Cond.selects RX12 yX12_isSort yX12_isSort, Cond.initialized RX12, Cond.code yX12_isSort cX12_isSort 2 (some .boolean), Cond.fieldLink RX12 49 "HallTablesModel" "sorts" "[I", Cond.fieldLink RX12 266 "HallTablesModel" "live" "I", Cond.methodLink RX12 333 yX12_in, Cond.static yX12_in, Cond.code yX12_in cX12_in 3 (some .boolean), Cond.methodLink RX12 347 yX12_isHouse, Cond.instanceMethod yX12_isHouse, Cond.selects RX12 yX12_isHouse yX12_isHouse, Cond.code yX12_isHouse cX12_isHouse 2 (some .boolean), Cond.fieldLink RX12 55 "HallTablesModel" "houses" "[I", Cond.methodLink RX12 494 yX12_lists, Cond.instanceMethod yX12_lists, Cond.selects RX12 yX12_lists yX12_lists, Cond.code yX12_lists cX12_lists 2 none, Cond.fieldLink RX12 86 "HallTablesModel" "calls" "[I", Cond.fieldLink RX12 482 "HallTablesModel" "listed" "I", Cond.fieldLink RX12 119 "HallTablesModel" "listMan" "[I", Cond.fieldLink RX12 89 "HallTablesModel" "callMan" "[I", Cond.fieldLink RX12 122 "HallTablesModel" "listHouse" "[I"]
def wsX12_carried_r2 : List Cond := [Cond.fieldLink RX12 92 "HallTablesModel" "callHouse" "[I", Cond.methodLink RX12 497 yX12_pools, Cond.instanceMethod yX12_pools, Cond.selects RX12 yX12_pools yX12_pools, Cond.code yX12_pools cX12_pools 3 none, Cond.fieldLink RX12 137 "HallTablesModel" "pool" "[I", Cond.fieldLink RX12 61 "HallTablesModel" "hallHas" "[I", Cond.fieldLink RX12 74 "HallTablesModel" "men" "[I", Cond.fieldLink RX12 80 "HallTablesModel" "carries" "[I", Cond.methodLink RX12 327 yX12_homeOf, Cond.instanceMethod yX12_homeOf, Cond.selects RX12 yX12_homeOf yX12_homeOf, Cond.code yX12_homeOf cX12_homeOf 2 (some .int), Cond.fieldLink RX12 77 "HallTablesModel" "home" "[I", Cond.methodLink RX12 500 yX12_carriesTo, Cond.instanceMethod yX12_carriesTo, Cond.selects RX12 yX12_carriesTo yX12_carriesTo, Cond.code yX12_carriesTo cX12_carriesTo 4 (some .int), Cond.fieldLink RX12 128 "HallTablesModel" "waits" "[I", Cond.fieldLink RX12 125 "HallTablesModel" "isUsed" "[Z", Cond.fieldLink RX12 140 "HallTablesModel" "taken" "[I", Cond.methodLink RX12 491 yX12_oneMore, Cond.instanceMethod yX12_oneMore, Cond.selects RX12 yX12_oneMore yX12_oneMore]
def wsX12_carried_r3 : List Cond := [Cond.code yX12_oneMore cX12_oneMore 8 (some .boolean), Cond.fieldLink RX12 131 "HallTablesModel" "cameFrom" "[I", Cond.fieldLink RX12 134 "HallTablesModel" "row" "[I", Cond.methodLink RX12 485 yX12_reaches, Cond.instanceMethod yX12_reaches, Cond.selects RX12 yX12_reaches yX12_reaches, Cond.code yX12_reaches cX12_reaches 4 none, Cond.methodLink RX12 488 yX12_moves, Cond.instanceMethod yX12_moves, Cond.selects RX12 yX12_moves yX12_moves, Cond.code yX12_moves cX12_moves 4 none]
def wsX12_carried : List Cond := .code yX12_carried cX12_carried 3 (some .int) :: ((wsX12_carried_r1 ++ (wsX12_carried_r2 ++ wsX12_carried_r3)) ++ wsX120)
def wsX12_helps_r1 : List Cond := [Cond.fieldLink RX12 86 "HallTablesModel" "calls" "[I", Cond.fieldLink RX12 266 "HallTablesModel" "live" "I", Cond.fieldLink RX12 74 "HallTablesModel" "men" "[I", Cond.fieldLink RX12 55 "HallTablesModel" "houses" "[I", Cond.methodLink RX12 353 yX12_isSort, Cond.instanceMethod yX12_isSort, Cond.selects RX12 yX12_isSort yX12_isSort, Cond.initialized RX12, Cond.code yX12_isSort cX12_isSort 2 (some .boolean), Cond.fieldLink RX12 49 "HallTablesModel" "sorts" "[I", Cond.methodLink RX12 333 yX12_in, Cond.static yX12_in, Cond.code yX12_in cX12_in 3 (some .boolean), Cond.methodLink RX12 347 yX12_isHouse, Cond.instanceMethod yX12_isHouse, Cond.selects RX12 yX12_isHouse yX12_isHouse, Cond.code yX12_isHouse cX12_isHouse 2 (some .boolean), Cond.methodLink RX12 494 yX12_lists, Cond.instanceMethod yX12_lists, Cond.selects RX12 yX12_lists yX12_lists, Cond.code yX12_lists cX12_lists 2 none, Cond.fieldLink RX12 482 "HallTablesModel" "listed" "I", Cond.fieldLink RX12 119 "HallTablesModel" "listMan" "[I", Cond.fieldLink RX12 89 "HallTablesModel" "callMan" "[I"]
def wsX12_helps_r2 : List Cond := [Cond.fieldLink RX12 122 "HallTablesModel" "listHouse" "[I", Cond.fieldLink RX12 92 "HallTablesModel" "callHouse" "[I", Cond.methodLink RX12 497 yX12_pools, Cond.instanceMethod yX12_pools, Cond.selects RX12 yX12_pools yX12_pools, Cond.code yX12_pools cX12_pools 3 none, Cond.fieldLink RX12 137 "HallTablesModel" "pool" "[I", Cond.fieldLink RX12 61 "HallTablesModel" "hallHas" "[I", Cond.fieldLink RX12 80 "HallTablesModel" "carries" "[I", Cond.methodLink RX12 327 yX12_homeOf, Cond.instanceMethod yX12_homeOf, Cond.selects RX12 yX12_homeOf yX12_homeOf, Cond.code yX12_homeOf cX12_homeOf 2 (some .int), Cond.fieldLink RX12 77 "HallTablesModel" "home" "[I", Cond.methodLink RX12 500 yX12_carriesTo, Cond.instanceMethod yX12_carriesTo, Cond.selects RX12 yX12_carriesTo yX12_carriesTo, Cond.code yX12_carriesTo cX12_carriesTo 4 (some .int), Cond.fieldLink RX12 128 "HallTablesModel" "waits" "[I", Cond.fieldLink RX12 125 "HallTablesModel" "isUsed" "[Z", Cond.fieldLink RX12 140 "HallTablesModel" "taken" "[I", Cond.methodLink RX12 491 yX12_oneMore, Cond.instanceMethod yX12_oneMore, Cond.selects RX12 yX12_oneMore yX12_oneMore]
def wsX12_helps_r3 : List Cond := [Cond.code yX12_oneMore cX12_oneMore 8 (some .boolean), Cond.fieldLink RX12 131 "HallTablesModel" "cameFrom" "[I", Cond.fieldLink RX12 134 "HallTablesModel" "row" "[I", Cond.methodLink RX12 485 yX12_reaches, Cond.instanceMethod yX12_reaches, Cond.selects RX12 yX12_reaches yX12_reaches, Cond.code yX12_reaches cX12_reaches 4 none, Cond.methodLink RX12 488 yX12_moves, Cond.instanceMethod yX12_moves, Cond.selects RX12 yX12_moves yX12_moves, Cond.code yX12_moves cX12_moves 4 none, Cond.methodLink RX12 503 yX12_putsIn, Cond.instanceMethod yX12_putsIn, Cond.selects RX12 yX12_putsIn yX12_putsIn, Cond.code yX12_putsIn cX12_putsIn 5 none]
def wsX12_helps : List Cond := .code yX12_helps cX12_helps 10 (some .int) :: ((wsX12_helps_r1 ++ (wsX12_helps_r2 ++ wsX12_helps_r3)) ++ wsX120)
def wsX12_turned_r1 : List Cond := [Cond.fieldLink RX12 86 "HallTablesModel" "calls" "[I", Cond.fieldLink RX12 266 "HallTablesModel" "live" "I", Cond.fieldLink RX12 119 "HallTablesModel" "listMan" "[I", Cond.fieldLink RX12 89 "HallTablesModel" "callMan" "[I", Cond.fieldLink RX12 122 "HallTablesModel" "listHouse" "[I", Cond.fieldLink RX12 92 "HallTablesModel" "callHouse" "[I", Cond.methodLink RX12 353 yX12_isSort, Cond.instanceMethod yX12_isSort, Cond.selects RX12 yX12_isSort yX12_isSort, Cond.initialized RX12, Cond.code yX12_isSort cX12_isSort 2 (some .boolean), Cond.fieldLink RX12 49 "HallTablesModel" "sorts" "[I", Cond.methodLink RX12 333 yX12_in, Cond.static yX12_in, Cond.code yX12_in cX12_in 3 (some .boolean), Cond.methodLink RX12 347 yX12_isHouse, Cond.instanceMethod yX12_isHouse, Cond.selects RX12 yX12_isHouse yX12_isHouse, Cond.code yX12_isHouse cX12_isHouse 2 (some .boolean), Cond.fieldLink RX12 55 "HallTablesModel" "houses" "[I", Cond.methodLink RX12 494 yX12_lists, Cond.instanceMethod yX12_lists, Cond.selects RX12 yX12_lists yX12_lists, Cond.code yX12_lists cX12_lists 2 none]
def wsX12_turned_r2 : List Cond := [Cond.fieldLink RX12 482 "HallTablesModel" "listed" "I", Cond.methodLink RX12 497 yX12_pools, Cond.instanceMethod yX12_pools, Cond.selects RX12 yX12_pools yX12_pools, Cond.code yX12_pools cX12_pools 3 none, Cond.fieldLink RX12 137 "HallTablesModel" "pool" "[I", Cond.fieldLink RX12 61 "HallTablesModel" "hallHas" "[I", Cond.fieldLink RX12 74 "HallTablesModel" "men" "[I", Cond.fieldLink RX12 80 "HallTablesModel" "carries" "[I", Cond.methodLink RX12 327 yX12_homeOf, Cond.instanceMethod yX12_homeOf, Cond.selects RX12 yX12_homeOf yX12_homeOf, Cond.code yX12_homeOf cX12_homeOf 2 (some .int), Cond.fieldLink RX12 77 "HallTablesModel" "home" "[I", Cond.methodLink RX12 500 yX12_carriesTo, Cond.instanceMethod yX12_carriesTo, Cond.selects RX12 yX12_carriesTo yX12_carriesTo, Cond.code yX12_carriesTo cX12_carriesTo 4 (some .int), Cond.fieldLink RX12 128 "HallTablesModel" "waits" "[I", Cond.fieldLink RX12 125 "HallTablesModel" "isUsed" "[Z", Cond.fieldLink RX12 140 "HallTablesModel" "taken" "[I", Cond.methodLink RX12 491 yX12_oneMore, Cond.instanceMethod yX12_oneMore, Cond.selects RX12 yX12_oneMore yX12_oneMore]
def wsX12_turned_r3 : List Cond := [Cond.code yX12_oneMore cX12_oneMore 8 (some .boolean), Cond.fieldLink RX12 131 "HallTablesModel" "cameFrom" "[I", Cond.fieldLink RX12 134 "HallTablesModel" "row" "[I", Cond.methodLink RX12 485 yX12_reaches, Cond.instanceMethod yX12_reaches, Cond.selects RX12 yX12_reaches yX12_reaches, Cond.code yX12_reaches cX12_reaches 4 none, Cond.methodLink RX12 488 yX12_moves, Cond.instanceMethod yX12_moves, Cond.selects RX12 yX12_moves yX12_moves, Cond.code yX12_moves cX12_moves 4 none]
def wsX12_turned : List Cond := .code yX12_turned cX12_turned 8 (some .int) :: ((wsX12_turned_r1 ++ (wsX12_turned_r2 ++ wsX12_turned_r3)) ++ wsX120)
def wsX12_visitors_r1 : List Cond := [Cond.fieldLink RX12 284 "HallTablesModel" "seen" "I", Cond.fieldLink RX12 74 "HallTablesModel" "men" "[I", Cond.fieldLink RX12 266 "HallTablesModel" "live" "I", Cond.fieldLink RX12 182 "HallTablesModel" "fitThere" "[J", Cond.fieldLink RX12 531 "HallTablesModel" "fitAll" "J", Cond.methodLink RX12 347 yX12_isHouse, Cond.instanceMethod yX12_isHouse, Cond.selects RX12 yX12_isHouse yX12_isHouse, Cond.initialized RX12, Cond.code yX12_isHouse cX12_isHouse 2 (some .boolean), Cond.fieldLink RX12 55 "HallTablesModel" "houses" "[I", Cond.methodLink RX12 333 yX12_in, Cond.static yX12_in, Cond.code yX12_in cX12_in 3 (some .boolean), Cond.methodLink RX12 543 yX12_counts, Cond.instanceMethod yX12_counts, Cond.selects RX12 yX12_counts yX12_counts, Cond.code yX12_counts cX12_counts 5 none, Cond.fieldLink RX12 179 "HallTablesModel" "chosen" "[I", Cond.fieldLink RX12 525 "HallTablesModel" "needAll" "I", Cond.fieldLink RX12 522 "HallTablesModel" "kinds" "I", Cond.methodLink RX12 528 yX12_knows, Cond.instanceMethod yX12_knows, Cond.selects RX12 yX12_knows yX12_knows]
def wsX12_visitors_r2 : List Cond := [Cond.code yX12_knows cX12_knows 8 none, Cond.fieldLink RX12 164 "HallTablesModel" "need" "[I", Cond.fieldLink RX12 155 "HallTablesModel" "seenHouse" "[I", Cond.fieldLink RX12 158 "HallTablesModel" "seenSort" "[I", Cond.fieldLink RX12 161 "HallTablesModel" "seenMany" "[I", Cond.fieldLink RX12 167 "HallTablesModel" "kindAt" "[I", Cond.fieldLink RX12 170 "HallTablesModel" "free" "[J", Cond.fieldLink RX12 173 "HallTablesModel" "freeThere" "[J", Cond.fieldLink RX12 176 "HallTablesModel" "canLeave" "[Z", Cond.methodLink RX12 330 yX12_handAtFirst, Cond.instanceMethod yX12_handAtFirst, Cond.selects RX12 yX12_handAtFirst yX12_handAtFirst, Cond.code yX12_handAtFirst cX12_handAtFirst 4 (some .int), Cond.fieldLink RX12 80 "HallTablesModel" "carries" "[I", Cond.methodLink RX12 327 yX12_homeOf, Cond.instanceMethod yX12_homeOf, Cond.selects RX12 yX12_homeOf yX12_homeOf, Cond.code yX12_homeOf cX12_homeOf 2 (some .int), Cond.fieldLink RX12 77 "HallTablesModel" "home" "[I", Cond.methodLink RX12 368 yX12_mayLeave, Cond.instanceMethod yX12_mayLeave, Cond.selects RX12 yX12_mayLeave yX12_mayLeave, Cond.code yX12_mayLeave cX12_mayLeave 4 (some .boolean), Cond.fieldLink RX12 83 "HallTablesModel" "laws" "[I"]
def wsX12_visitors_r3 : List Cond := [Cond.methodLink RX12 337 yX12_of, Cond.static yX12_of, Cond.code yX12_of cX12_of 2 (some .int), Cond.methodLink RX12 343 yX12_leastOf, Cond.instanceMethod yX12_leastOf, Cond.selects RX12 yX12_leastOf yX12_leastOf, Cond.code yX12_leastOf cX12_leastOf 6 (some .int), Cond.fieldLink RX12 49 "HallTablesModel" "sorts" "[I", Cond.methodLink RX12 340 yX12_worthOf, Cond.instanceMethod yX12_worthOf, Cond.selects RX12 yX12_worthOf yX12_worthOf, Cond.code yX12_worthOf cX12_worthOf 4 (some .int), Cond.fieldLink RX12 58 "HallTablesModel" "worthAt" "[I", Cond.fieldLink RX12 52 "HallTablesModel" "plainWorth" "[I", Cond.methodLink RX12 535 yX12_isAllMet, Cond.instanceMethod yX12_isAllMet, Cond.selects RX12 yX12_isAllMet yX12_isAllMet, Cond.code yX12_isAllMet cX12_isAllMet 2 (some .boolean), Cond.fieldLink RX12 185 "HallTablesModel" "met" "[I", Cond.methodLink RX12 538 yX12_adds, Cond.instanceMethod yX12_adds, Cond.selects RX12 yX12_adds yX12_adds, Cond.code yX12_adds cX12_adds 5 none]
def wsX12_visitors : List Cond := .code yX12_visitors cX12_visitors 6 (some .int) :: ((wsX12_visitors_r1 ++ (wsX12_visitors_r2 ++ wsX12_visitors_r3)) ++ wsX120)
set_option maxRecDepth 20000 in
theorem ggX4_begin_J7_fill_53178 : GoodIn wsX4_begin wsJ7_fill_53178 := goodIn_r _ [18] (by decide +kernel) (by decide +kernel)
set_option maxRecDepth 20000 in
theorem gX4_begin_J7_fill_53178 : GoodIn wsX4_begin (va_wsS RX4 45 yJ7_fill_53178 wsJ7_fill_53178) := goodIn_app (goodIn_of _ (by decide +kernel)) ggX4_begin_J7_fill_53178
theorem dX4_begin_0 : decode cX4_begin 0 = .ok (.aload_n 0, 1) := by decide +kernel
theorem dX4_begin_1 : decode cX4_begin 1 = .ok (.aload_n 1, 1) := by decide +kernel
theorem dX4_begin_2 : decode cX4_begin 2 = .ok (.getfield 27, 3) := by decide +kernel
theorem dX4_begin_5 : decode cX4_begin 5 = .ok (.putfield 33, 3) := by decide +kernel
theorem dX4_begin_8 : decode cX4_begin 8 = .ok (.aload_n 1, 1) := by decide +kernel
theorem dX4_begin_9 : decode cX4_begin 9 = .ok (.getfield 34, 3) := by decide +kernel
theorem dX4_begin_12 : decode cX4_begin 12 = .ok (.iconst 0, 1) := by decide +kernel
theorem dX4_begin_13 : decode cX4_begin 13 = .ok (.aload_n 0, 1) := by decide +kernel
theorem dX4_begin_14 : decode cX4_begin 14 = .ok (.getfield 9, 3) := by decide +kernel
theorem dX4_begin_17 : decode cX4_begin 17 = .ok (.iconst 0, 1) := by decide +kernel
theorem dX4_begin_18 : decode cX4_begin 18 = .ok (.bipush 6, 2) := by decide +kernel
theorem dX4_begin_20 : decode cX4_begin 20 = .ok (.invokestatic 37, 3) := by decide +kernel
theorem dX4_begin_23 : decode cX4_begin 23 = .ok (.aload_n 1, 1) := by decide +kernel
theorem dX4_begin_24 : decode cX4_begin 24 = .ok (.getfield 43, 3) := by decide +kernel
theorem dX4_begin_27 : decode cX4_begin 27 = .ok (.iconst 0, 1) := by decide +kernel
theorem dX4_begin_28 : decode cX4_begin 28 = .ok (.aload_n 0, 1) := by decide +kernel
theorem dX4_begin_29 : decode cX4_begin 29 = .ok (.getfield 15, 3) := by decide +kernel
theorem dX4_begin_32 : decode cX4_begin 32 = .ok (.iconst 0, 1) := by decide +kernel
theorem dX4_begin_33 : decode cX4_begin 33 = .ok (.bipush 6, 2) := by decide +kernel
theorem dX4_begin_35 : decode cX4_begin 35 = .ok (.invokestatic 37, 3) := by decide +kernel
theorem dX4_begin_38 : decode cX4_begin 38 = .ok (.aload_n 1, 1) := by decide +kernel
theorem dX4_begin_39 : decode cX4_begin 39 = .ok (.getfield 44, 3) := by decide +kernel
theorem dX4_begin_42 : decode cX4_begin 42 = .ok (.iconst 0, 1) := by decide +kernel
theorem dX4_begin_43 : decode cX4_begin 43 = .ok (.aload_n 0, 1) := by decide +kernel
theorem dX4_begin_44 : decode cX4_begin 44 = .ok (.getfield 24, 3) := by decide +kernel
theorem dX4_begin_47 : decode cX4_begin 47 = .ok (.iconst 0, 1) := by decide +kernel
theorem dX4_begin_48 : decode cX4_begin 48 = .ok (.aload_n 0, 1) := by decide +kernel
theorem dX4_begin_49 : decode cX4_begin 49 = .ok (.getfield 24, 3) := by decide +kernel
theorem dX4_begin_52 : decode cX4_begin 52 = .ok (.arraylength, 1) := by decide +kernel
theorem dX4_begin_53 : decode cX4_begin 53 = .ok (.invokestatic 37, 3) := by decide +kernel
theorem dX4_begin_56 : decode cX4_begin 56 = .ok (.aload_n 0, 1) := by decide +kernel
theorem dX4_begin_57 : decode cX4_begin 57 = .ok (.getfield 18, 3) := by decide +kernel
theorem dX4_begin_60 : decode cX4_begin 60 = .ok (.iconst 0, 1) := by decide +kernel
theorem dX4_begin_61 : decode cX4_begin 61 = .ok (.invokestatic 45, 3) := by decide +kernel
theorem dX4_begin_64 : decode cX4_begin 64 = .ok (.aload_n 0, 1) := by decide +kernel
theorem dX4_begin_65 : decode cX4_begin 65 = .ok (.getfield 21, 3) := by decide +kernel
theorem dX4_begin_68 : decode cX4_begin 68 = .ok (.iconst 0, 1) := by decide +kernel
theorem dX4_begin_69 : decode cX4_begin 69 = .ok (.invokestatic 45, 3) := by decide +kernel
theorem dX4_begin_72 : decode cX4_begin 72 = .ok (.return_, 1) := by decide +kernel
theorem dX4_copyOf_0 : decode cX4_copyOf 0 = .ok (.aload_n 0, 1) := by decide +kernel
theorem dX4_copyOf_1 : decode cX4_copyOf 1 = .ok (.aload_n 1, 1) := by decide +kernel
theorem dX4_copyOf_2 : decode cX4_copyOf 2 = .ok (.getfield 33, 3) := by decide +kernel
theorem dX4_copyOf_5 : decode cX4_copyOf 5 = .ok (.putfield 33, 3) := by decide +kernel
theorem dX4_copyOf_8 : decode cX4_copyOf 8 = .ok (.aload_n 1, 1) := by decide +kernel
theorem dX4_copyOf_9 : decode cX4_copyOf 9 = .ok (.getfield 9, 3) := by decide +kernel
theorem dX4_copyOf_12 : decode cX4_copyOf 12 = .ok (.iconst 0, 1) := by decide +kernel
theorem dX4_copyOf_13 : decode cX4_copyOf 13 = .ok (.aload_n 0, 1) := by decide +kernel
theorem dX4_copyOf_14 : decode cX4_copyOf 14 = .ok (.getfield 9, 3) := by decide +kernel
theorem dX4_copyOf_17 : decode cX4_copyOf 17 = .ok (.iconst 0, 1) := by decide +kernel
theorem dX4_copyOf_18 : decode cX4_copyOf 18 = .ok (.bipush 6, 2) := by decide +kernel
theorem dX4_copyOf_20 : decode cX4_copyOf 20 = .ok (.invokestatic 37, 3) := by decide +kernel
theorem dX4_copyOf_23 : decode cX4_copyOf 23 = .ok (.aload_n 1, 1) := by decide +kernel
theorem dX4_copyOf_24 : decode cX4_copyOf 24 = .ok (.getfield 15, 3) := by decide +kernel
theorem dX4_copyOf_27 : decode cX4_copyOf 27 = .ok (.iconst 0, 1) := by decide +kernel
theorem dX4_copyOf_28 : decode cX4_copyOf 28 = .ok (.aload_n 0, 1) := by decide +kernel
theorem dX4_copyOf_29 : decode cX4_copyOf 29 = .ok (.getfield 15, 3) := by decide +kernel
theorem dX4_copyOf_32 : decode cX4_copyOf 32 = .ok (.iconst 0, 1) := by decide +kernel
theorem dX4_copyOf_33 : decode cX4_copyOf 33 = .ok (.bipush 6, 2) := by decide +kernel
theorem dX4_copyOf_35 : decode cX4_copyOf 35 = .ok (.invokestatic 37, 3) := by decide +kernel
theorem dX4_copyOf_38 : decode cX4_copyOf 38 = .ok (.aload_n 1, 1) := by decide +kernel
theorem dX4_copyOf_39 : decode cX4_copyOf 39 = .ok (.getfield 24, 3) := by decide +kernel
theorem dX4_copyOf_42 : decode cX4_copyOf 42 = .ok (.iconst 0, 1) := by decide +kernel
theorem dX4_copyOf_43 : decode cX4_copyOf 43 = .ok (.aload_n 0, 1) := by decide +kernel
theorem dX4_copyOf_44 : decode cX4_copyOf 44 = .ok (.getfield 24, 3) := by decide +kernel
theorem dX4_copyOf_47 : decode cX4_copyOf 47 = .ok (.iconst 0, 1) := by decide +kernel
theorem dX4_copyOf_48 : decode cX4_copyOf 48 = .ok (.aload_n 0, 1) := by decide +kernel
theorem dX4_copyOf_49 : decode cX4_copyOf 49 = .ok (.getfield 24, 3) := by decide +kernel
theorem dX4_copyOf_52 : decode cX4_copyOf 52 = .ok (.arraylength, 1) := by decide +kernel
theorem dX4_copyOf_53 : decode cX4_copyOf 53 = .ok (.invokestatic 37, 3) := by decide +kernel
theorem dX4_copyOf_56 : decode cX4_copyOf 56 = .ok (.aload_n 1, 1) := by decide +kernel
theorem dX4_copyOf_57 : decode cX4_copyOf 57 = .ok (.getfield 18, 3) := by decide +kernel
theorem dX4_copyOf_60 : decode cX4_copyOf 60 = .ok (.iconst 0, 1) := by decide +kernel
theorem dX4_copyOf_61 : decode cX4_copyOf 61 = .ok (.aload_n 0, 1) := by decide +kernel
theorem dX4_copyOf_62 : decode cX4_copyOf 62 = .ok (.getfield 18, 3) := by decide +kernel
theorem dX4_copyOf_65 : decode cX4_copyOf 65 = .ok (.iconst 0, 1) := by decide +kernel
theorem dX4_copyOf_66 : decode cX4_copyOf 66 = .ok (.bipush 6, 2) := by decide +kernel
theorem dX4_copyOf_68 : decode cX4_copyOf 68 = .ok (.invokestatic 37, 3) := by decide +kernel
theorem dX4_copyOf_71 : decode cX4_copyOf 71 = .ok (.aload_n 1, 1) := by decide +kernel
theorem dX4_copyOf_72 : decode cX4_copyOf 72 = .ok (.getfield 21, 3) := by decide +kernel
theorem dX4_copyOf_75 : decode cX4_copyOf 75 = .ok (.iconst 0, 1) := by decide +kernel
theorem dX4_copyOf_76 : decode cX4_copyOf 76 = .ok (.aload_n 0, 1) := by decide +kernel
theorem dX4_copyOf_77 : decode cX4_copyOf 77 = .ok (.getfield 21, 3) := by decide +kernel
theorem dX4_copyOf_80 : decode cX4_copyOf 80 = .ok (.iconst 0, 1) := by decide +kernel
theorem dX4_copyOf_81 : decode cX4_copyOf 81 = .ok (.bipush 6, 2) := by decide +kernel
theorem dX4_copyOf_83 : decode cX4_copyOf 83 = .ok (.invokestatic 37, 3) := by decide +kernel
theorem dX4_copyOf_86 : decode cX4_copyOf 86 = .ok (.return_, 1) := by decide +kernel
theorem dX4_thingsCarried_0 : decode cX4_thingsCarried 0 = .ok (.iconst 0, 1) := by decide +kernel
theorem dX4_thingsCarried_1 : decode cX4_thingsCarried 1 = .ok (.istore_n 1, 1) := by decide +kernel
theorem dX4_thingsCarried_2 : decode cX4_thingsCarried 2 = .ok (.iconst 0, 1) := by decide +kernel
theorem dX4_thingsCarried_3 : decode cX4_thingsCarried 3 = .ok (.istore_n 2, 1) := by decide +kernel
theorem dX4_thingsCarried_4 : decode cX4_thingsCarried 4 = .ok (.iload_n 2, 1) := by decide +kernel
theorem dX4_thingsCarried_5 : decode cX4_thingsCarried 5 = .ok (.aload_n 0, 1) := by decide +kernel
theorem dX4_thingsCarried_6 : decode cX4_thingsCarried 6 = .ok (.getfield 33, 3) := by decide +kernel
theorem dX4_thingsCarried_9 : decode cX4_thingsCarried 9 = .ok (.if_icmp .ge 21, 3) := by decide +kernel
theorem dX4_thingsCarried_30 : decode cX4_thingsCarried 30 = .ok (.iload_n 1, 1) := by decide +kernel
theorem dX4_thingsCarried_31 : decode cX4_thingsCarried 31 = .ok (.ireturn, 1) := by decide +kernel
theorem dX4_thingsOnTables_0 : decode cX4_thingsOnTables 0 = .ok (.iconst 0, 1) := by decide +kernel
theorem dX4_thingsOnTables_1 : decode cX4_thingsOnTables 1 = .ok (.istore_n 1, 1) := by decide +kernel
theorem dX4_thingsOnTables_2 : decode cX4_thingsOnTables 2 = .ok (.iconst 0, 1) := by decide +kernel
theorem dX4_thingsOnTables_3 : decode cX4_thingsOnTables 3 = .ok (.istore_n 2, 1) := by decide +kernel
theorem dX4_thingsOnTables_4 : decode cX4_thingsOnTables 4 = .ok (.iload_n 2, 1) := by decide +kernel
theorem dX4_thingsOnTables_5 : decode cX4_thingsOnTables 5 = .ok (.aload_n 0, 1) := by decide +kernel
theorem dX4_thingsOnTables_6 : decode cX4_thingsOnTables 6 = .ok (.getfield 24, 3) := by decide +kernel
theorem dX4_thingsOnTables_9 : decode cX4_thingsOnTables 9 = .ok (.arraylength, 1) := by decide +kernel
theorem dX4_thingsOnTables_10 : decode cX4_thingsOnTables 10 = .ok (.if_icmp .ge 18, 3) := by decide +kernel
theorem dX4_thingsOnTables_13 : decode cX4_thingsOnTables 13 = .ok (.iload_n 1, 1) := by decide +kernel
theorem dX4_thingsOnTables_14 : decode cX4_thingsOnTables 14 = .ok (.aload_n 0, 1) := by decide +kernel
theorem dX4_thingsOnTables_15 : decode cX4_thingsOnTables 15 = .ok (.getfield 24, 3) := by decide +kernel
theorem dX4_thingsOnTables_18 : decode cX4_thingsOnTables 18 = .ok (.iload_n 2, 1) := by decide +kernel
theorem dX4_thingsOnTables_19 : decode cX4_thingsOnTables 19 = .ok (.iaload, 1) := by decide +kernel
theorem dX4_thingsOnTables_20 : decode cX4_thingsOnTables 20 = .ok (.iadd, 1) := by decide +kernel
theorem dX4_thingsOnTables_21 : decode cX4_thingsOnTables 21 = .ok (.istore_n 1, 1) := by decide +kernel
theorem dX4_thingsOnTables_22 : decode cX4_thingsOnTables 22 = .ok (.iinc 2 1, 3) := by decide +kernel
theorem dX4_thingsOnTables_25 : decode cX4_thingsOnTables 25 = .ok (.goto (-21), 3) := by decide +kernel
theorem dX4_thingsOnTables_28 : decode cX4_thingsOnTables 28 = .ok (.iload_n 1, 1) := by decide +kernel
theorem dX4_thingsOnTables_29 : decode cX4_thingsOnTables 29 = .ok (.ireturn, 1) := by decide +kernel
theorem dX4_menAtHome_0 : decode cX4_menAtHome 0 = .ok (.iconst 0, 1) := by decide +kernel
theorem dX4_menAtHome_1 : decode cX4_menAtHome 1 = .ok (.istore_n 2, 1) := by decide +kernel
theorem dX4_menAtHome_2 : decode cX4_menAtHome 2 = .ok (.iconst 0, 1) := by decide +kernel
theorem dX4_menAtHome_3 : decode cX4_menAtHome 3 = .ok (.istore_n 3, 1) := by decide +kernel
theorem dX4_menAtHome_4 : decode cX4_menAtHome 4 = .ok (.iload_n 3, 1) := by decide +kernel
theorem dX4_menAtHome_5 : decode cX4_menAtHome 5 = .ok (.aload_n 0, 1) := by decide +kernel
theorem dX4_menAtHome_6 : decode cX4_menAtHome 6 = .ok (.getfield 33, 3) := by decide +kernel
theorem dX4_menAtHome_9 : decode cX4_menAtHome 9 = .ok (.if_icmp .ge 32, 3) := by decide +kernel
theorem dX4_menAtHome_41 : decode cX4_menAtHome 41 = .ok (.iload_n 2, 1) := by decide +kernel
theorem dX4_menAtHome_42 : decode cX4_menAtHome 42 = .ok (.ireturn, 1) := by decide +kernel
theorem dX5_exchange_0 : decode cX5_exchange 0 = .ok (.aload_n 0, 1) := by decide +kernel
theorem dX5_exchange_1 : decode cX5_exchange 1 = .ok (.getfield 21, 3) := by decide +kernel
theorem dX5_exchange_4 : decode cX5_exchange 4 = .ok (.astore_n 2, 1) := by decide +kernel
theorem dX5_exchange_5 : decode cX5_exchange 5 = .ok (.aload_n 0, 1) := by decide +kernel
theorem dX5_exchange_6 : decode cX5_exchange 6 = .ok (.aload_n 1, 1) := by decide +kernel
theorem dX5_exchange_7 : decode cX5_exchange 7 = .ok (.putfield 21, 3) := by decide +kernel
theorem dX5_exchange_10 : decode cX5_exchange 10 = .ok (.aload_n 2, 1) := by decide +kernel
theorem dX5_exchange_11 : decode cX5_exchange 11 = .ok (.areturn, 1) := by decide +kernel
set_option maxRecDepth 20000 in
theorem ggX5_tellAll_X7_clear : GoodIn wsX5_tellAll wsX7_clear := goodIn_r _ [10, 11, 12, 13, 14, 15, 16, 17, 18, 19, 20, 21, 22, 23, 160, 161, 162, 163, 164, 165, 166, 167, 168, 169, 170, 171, 172, 173, 174, 175, 176, 177] (by decide +kernel) (by decide +kernel)
set_option maxRecDepth 20000 in
theorem gX5_tellAll_X7_clear : GoodIn wsX5_tellAll (wsV RX5 25 RX7 yX7_clear wsX7_clear) := goodIn_app (goodIn_of _ (by decide +kernel)) ggX5_tellAll_X7_clear
theorem dX5_tellAll_0 : decode cX5_tellAll 0 = .ok (.aload_n 0, 1) := by decide +kernel
theorem dX5_tellAll_1 : decode cX5_tellAll 1 = .ok (.getfield 21, 3) := by decide +kernel
theorem dX5_tellAll_4 : decode cX5_tellAll 4 = .ok (.invokevirtual 25, 3) := by decide +kernel
theorem dX5_tellAll_7 : decode cX5_tellAll 7 = .ok (.aload_n 0, 1) := by decide +kernel
theorem dX5_tellAll_8 : decode cX5_tellAll 8 = .ok (.iconst 0, 1) := by decide +kernel
theorem dX5_tellAll_9 : decode cX5_tellAll 9 = .ok (.putfield 28, 3) := by decide +kernel
theorem dX5_tellAll_12 : decode cX5_tellAll 12 = .ok (.iconst 0, 1) := by decide +kernel
theorem dX5_tellAll_13 : decode cX5_tellAll 13 = .ok (.istore_n 1, 1) := by decide +kernel
theorem dX5_tellAll_14 : decode cX5_tellAll 14 = .ok (.iload_n 1, 1) := by decide +kernel
theorem dX5_tellAll_15 : decode cX5_tellAll 15 = .ok (.sipush 400, 3) := by decide +kernel
theorem dX5_tellAll_18 : decode cX5_tellAll 18 = .ok (.if_icmp .ge 70, 3) := by decide +kernel
theorem dX5_tellAll_21 : decode cX5_tellAll 21 = .ok (.aload_n 0, 1) := by decide +kernel
theorem dX5_tellAll_22 : decode cX5_tellAll 22 = .ok (.getfield 28, 3) := by decide +kernel
theorem dX5_tellAll_25 : decode cX5_tellAll 25 = .ok (.aload_n 0, 1) := by decide +kernel
theorem dX5_tellAll_26 : decode cX5_tellAll 26 = .ok (.getfield 12, 3) := by decide +kernel
theorem dX5_tellAll_29 : decode cX5_tellAll 29 = .ok (.getfield 32, 3) := by decide +kernel
theorem dX5_tellAll_32 : decode cX5_tellAll 32 = .ok (.if_icmp .ge 56, 3) := by decide +kernel
theorem dX5_tellAll_88 : decode cX5_tellAll 88 = .ok (.return_, 1) := by decide +kernel
theorem dX6_hasRoomFor_0 : decode cX6_hasRoomFor 0 = .ok (.aload_n 0, 1) := by decide +kernel
theorem dX6_hasRoomFor_1 : decode cX6_hasRoomFor 1 = .ok (.getfield 64, 3) := by decide +kernel
theorem dX6_hasRoomFor_4 : decode cX6_hasRoomFor 4 = .ok (.iload_n 1, 1) := by decide +kernel
theorem dX6_hasRoomFor_5 : decode cX6_hasRoomFor 5 = .ok (.iadd, 1) := by decide +kernel
theorem dX6_hasRoomFor_6 : decode cX6_hasRoomFor 6 = .ok (.sipush 2000, 3) := by decide +kernel
theorem dX6_hasRoomFor_9 : decode cX6_hasRoomFor 9 = .ok (.if_icmp .gt 7, 3) := by decide +kernel
theorem dX6_hasRoomFor_12 : decode cX6_hasRoomFor 12 = .ok (.iconst 1, 1) := by decide +kernel
theorem dX6_hasRoomFor_13 : decode cX6_hasRoomFor 13 = .ok (.goto 4, 3) := by decide +kernel
theorem dX6_hasRoomFor_17 : decode cX6_hasRoomFor 17 = .ok (.ireturn, 1) := by decide +kernel
theorem dX6_append_0 : decode cX6_append 0 = .ok (.bipush 24, 2) := by decide +kernel
theorem dX6_append_2 : decode cX6_append 2 = .ok (.istore_n 2, 1) := by decide +kernel
theorem dX6_append_3 : decode cX6_append 3 = .ok (.iload_n 2, 1) := by decide +kernel
theorem dX6_append_4 : decode cX6_append 4 = .ok (.ifCond .lt 42, 3) := by decide +kernel
theorem dX6_append_7 : decode cX6_append 7 = .ok (.aload_n 0, 1) := by decide +kernel
theorem dX6_append_8 : decode cX6_append 8 = .ok (.getfield 64, 3) := by decide +kernel
theorem dX6_append_11 : decode cX6_append 11 = .ok (.sipush 2000, 3) := by decide +kernel
theorem dX6_append_14 : decode cX6_append 14 = .ok (.if_icmp .ge 32, 3) := by decide +kernel
theorem dX6_append_17 : decode cX6_append 17 = .ok (.aload_n 0, 1) := by decide +kernel
theorem dX6_append_18 : decode cX6_append 18 = .ok (.getfield 15, 3) := by decide +kernel
theorem dX6_append_21 : decode cX6_append 21 = .ok (.aload_n 0, 1) := by decide +kernel
theorem dX6_append_22 : decode cX6_append 22 = .ok (.getfield 64, 3) := by decide +kernel
theorem dX6_append_25 : decode cX6_append 25 = .ok (.iload_n 1, 1) := by decide +kernel
theorem dX6_append_26 : decode cX6_append 26 = .ok (.iload_n 2, 1) := by decide +kernel
theorem dX6_append_27 : decode cX6_append 27 = .ok (.ishr, 1) := by decide +kernel
theorem dX6_append_28 : decode cX6_append 28 = .ok (.i2b, 1) := by decide +kernel
theorem dX6_append_29 : decode cX6_append 29 = .ok (.bastore, 1) := by decide +kernel
theorem dX6_append_30 : decode cX6_append 30 = .ok (.aload_n 0, 1) := by decide +kernel
theorem dX6_append_31 : decode cX6_append 31 = .ok (.dup, 1) := by decide +kernel
theorem dX6_append_32 : decode cX6_append 32 = .ok (.getfield 64, 3) := by decide +kernel
theorem dX6_append_35 : decode cX6_append 35 = .ok (.iconst 1, 1) := by decide +kernel
theorem dX6_append_36 : decode cX6_append 36 = .ok (.iadd, 1) := by decide +kernel
theorem dX6_append_37 : decode cX6_append 37 = .ok (.putfield 64, 3) := by decide +kernel
theorem dX6_append_40 : decode cX6_append 40 = .ok (.iinc 2 (-8), 3) := by decide +kernel
theorem dX6_append_43 : decode cX6_append 43 = .ok (.goto (-40), 3) := by decide +kernel
theorem dX6_append_46 : decode cX6_append 46 = .ok (.return_, 1) := by decide +kernel
theorem dX6_note_0 : decode cX6_note 0 = .ok (.aload_n 0, 1) := by decide +kernel
theorem dX6_note_1 : decode cX6_note 1 = .ok (.iload_n 1, 1) := by decide +kernel
theorem dX6_note_2 : decode cX6_note 2 = .ok (.putfield 70, 3) := by decide +kernel
theorem dX6_note_5 : decode cX6_note 5 = .ok (.aload_n 0, 1) := by decide +kernel
theorem dX6_note_6 : decode cX6_note 6 = .ok (.iload_n 2, 1) := by decide +kernel
theorem dX6_note_7 : decode cX6_note 7 = .ok (.putfield 9, 3) := by decide +kernel
theorem dX6_note_10 : decode cX6_note 10 = .ok (.return_, 1) := by decide +kernel
set_option maxRecDepth 20000 in
theorem ggX6_check_X6_note : GoodIn wsX6_check wsX6_note := goodIn_r _ [10, 11, 12, 117, 118, 119, 120, 121, 122, 123, 124, 125, 126, 127, 128] (by decide +kernel) (by decide +kernel)
set_option maxRecDepth 20000 in
theorem gX6_check_X6_note : GoodIn wsX6_check (wsV RX6 73 RX6 yX6_note wsX6_note) := goodIn_app (goodIn_of _ (by decide +kernel)) ggX6_check_X6_note
set_option maxRecDepth 20000 in
theorem ggX6_check_J7_fill_53178 : GoodIn wsX6_check wsJ7_fill_53178 := goodIn_r _ [16] (by decide +kernel) (by decide +kernel)
set_option maxRecDepth 20000 in
theorem gX6_check_J7_fill_53178 : GoodIn wsX6_check (va_wsS RX6 77 yJ7_fill_53178 wsJ7_fill_53178) := goodIn_app (goodIn_of _ (by decide +kernel)) ggX6_check_J7_fill_53178
set_option maxRecDepth 20000 in
theorem ggX6_check_X6_pastBlanks : GoodIn wsX6_check wsX6_pastBlanks := goodIn_r _ [20, 3, 21, 22, 23, 9, 24, 25, 117, 118, 119, 120, 121, 122, 123, 124, 125, 126, 127, 128] (by decide +kernel) (by decide +kernel)
set_option maxRecDepth 20000 in
theorem gX6_check_X6_pastBlanks : GoodIn wsX6_check (wsV RX6 83 RX6 yX6_pastBlanks wsX6_pastBlanks) := goodIn_app (goodIn_of _ (by decide +kernel)) ggX6_check_X6_pastBlanks
theorem dX6_check_0 : decode cX6_check 0 = .ok (.aload_n 0, 1) := by decide +kernel
theorem dX6_check_1 : decode cX6_check 1 = .ok (.iconst 0, 1) := by decide +kernel
theorem dX6_check_2 : decode cX6_check 2 = .ok (.iconst (-1), 1) := by decide +kernel
theorem dX6_check_3 : decode cX6_check 3 = .ok (.invokevirtual 73, 3) := by decide +kernel
theorem dX6_check_6 : decode cX6_check 6 = .ok (.aload_n 0, 1) := by decide +kernel
theorem dX6_check_7 : decode cX6_check 7 = .ok (.iconst 0, 1) := by decide +kernel
theorem dX6_check_8 : decode cX6_check 8 = .ok (.putfield 67, 3) := by decide +kernel
theorem dX6_check_11 : decode cX6_check 11 = .ok (.aload_n 0, 1) := by decide +kernel
theorem dX6_check_12 : decode cX6_check 12 = .ok (.getfield 30, 3) := by decide +kernel
theorem dX6_check_15 : decode cX6_check 15 = .ok (.iconst 0, 1) := by decide +kernel
theorem dX6_check_16 : decode cX6_check 16 = .ok (.invokestatic 77, 3) := by decide +kernel
theorem dX6_check_19 : decode cX6_check 19 = .ok (.iconst (-1), 1) := by decide +kernel
theorem dX6_check_20 : decode cX6_check 20 = .ok (.istore_n 1, 1) := by decide +kernel
theorem dX6_check_21 : decode cX6_check 21 = .ok (.iconst 0, 1) := by decide +kernel
theorem dX6_check_22 : decode cX6_check 22 = .ok (.istore_n 2, 1) := by decide +kernel
theorem dX6_check_23 : decode cX6_check 23 = .ok (.aload_n 0, 1) := by decide +kernel
theorem dX6_check_24 : decode cX6_check 24 = .ok (.iconst 0, 1) := by decide +kernel
theorem dX6_check_25 : decode cX6_check 25 = .ok (.invokevirtual 83, 3) := by decide +kernel
theorem dX6_check_28 : decode cX6_check 28 = .ok (.istore_n 3, 1) := by decide +kernel
theorem dX6_check_29 : decode cX6_check 29 = .ok (.iconst 0, 1) := by decide +kernel
theorem dX6_check_30 : decode cX6_check 30 = .ok (.istore 4, 2) := by decide +kernel
theorem dX6_check_32 : decode cX6_check 32 = .ok (.iload 4, 2) := by decide +kernel
theorem dX6_check_34 : decode cX6_check 34 = .ok (.sipush 2000, 3) := by decide +kernel
theorem dX6_check_37 : decode cX6_check 37 = .ok (.if_icmp .gt 138, 3) := by decide +kernel
theorem dX6_check_40 : decode cX6_check 40 = .ok (.iload_n 3, 1) := by decide +kernel
theorem dX6_check_41 : decode cX6_check 41 = .ok (.aload_n 0, 1) := by decide +kernel
theorem dX6_check_42 : decode cX6_check 42 = .ok (.getfield 64, 3) := by decide +kernel
theorem dX6_check_45 : decode cX6_check 45 = .ok (.if_icmp .ge 130, 3) := by decide +kernel
theorem dX6_check_175 : decode cX6_check 175 = .ok (.iload_n 1, 1) := by decide +kernel
theorem dX6_check_176 : decode cX6_check 176 = .ok (.iconst (-1), 1) := by decide +kernel
theorem dX6_check_177 : decode cX6_check 177 = .ok (.if_icmp .eq 12, 3) := by decide +kernel
theorem dX6_check_189 : decode cX6_check 189 = .ok (.return_, 1) := by decide +kernel
theorem dX6_pastBlanks_0 : decode cX6_pastBlanks 0 = .ok (.iload_n 1, 1) := by decide +kernel
theorem dX6_pastBlanks_1 : decode cX6_pastBlanks 1 = .ok (.istore_n 2, 1) := by decide +kernel
theorem dX6_pastBlanks_2 : decode cX6_pastBlanks 2 = .ok (.iload_n 2, 1) := by decide +kernel
theorem dX6_pastBlanks_3 : decode cX6_pastBlanks 3 = .ok (.aload_n 0, 1) := by decide +kernel
theorem dX6_pastBlanks_4 : decode cX6_pastBlanks 4 = .ok (.getfield 64, 3) := by decide +kernel
theorem dX6_pastBlanks_7 : decode cX6_pastBlanks 7 = .ok (.if_icmp .ge 41, 3) := by decide +kernel
theorem dX6_pastBlanks_48 : decode cX6_pastBlanks 48 = .ok (.aload_n 0, 1) := by decide +kernel
theorem dX6_pastBlanks_49 : decode cX6_pastBlanks 49 = .ok (.getfield 64, 3) := by decide +kernel
theorem dX6_pastBlanks_52 : decode cX6_pastBlanks 52 = .ok (.ireturn, 1) := by decide +kernel
set_option maxRecDepth 20000 in
theorem ggX7_clear_J7_fill_53178 : GoodIn wsX7_clear wsJ7_fill_53178 := goodIn_r _ [13] (by decide +kernel) (by decide +kernel)
set_option maxRecDepth 20000 in
theorem gX7_clear_J7_fill_53178 : GoodIn wsX7_clear (va_wsS RX7 68 yJ7_fill_53178 wsJ7_fill_53178) := goodIn_app (goodIn_of _ (by decide +kernel)) ggX7_clear_J7_fill_53178
theorem dX7_clear_0 : decode cX7_clear 0 = .ok (.aload_n 0, 1) := by decide +kernel
theorem dX7_clear_1 : decode cX7_clear 1 = .ok (.iconst 0, 1) := by decide +kernel
theorem dX7_clear_2 : decode cX7_clear 2 = .ok (.putfield 49, 3) := by decide +kernel
theorem dX7_clear_5 : decode cX7_clear 5 = .ok (.aload_n 0, 1) := by decide +kernel
theorem dX7_clear_6 : decode cX7_clear 6 = .ok (.iconst 0, 1) := by decide +kernel
theorem dX7_clear_7 : decode cX7_clear 7 = .ok (.putfield 53, 3) := by decide +kernel
theorem dX7_clear_10 : decode cX7_clear 10 = .ok (.aload_n 0, 1) := by decide +kernel
theorem dX7_clear_11 : decode cX7_clear 11 = .ok (.iconst 0, 1) := by decide +kernel
theorem dX7_clear_12 : decode cX7_clear 12 = .ok (.putfield 56, 3) := by decide +kernel
theorem dX7_clear_15 : decode cX7_clear 15 = .ok (.aload_n 0, 1) := by decide +kernel
theorem dX7_clear_16 : decode cX7_clear 16 = .ok (.iconst 0, 1) := by decide +kernel
theorem dX7_clear_17 : decode cX7_clear 17 = .ok (.putfield 59, 3) := by decide +kernel
theorem dX7_clear_20 : decode cX7_clear 20 = .ok (.aload_n 0, 1) := by decide +kernel
theorem dX7_clear_21 : decode cX7_clear 21 = .ok (.iconst 0, 1) := by decide +kernel
theorem dX7_clear_22 : decode cX7_clear 22 = .ok (.putfield 62, 3) := by decide +kernel
theorem dX7_clear_25 : decode cX7_clear 25 = .ok (.aload_n 0, 1) := by decide +kernel
theorem dX7_clear_26 : decode cX7_clear 26 = .ok (.iconst 0, 1) := by decide +kernel
theorem dX7_clear_27 : decode cX7_clear 27 = .ok (.putfield 65, 3) := by decide +kernel
theorem dX7_clear_30 : decode cX7_clear 30 = .ok (.aload_n 0, 1) := by decide +kernel
theorem dX7_clear_31 : decode cX7_clear 31 = .ok (.getfield 28, 3) := by decide +kernel
theorem dX7_clear_34 : decode cX7_clear 34 = .ok (.iconst 0, 1) := by decide +kernel
theorem dX7_clear_35 : decode cX7_clear 35 = .ok (.invokestatic 68, 3) := by decide +kernel
theorem dX7_clear_38 : decode cX7_clear 38 = .ok (.aload_n 0, 1) := by decide +kernel
theorem dX7_clear_39 : decode cX7_clear 39 = .ok (.getfield 31, 3) := by decide +kernel
theorem dX7_clear_42 : decode cX7_clear 42 = .ok (.iconst 0, 1) := by decide +kernel
theorem dX7_clear_43 : decode cX7_clear 43 = .ok (.invokestatic 68, 3) := by decide +kernel
theorem dX7_clear_46 : decode cX7_clear 46 = .ok (.aload_n 0, 1) := by decide +kernel
theorem dX7_clear_47 : decode cX7_clear 47 = .ok (.getfield 34, 3) := by decide +kernel
theorem dX7_clear_50 : decode cX7_clear 50 = .ok (.iconst 0, 1) := by decide +kernel
theorem dX7_clear_51 : decode cX7_clear 51 = .ok (.invokestatic 68, 3) := by decide +kernel
theorem dX7_clear_54 : decode cX7_clear 54 = .ok (.return_, 1) := by decide +kernel
theorem dX7_isSort_0 : decode cX7_isSort 0 = .ok (.iload_n 1, 1) := by decide +kernel
theorem dX7_isSort_1 : decode cX7_isSort 1 = .ok (.ifCond .lt 15, 3) := by decide +kernel
theorem dX7_isSort_4 : decode cX7_isSort 4 = .ok (.iload_n 1, 1) := by decide +kernel
theorem dX7_isSort_5 : decode cX7_isSort 5 = .ok (.aload_n 0, 1) := by decide +kernel
theorem dX7_isSort_6 : decode cX7_isSort 6 = .ok (.getfield 49, 3) := by decide +kernel
theorem dX7_isSort_9 : decode cX7_isSort 9 = .ok (.if_icmp .ge 7, 3) := by decide +kernel
theorem dX7_isSort_16 : decode cX7_isSort 16 = .ok (.iconst 0, 1) := by decide +kernel
theorem dX7_isSort_17 : decode cX7_isSort 17 = .ok (.ireturn, 1) := by decide +kernel
theorem dX7_isHouse_0 : decode cX7_isHouse 0 = .ok (.iload_n 1, 1) := by decide +kernel
theorem dX7_isHouse_1 : decode cX7_isHouse 1 = .ok (.ifCond .lt 15, 3) := by decide +kernel
theorem dX7_isHouse_4 : decode cX7_isHouse 4 = .ok (.iload_n 1, 1) := by decide +kernel
theorem dX7_isHouse_5 : decode cX7_isHouse 5 = .ok (.aload_n 0, 1) := by decide +kernel
theorem dX7_isHouse_6 : decode cX7_isHouse 6 = .ok (.getfield 53, 3) := by decide +kernel
theorem dX7_isHouse_9 : decode cX7_isHouse 9 = .ok (.if_icmp .ge 7, 3) := by decide +kernel
theorem dX7_isHouse_16 : decode cX7_isHouse 16 = .ok (.iconst 0, 1) := by decide +kernel
theorem dX7_isHouse_17 : decode cX7_isHouse 17 = .ok (.ireturn, 1) := by decide +kernel
theorem dX7_isMan_0 : decode cX7_isMan 0 = .ok (.iload_n 1, 1) := by decide +kernel
theorem dX7_isMan_1 : decode cX7_isMan 1 = .ok (.ifCond .lt 15, 3) := by decide +kernel
theorem dX7_isMan_4 : decode cX7_isMan 4 = .ok (.iload_n 1, 1) := by decide +kernel
theorem dX7_isMan_5 : decode cX7_isMan 5 = .ok (.aload_n 0, 1) := by decide +kernel
theorem dX7_isMan_6 : decode cX7_isMan 6 = .ok (.getfield 59, 3) := by decide +kernel
theorem dX7_isMan_9 : decode cX7_isMan 9 = .ok (.if_icmp .ge 7, 3) := by decide +kernel
theorem dX7_isMan_16 : decode cX7_isMan 16 = .ok (.iconst 0, 1) := by decide +kernel
theorem dX7_isMan_17 : decode cX7_isMan 17 = .ok (.ireturn, 1) := by decide +kernel
theorem dX8_clear_0 : decode cX8_clear 0 = .ok (.aload_n 0, 1) := by decide +kernel
theorem dX8_clear_1 : decode cX8_clear 1 = .ok (.iconst 0, 1) := by decide +kernel
theorem dX8_clear_2 : decode cX8_clear 2 = .ok (.putfield 24, 3) := by decide +kernel
theorem dX8_clear_5 : decode cX8_clear 5 = .ok (.return_, 1) := by decide +kernel
theorem dX8_takeLast_0 : decode cX8_takeLast 0 = .ok (.aload_n 0, 1) := by decide +kernel
theorem dX8_takeLast_1 : decode cX8_takeLast 1 = .ok (.getfield 24, 3) := by decide +kernel
theorem dX8_takeLast_4 : decode cX8_takeLast 4 = .ok (.ifCond .ne 5, 3) := by decide +kernel
theorem dX8_takeLast_7 : decode cX8_takeLast 7 = .ok (.iconst (-1), 1) := by decide +kernel
theorem dX8_takeLast_8 : decode cX8_takeLast 8 = .ok (.ireturn, 1) := by decide +kernel
theorem dX9_clear_0 : decode cX9_clear 0 = .ok (.aload_n 0, 1) := by decide +kernel
theorem dX9_clear_1 : decode cX9_clear 1 = .ok (.iconst 0, 1) := by decide +kernel
theorem dX9_clear_2 : decode cX9_clear 2 = .ok (.putfield 31, 3) := by decide +kernel
theorem dX9_clear_5 : decode cX9_clear 5 = .ok (.return_, 1) := by decide +kernel
theorem dX9_isKnown_0 : decode cX9_isKnown 0 = .ok (.iload_n 1, 1) := by decide +kernel
theorem dX9_isKnown_1 : decode cX9_isKnown 1 = .ok (.ifCond .lt 15, 3) := by decide +kernel
theorem dX9_isKnown_4 : decode cX9_isKnown 4 = .ok (.iload_n 1, 1) := by decide +kernel
theorem dX9_isKnown_5 : decode cX9_isKnown 5 = .ok (.aload_n 0, 1) := by decide +kernel
theorem dX9_isKnown_6 : decode cX9_isKnown 6 = .ok (.getfield 31, 3) := by decide +kernel
theorem dX9_isKnown_9 : decode cX9_isKnown 9 = .ok (.if_icmp .gt 7, 3) := by decide +kernel
theorem dX9_isKnown_12 : decode cX9_isKnown 12 = .ok (.iconst 1, 1) := by decide +kernel
theorem dX9_isKnown_13 : decode cX9_isKnown 13 = .ok (.goto 4, 3) := by decide +kernel
theorem dX9_isKnown_16 : decode cX9_isKnown 16 = .ok (.iconst 0, 1) := by decide +kernel
theorem dX9_isKnown_17 : decode cX9_isKnown 17 = .ok (.ireturn, 1) := by decide +kernel
set_option maxRecDepth 20000 in
theorem ggX9_know_J7_fill_53178 : GoodIn wsX9_know wsJ7_fill_53178 := goodIn_r _ [14] (by decide +kernel) (by decide +kernel)
set_option maxRecDepth 20000 in
theorem gX9_know_J7_fill_53178 : GoodIn wsX9_know (va_wsS RX9 41 yJ7_fill_53178 wsJ7_fill_53178) := goodIn_app (goodIn_of _ (by decide +kernel)) ggX9_know_J7_fill_53178
theorem dX9_know_0 : decode cX9_know 0 = .ok (.aload_n 0, 1) := by decide +kernel
theorem dX9_know_1 : decode cX9_know 1 = .ok (.getfield 18, 3) := by decide +kernel
theorem dX9_know_4 : decode cX9_know 4 = .ok (.iconst (-1), 1) := by decide +kernel
theorem dX9_know_5 : decode cX9_know 5 = .ok (.invokestatic 41, 3) := by decide +kernel
theorem dX9_know_8 : decode cX9_know 8 = .ok (.iconst 0, 1) := by decide +kernel
theorem dX9_know_9 : decode cX9_know 9 = .ok (.istore_n 3, 1) := by decide +kernel
theorem dX9_know_10 : decode cX9_know 10 = .ok (.iload_n 3, 1) := by decide +kernel
theorem dX9_know_11 : decode cX9_know 11 = .ok (.iload_n 2, 1) := by decide +kernel
theorem dX9_know_12 : decode cX9_know 12 = .ok (.if_icmp .ge 32, 3) := by decide +kernel
theorem dX9_know_44 : decode cX9_know 44 = .ok (.iconst 0, 1) := by decide +kernel
theorem dX9_know_45 : decode cX9_know 45 = .ok (.istore_n 3, 1) := by decide +kernel
theorem dX9_know_46 : decode cX9_know 46 = .ok (.aload_n 0, 1) := by decide +kernel
theorem dX9_know_47 : decode cX9_know 47 = .ok (.iconst 1, 1) := by decide +kernel
theorem dX9_know_48 : decode cX9_know 48 = .ok (.putfield 47, 3) := by decide +kernel
theorem dX9_know_51 : decode cX9_know 51 = .ok (.iconst 0, 1) := by decide +kernel
theorem dX9_know_52 : decode cX9_know 52 = .ok (.istore 4, 2) := by decide +kernel
theorem dX9_know_54 : decode cX9_know 54 = .ok (.iload 4, 2) := by decide +kernel
theorem dX9_know_56 : decode cX9_know 56 = .ok (.aload_n 0, 1) := by decide +kernel
theorem dX9_know_57 : decode cX9_know 57 = .ok (.getfield 18, 3) := by decide +kernel
theorem dX9_know_60 : decode cX9_know 60 = .ok (.arraylength, 1) := by decide +kernel
theorem dX9_know_61 : decode cX9_know 61 = .ok (.if_icmp .ge 66, 3) := by decide +kernel
theorem dX9_know_64 : decode cX9_know 64 = .ok (.iload_n 3, 1) := by decide +kernel
theorem dX9_know_65 : decode cX9_know 65 = .ok (.aload_n 0, 1) := by decide +kernel
theorem dX9_know_66 : decode cX9_know 66 = .ok (.getfield 18, 3) := by decide +kernel
theorem dX9_know_69 : decode cX9_know 69 = .ok (.iload 4, 2) := by decide +kernel
theorem dX9_know_71 : decode cX9_know 71 = .ok (.iaload, 1) := by decide +kernel
theorem dX9_know_72 : decode cX9_know 72 = .ok (.iconst 0, 1) := by decide +kernel
theorem dX9_know_73 : decode cX9_know 73 = .ok (.invokestatic 50, 3) := by decide +kernel
theorem dX9_know_76 : decode cX9_know 76 = .ok (.iadd, 1) := by decide +kernel
theorem dX9_know_77 : decode cX9_know 77 = .ok (.istore_n 3, 1) := by decide +kernel
theorem dX9_know_78 : decode cX9_know 78 = .ok (.iload_n 3, 1) := by decide +kernel
theorem dX9_know_79 : decode cX9_know 79 = .ok (.aload_n 1, 1) := by decide +kernel
theorem dX9_know_80 : decode cX9_know 80 = .ok (.getfield 55, 3) := by decide +kernel
theorem dX9_know_83 : decode cX9_know 83 = .ok (.if_icmp .le 5, 3) := by decide +kernel
theorem dX9_know_88 : decode cX9_know 88 = .ok (.aload_n 0, 1) := by decide +kernel
theorem dX9_know_89 : decode cX9_know 89 = .ok (.getfield 21, 3) := by decide +kernel
theorem dX9_know_92 : decode cX9_know 92 = .ok (.iload 4, 2) := by decide +kernel
theorem dX9_know_94 : decode cX9_know 94 = .ok (.aload_n 0, 1) := by decide +kernel
theorem dX9_know_95 : decode cX9_know 95 = .ok (.getfield 47, 3) := by decide +kernel
theorem dX9_know_98 : decode cX9_know 98 = .ok (.iastore, 1) := by decide +kernel
theorem dX9_know_99 : decode cX9_know 99 = .ok (.aload_n 0, 1) := by decide +kernel
theorem dX9_know_100 : decode cX9_know 100 = .ok (.dup, 1) := by decide +kernel
theorem dX9_know_101 : decode cX9_know 101 = .ok (.getfield 47, 3) := by decide +kernel
theorem dX9_know_104 : decode cX9_know 104 = .ok (.aload_n 0, 1) := by decide +kernel
theorem dX9_know_105 : decode cX9_know 105 = .ok (.getfield 18, 3) := by decide +kernel
theorem dX9_know_108 : decode cX9_know 108 = .ok (.iload 4, 2) := by decide +kernel
theorem dX9_know_110 : decode cX9_know 110 = .ok (.iaload, 1) := by decide +kernel
theorem dX9_know_111 : decode cX9_know 111 = .ok (.iconst 0, 1) := by decide +kernel
theorem dX9_know_112 : decode cX9_know 112 = .ok (.invokestatic 50, 3) := by decide +kernel
theorem dX9_know_115 : decode cX9_know 115 = .ok (.iconst 1, 1) := by decide +kernel
theorem dX9_know_116 : decode cX9_know 116 = .ok (.iadd, 1) := by decide +kernel
theorem dX9_know_117 : decode cX9_know 117 = .ok (.imul, 1) := by decide +kernel
theorem dX9_know_118 : decode cX9_know 118 = .ok (.putfield 47, 3) := by decide +kernel
theorem dX9_know_121 : decode cX9_know 121 = .ok (.iinc 4 1, 3) := by decide +kernel
theorem dX9_know_124 : decode cX9_know 124 = .ok (.goto (-70), 3) := by decide +kernel
theorem dX9_know_127 : decode cX9_know 127 = .ok (.aload_n 0, 1) := by decide +kernel
theorem dX9_know_128 : decode cX9_know 128 = .ok (.getfield 47, 3) := by decide +kernel
theorem dX9_know_131 : decode cX9_know 131 = .ok (.bipush 64, 2) := by decide +kernel
theorem dX9_know_133 : decode cX9_know 133 = .ok (.if_icmp .gt 7, 3) := by decide +kernel
theorem dX9_know_136 : decode cX9_know 136 = .ok (.iconst 1, 1) := by decide +kernel
theorem dX9_know_137 : decode cX9_know 137 = .ok (.goto 4, 3) := by decide +kernel
theorem dX9_know_141 : decode cX9_know 141 = .ok (.ireturn, 1) := by decide +kernel
set_option maxRecDepth 20000 in
theorem ggX9_ways_J7_fill_d0a16 : GoodIn wsX9_ways wsJ7_fill_d0a16 := goodIn_r _ [15] (by decide +kernel) (by decide +kernel)
set_option maxRecDepth 20000 in
theorem gX9_ways_J7_fill_d0a16 : GoodIn wsX9_ways (va_wsS RX9 58 yJ7_fill_d0a16 wsJ7_fill_d0a16) := goodIn_app (goodIn_of _ (by decide +kernel)) ggX9_ways_J7_fill_d0a16
theorem dX9_ways_0 : decode cX9_ways 0 = .ok (.aload_n 0, 1) := by decide +kernel
theorem dX9_ways_1 : decode cX9_ways 1 = .ok (.getfield 24, 3) := by decide +kernel
theorem dX9_ways_4 : decode cX9_ways 4 = .ok (.lconst 0, 1) := by decide +kernel
theorem dX9_ways_5 : decode cX9_ways 5 = .ok (.invokestatic 58, 3) := by decide +kernel
theorem dX9_ways_8 : decode cX9_ways 8 = .ok (.aload_n 0, 1) := by decide +kernel
theorem dX9_ways_9 : decode cX9_ways 9 = .ok (.getfield 24, 3) := by decide +kernel
theorem dX9_ways_12 : decode cX9_ways 12 = .ok (.iconst 0, 1) := by decide +kernel
theorem dX9_ways_13 : decode cX9_ways 13 = .ok (.lconst 1, 1) := by decide +kernel
theorem dX9_ways_14 : decode cX9_ways 14 = .ok (.lastore, 1) := by decide +kernel
theorem dX9_ways_15 : decode cX9_ways 15 = .ok (.iconst 0, 1) := by decide +kernel
theorem dX9_ways_16 : decode cX9_ways 16 = .ok (.istore 4, 2) := by decide +kernel
theorem dX9_ways_18 : decode cX9_ways 18 = .ok (.iload 4, 2) := by decide +kernel
theorem dX9_ways_20 : decode cX9_ways 20 = .ok (.aload_n 1, 1) := by decide +kernel
theorem dX9_ways_21 : decode cX9_ways 21 = .ok (.getfield 55, 3) := by decide +kernel
theorem dX9_ways_24 : decode cX9_ways 24 = .ok (.if_icmp .ge 121, 3) := by decide +kernel
theorem dX9_ways_145 : decode cX9_ways 145 = .ok (.aload_n 0, 1) := by decide +kernel
theorem dX9_ways_146 : decode cX9_ways 146 = .ok (.getfield 24, 3) := by decide +kernel
theorem dX9_ways_149 : decode cX9_ways 149 = .ok (.aload_n 0, 1) := by decide +kernel
theorem dX9_ways_150 : decode cX9_ways 150 = .ok (.getfield 47, 3) := by decide +kernel
theorem dX9_ways_153 : decode cX9_ways 153 = .ok (.iconst 1, 1) := by decide +kernel
theorem dX9_ways_154 : decode cX9_ways 154 = .ok (.isub, 1) := by decide +kernel
theorem dX9_ways_155 : decode cX9_ways 155 = .ok (.laload, 1) := by decide +kernel
theorem dX9_ways_156 : decode cX9_ways 156 = .ok (.lreturn, 1) := by decide +kernel
theorem dX10_forgetLast_0 : decode cX10_forgetLast 0 = .ok (.aload_n 0, 1) := by decide +kernel
theorem dX10_forgetLast_1 : decode cX10_forgetLast 1 = .ok (.iconst 0, 1) := by decide +kernel
theorem dX10_forgetLast_2 : decode cX10_forgetLast 2 = .ok (.putfield 47, 3) := by decide +kernel
theorem dX10_forgetLast_5 : decode cX10_forgetLast 5 = .ok (.return_, 1) := by decide +kernel
set_option maxRecDepth 20000 in
theorem ggX11_feed_X6_hasRoomFor : GoodIn wsX11_feed wsX6_hasRoomFor := goodIn_r _ [7, 8, 25, 26, 27, 28, 29, 30, 31, 32, 33, 34, 35, 36] (by decide +kernel) (by decide +kernel)
set_option maxRecDepth 20000 in
theorem gX11_feed_X6_hasRoomFor : GoodIn wsX11_feed (wsV RX11 81 RX6 yX6_hasRoomFor wsX6_hasRoomFor) := goodIn_app (goodIn_of _ (by decide +kernel)) ggX11_feed_X6_hasRoomFor
set_option maxRecDepth 20000 in
theorem ggX11_feed_X6_append : GoodIn wsX11_feed wsX6_append := goodIn_r _ [12, 8, 13, 25, 26, 27, 28, 29, 30, 31, 32, 33, 34, 35, 36] (by decide +kernel) (by decide +kernel)
set_option maxRecDepth 20000 in
theorem gX11_feed_X6_append : GoodIn wsX11_feed (wsV RX11 87 RX6 yX6_append wsX6_append) := goodIn_app (goodIn_of _ (by decide +kernel)) ggX11_feed_X6_append
theorem dX11_feed_0 : decode cX11_feed 0 = .ok (.aload_n 0, 1) := by decide +kernel
theorem dX11_feed_1 : decode cX11_feed 1 = .ok (.getfield 20, 3) := by decide +kernel
theorem dX11_feed_4 : decode cX11_feed 4 = .ok (.bipush 20, 2) := by decide +kernel
theorem dX11_feed_6 : decode cX11_feed 6 = .ok (.invokevirtual 81, 3) := by decide +kernel
theorem dX11_feed_9 : decode cX11_feed 9 = .ok (.ifCond .ne 5, 3) := by decide +kernel
theorem dX11_feed_14 : decode cX11_feed 14 = .ok (.aload_n 0, 1) := by decide +kernel
theorem dX11_feed_15 : decode cX11_feed 15 = .ok (.getfield 20, 3) := by decide +kernel
theorem dX11_feed_18 : decode cX11_feed 18 = .ok (.iload_n 1, 1) := by decide +kernel
theorem dX11_feed_19 : decode cX11_feed 19 = .ok (.invokevirtual 87, 3) := by decide +kernel
theorem dX11_feed_22 : decode cX11_feed 22 = .ok (.aload_n 0, 1) := by decide +kernel
theorem dX11_feed_23 : decode cX11_feed 23 = .ok (.getfield 20, 3) := by decide +kernel
theorem dX11_feed_26 : decode cX11_feed 26 = .ok (.iload_n 2, 1) := by decide +kernel
theorem dX11_feed_27 : decode cX11_feed 27 = .ok (.invokevirtual 87, 3) := by decide +kernel
theorem dX11_feed_30 : decode cX11_feed 30 = .ok (.aload_n 0, 1) := by decide +kernel
theorem dX11_feed_31 : decode cX11_feed 31 = .ok (.getfield 20, 3) := by decide +kernel
theorem dX11_feed_34 : decode cX11_feed 34 = .ok (.iload_n 3, 1) := by decide +kernel
theorem dX11_feed_35 : decode cX11_feed 35 = .ok (.invokevirtual 87, 3) := by decide +kernel
theorem dX11_feed_38 : decode cX11_feed 38 = .ok (.aload_n 0, 1) := by decide +kernel
theorem dX11_feed_39 : decode cX11_feed 39 = .ok (.getfield 20, 3) := by decide +kernel
theorem dX11_feed_42 : decode cX11_feed 42 = .ok (.iload 4, 2) := by decide +kernel
theorem dX11_feed_44 : decode cX11_feed 44 = .ok (.invokevirtual 87, 3) := by decide +kernel
theorem dX11_feed_47 : decode cX11_feed 47 = .ok (.aload_n 0, 1) := by decide +kernel
theorem dX11_feed_48 : decode cX11_feed 48 = .ok (.getfield 20, 3) := by decide +kernel
theorem dX11_feed_51 : decode cX11_feed 51 = .ok (.iload 5, 2) := by decide +kernel
theorem dX11_feed_53 : decode cX11_feed 53 = .ok (.invokevirtual 87, 3) := by decide +kernel
theorem dX11_feed_56 : decode cX11_feed 56 = .ok (.aload_n 0, 1) := by decide +kernel
theorem dX11_feed_57 : decode cX11_feed 57 = .ok (.getfield 20, 3) := by decide +kernel
theorem dX11_feed_60 : decode cX11_feed 60 = .ok (.getfield 91, 3) := by decide +kernel
theorem dX11_feed_63 : decode cX11_feed 63 = .ok (.ireturn, 1) := by decide +kernel
theorem dX11_back_0 : decode cX11_back 0 = .ok (.iload_n 1, 1) := by decide +kernel
theorem dX11_back_1 : decode cX11_back 1 = .ok (.ifCond .lt 14, 3) := by decide +kernel
theorem dX11_back_4 : decode cX11_back 4 = .ok (.iload_n 1, 1) := by decide +kernel
theorem dX11_back_5 : decode cX11_back 5 = .ok (.aload_n 0, 1) := by decide +kernel
theorem dX11_back_6 : decode cX11_back 6 = .ok (.getfield 20, 3) := by decide +kernel
theorem dX11_back_9 : decode cX11_back 9 = .ok (.getfield 91, 3) := by decide +kernel
theorem dX11_back_12 : decode cX11_back 12 = .ok (.if_icmp .le 5, 3) := by decide +kernel
theorem dX11_back_15 : decode cX11_back 15 = .ok (.iconst (-1), 1) := by decide +kernel
theorem dX11_back_16 : decode cX11_back 16 = .ok (.ireturn, 1) := by decide +kernel
theorem dX11_back_17 : decode cX11_back 17 = .ok (.aload_n 0, 1) := by decide +kernel
theorem dX11_back_18 : decode cX11_back 18 = .ok (.getfield 20, 3) := by decide +kernel
theorem dX11_back_21 : decode cX11_back 21 = .ok (.dup, 1) := by decide +kernel
theorem dX11_back_22 : decode cX11_back 22 = .ok (.getfield 91, 3) := by decide +kernel
theorem dX11_back_25 : decode cX11_back 25 = .ok (.iload_n 1, 1) := by decide +kernel
theorem dX11_back_26 : decode cX11_back 26 = .ok (.isub, 1) := by decide +kernel
theorem dX11_back_27 : decode cX11_back 27 = .ok (.putfield 91, 3) := by decide +kernel
theorem dX11_back_30 : decode cX11_back 30 = .ok (.aload_n 0, 1) := by decide +kernel
theorem dX11_back_31 : decode cX11_back 31 = .ok (.getfield 20, 3) := by decide +kernel
theorem dX11_back_34 : decode cX11_back 34 = .ok (.getfield 91, 3) := by decide +kernel
theorem dX11_back_37 : decode cX11_back 37 = .ok (.ireturn, 1) := by decide +kernel
set_option maxRecDepth 20000 in
theorem ggX11_read_X6_check : GoodIn wsX11_read wsX6_check := goodIn_r _ [9, 10, 11, 12, 13, 14, 15, 16, 17, 8, 18, 19, 20, 21, 22, 23, 24, 25, 26, 27, 28, 29, 30, 31, 32, 33, 34, 35, 36, 37, 38, 39, 40, 41, 42, 43, 44, 45, 46, 47, 48, 49, 50, 51, 52, 53, 54, 55, 56, 57, 58, 59, 60, 61, 62, 63, 64, 65, 66, 67, 68, 69, 70, 71, 72, 73, 74, 75, 76, 77, 78, 79, 80, 81, 82, 83, 84, 85, 86, 87, 88, 89, 90, 91, 92, 93, 94, 95, 96, 97, 98, 99, 100, 101, 102, 103, 104, 105, 106, 107, 108, 109, 110, 111, 112, 113, 114, 115, 116, 117, 118, 119, 120, 121, 122, 123, 124, 324, 325, 326, 327, 328, 329, 330, 331, 332, 333, 334, 335] (by decide +kernel) (by decide +kernel)
set_option maxRecDepth 20000 in
theorem gX11_read_X6_check : GoodIn wsX11_read (wsV RX11 95 RX6 yX6_check wsX6_check) := goodIn_app (goodIn_of _ (by decide +kernel)) ggX11_read_X6_check
set_option maxRecDepth 20000 in
theorem ggX11_read_X5_tellAll : GoodIn wsX11_read wsX5_tellAll := goodIn_r _ [129, 130, 131, 132, 133, 134, 135, 136, 137, 138, 139, 140, 141, 142, 143, 144, 145, 146, 147, 148, 149, 22, 23, 24, 150, 151, 152, 8, 153, 10, 122, 154, 155, 156, 128, 157, 158, 159, 160, 161, 162, 163, 164, 165, 166, 167, 168, 169, 170, 171, 172, 173, 174, 175, 176, 177, 178, 179, 180, 123, 181, 182, 183, 184, 185, 186, 187, 124, 12, 188, 16, 17, 18, 19, 20, 189, 190, 191, 192, 193, 194, 195, 196, 197, 198, 199, 200, 201, 202, 203, 204, 205, 206, 207, 208, 209, 210, 211, 212, 213, 214, 215, 216, 217, 218, 219, 220, 221, 222, 223, 224, 225, 226, 227, 228, 229, 230, 231, 232, 233, 234, 235, 236, 237, 238, 239, 240, 241, 242, 243, 244, 245, 246, 247, 248, 249, 250, 251, 252, 253, 254, 255, 256, 257, 258, 336, 337, 338, 324, 325, 326, 327, 328, 329, 330, 331, 332, 333, 334, 335, 339, 340, 341, 342, 343, 344, 345, 346, 347, 348, 349, 350, 351, 352, 353, 354, 355, 356] (by decide +kernel) (by decide +kernel)
set_option maxRecDepth 20000 in
theorem gX11_read_X5_tellAll : GoodIn wsX11_read (wsV RX11 101 RX5 yX5_tellAll wsX5_tellAll) := goodIn_app (goodIn_of _ (by decide +kernel)) ggX11_read_X5_tellAll
set_option maxRecDepth 20000 in
theorem ggX11_read_X11_moveIn : GoodIn wsX11_read wsX11_moveIn := goodIn_r _ [263, 3, 264, 265, 266, 267, 268, 269, 270, 271, 272, 273, 128, 274, 130, 275, 276, 277, 278, 279, 280, 281, 282, 283, 284, 285, 286, 287, 288, 289, 290, 291, 292, 293, 294, 22, 23, 24, 295, 296, 297, 298, 299, 300, 301, 302, 303, 304, 305, 306, 307, 308, 309, 310, 311, 312, 313, 314, 315, 316, 317, 318, 319, 320, 321, 322, 323, 357, 358, 359, 360, 361, 362, 363, 336, 337, 338, 339, 340, 341, 342, 343, 344, 345, 346, 347, 348, 349, 350, 351, 352, 353, 354, 355, 356, 364, 365, 366, 367, 368, 369, 370, 371, 372, 373, 374, 375, 376, 377, 378, 379, 380, 381, 382, 383, 384, 385, 386, 387, 388, 389, 390, 391, 392, 393, 394, 395] (by decide +kernel) (by decide +kernel)
set_option maxRecDepth 20000 in
theorem gX11_read_X11_moveIn : GoodIn wsX11_read (wsV RX11 104 RX11 yX11_moveIn wsX11_moveIn) := goodIn_app (goodIn_of _ (by decide +kernel)) ggX11_read_X11_moveIn
theorem dX11_read_0 : decode cX11_read 0 = .ok (.aload_n 0, 1) := by decide +kernel
theorem dX11_read_1 : decode cX11_read 1 = .ok (.getfield 20, 3) := by decide +kernel
theorem dX11_read_4 : decode cX11_read 4 = .ok (.invokevirtual 95, 3) := by decide +kernel
theorem dX11_read_7 : decode cX11_read 7 = .ok (.aload_n 0, 1) := by decide +kernel
theorem dX11_read_8 : decode cX11_read 8 = .ok (.getfield 20, 3) := by decide +kernel
theorem dX11_read_11 : decode cX11_read 11 = .ok (.getfield 98, 3) := by decide +kernel
theorem dX11_read_14 : decode cX11_read 14 = .ok (.ifCond .ne 10, 3) := by decide +kernel
theorem dX11_read_17 : decode cX11_read 17 = .ok (.aload_n 0, 1) := by decide +kernel
theorem dX11_read_18 : decode cX11_read 18 = .ok (.getfield 10, 3) := by decide +kernel
theorem dX11_read_21 : decode cX11_read 21 = .ok (.invokevirtual 101, 3) := by decide +kernel
theorem dX11_read_24 : decode cX11_read 24 = .ok (.aload_n 0, 1) := by decide +kernel
theorem dX11_read_25 : decode cX11_read 25 = .ok (.getfield 20, 3) := by decide +kernel
theorem dX11_read_28 : decode cX11_read 28 = .ok (.iconst 0, 1) := by decide +kernel
theorem dX11_read_29 : decode cX11_read 29 = .ok (.putfield 91, 3) := by decide +kernel
theorem dX11_read_32 : decode cX11_read 32 = .ok (.aload_n 0, 1) := by decide +kernel
theorem dX11_read_33 : decode cX11_read 33 = .ok (.getfield 20, 3) := by decide +kernel
theorem dX11_read_36 : decode cX11_read 36 = .ok (.getfield 98, 3) := by decide +kernel
theorem dX11_read_39 : decode cX11_read 39 = .ok (.ifCond .ne 7, 3) := by decide +kernel
theorem dX11_read_42 : decode cX11_read 42 = .ok (.aload_n 0, 1) := by decide +kernel
theorem dX11_read_43 : decode cX11_read 43 = .ok (.invokevirtual 104, 3) := by decide +kernel
theorem dX11_read_46 : decode cX11_read 46 = .ok (.aload_n 0, 1) := by decide +kernel
theorem dX11_read_47 : decode cX11_read 47 = .ok (.getfield 20, 3) := by decide +kernel
theorem dX11_read_50 : decode cX11_read 50 = .ok (.getfield 98, 3) := by decide +kernel
theorem dX11_read_53 : decode cX11_read 53 = .ok (.ireturn, 1) := by decide +kernel
set_option maxRecDepth 20000 in
theorem ggX11_moveIn_X5_exchange : GoodIn wsX11_moveIn wsX5_exchange := goodIn_r _ [13, 14, 74, 75, 76] (by decide +kernel) (by decide +kernel)
set_option maxRecDepth 20000 in
theorem gX11_moveIn_X5_exchange : GoodIn wsX11_moveIn (wsV RX11 107 RX5 yX5_exchange wsX5_exchange) := goodIn_app (goodIn_of _ (by decide +kernel)) ggX11_moveIn_X5_exchange
set_option maxRecDepth 20000 in
theorem ggX11_moveIn_X4_begin : GoodIn wsX11_moveIn wsX4_begin := goodIn_r _ [19, 20, 21, 22, 23, 24, 25, 26, 27, 28, 29, 30, 31, 32, 33, 34, 35, 36, 37, 77, 78, 79, 80, 81, 82, 83, 84, 85, 86, 87, 88, 89, 90, 91, 92, 93, 94, 67, 68, 69, 70, 71, 72, 73] (by decide +kernel) (by decide +kernel)
set_option maxRecDepth 20000 in
theorem gX11_moveIn_X4_begin : GoodIn wsX11_moveIn (wsV RX11 111 RX4 yX4_begin wsX4_begin) := goodIn_app (goodIn_of _ (by decide +kernel)) ggX11_moveIn_X4_begin
set_option maxRecDepth 20000 in
theorem ggX11_moveIn_X8_clear : GoodIn wsX11_moveIn wsX8_clear := goodIn_r _ [42, 43, 95, 96, 97, 98, 99, 100] (by decide +kernel) (by decide +kernel)
set_option maxRecDepth 20000 in
theorem gX11_moveIn_X8_clear : GoodIn wsX11_moveIn (wsV RX11 115 RX8 yX8_clear wsX8_clear) := goodIn_app (goodIn_of _ (by decide +kernel)) ggX11_moveIn_X8_clear
set_option maxRecDepth 20000 in
theorem ggX11_moveIn_X9_clear : GoodIn wsX11_moveIn wsX9_clear := goodIn_r _ [48, 49, 101, 102, 103, 104, 105, 106, 107, 108] (by decide +kernel) (by decide +kernel)
set_option maxRecDepth 20000 in
theorem gX11_moveIn_X9_clear : GoodIn wsX11_moveIn (wsV RX11 118 RX9 yX9_clear wsX9_clear) := goodIn_app (goodIn_of _ (by decide +kernel)) ggX11_moveIn_X9_clear
set_option maxRecDepth 20000 in
theorem ggX11_moveIn_X10_forgetLast : GoodIn wsX11_moveIn wsX10_forgetLast := goodIn_r _ [54, 55, 109, 110, 111, 112, 113, 114, 115, 116, 117, 118, 119, 120, 121, 122, 123, 124, 125, 126] (by decide +kernel) (by decide +kernel)
set_option maxRecDepth 20000 in
theorem gX11_moveIn_X10_forgetLast : GoodIn wsX11_moveIn (wsV RX11 119 RX10 yX10_forgetLast wsX10_forgetLast) := goodIn_app (goodIn_of _ (by decide +kernel)) ggX11_moveIn_X10_forgetLast
theorem dX11_moveIn_0 : decode cX11_moveIn 0 = .ok (.aload_n 0, 1) := by decide +kernel
theorem dX11_moveIn_1 : decode cX11_moveIn 1 = .ok (.aload_n 0, 1) := by decide +kernel
theorem dX11_moveIn_2 : decode cX11_moveIn 2 = .ok (.getfield 10, 3) := by decide +kernel
theorem dX11_moveIn_5 : decode cX11_moveIn 5 = .ok (.aload_n 0, 1) := by decide +kernel
theorem dX11_moveIn_6 : decode cX11_moveIn 6 = .ok (.getfield 77, 3) := by decide +kernel
theorem dX11_moveIn_9 : decode cX11_moveIn 9 = .ok (.invokevirtual 107, 3) := by decide +kernel
theorem dX11_moveIn_12 : decode cX11_moveIn 12 = .ok (.putfield 77, 3) := by decide +kernel
theorem dX11_moveIn_15 : decode cX11_moveIn 15 = .ok (.aload_n 0, 1) := by decide +kernel
theorem dX11_moveIn_16 : decode cX11_moveIn 16 = .ok (.getfield 24, 3) := by decide +kernel
theorem dX11_moveIn_19 : decode cX11_moveIn 19 = .ok (.aload_n 0, 1) := by decide +kernel
theorem dX11_moveIn_20 : decode cX11_moveIn 20 = .ok (.getfield 77, 3) := by decide +kernel
theorem dX11_moveIn_23 : decode cX11_moveIn 23 = .ok (.invokevirtual 111, 3) := by decide +kernel
theorem dX11_moveIn_26 : decode cX11_moveIn 26 = .ok (.aload_n 0, 1) := by decide +kernel
theorem dX11_moveIn_27 : decode cX11_moveIn 27 = .ok (.getfield 35, 3) := by decide +kernel
theorem dX11_moveIn_30 : decode cX11_moveIn 30 = .ok (.invokevirtual 115, 3) := by decide +kernel
theorem dX11_moveIn_33 : decode cX11_moveIn 33 = .ok (.aload_n 0, 1) := by decide +kernel
theorem dX11_moveIn_34 : decode cX11_moveIn 34 = .ok (.getfield 70, 3) := by decide +kernel
theorem dX11_moveIn_37 : decode cX11_moveIn 37 = .ok (.invokevirtual 118, 3) := by decide +kernel
theorem dX11_moveIn_40 : decode cX11_moveIn 40 = .ok (.aload_n 0, 1) := by decide +kernel
theorem dX11_moveIn_41 : decode cX11_moveIn 41 = .ok (.getfield 42, 3) := by decide +kernel
theorem dX11_moveIn_44 : decode cX11_moveIn 44 = .ok (.invokevirtual 119, 3) := by decide +kernel
theorem dX11_moveIn_47 : decode cX11_moveIn 47 = .ok (.iconst 0, 1) := by decide +kernel
theorem dX11_moveIn_48 : decode cX11_moveIn 48 = .ok (.istore_n 1, 1) := by decide +kernel
theorem dX11_moveIn_49 : decode cX11_moveIn 49 = .ok (.iload_n 1, 1) := by decide +kernel
theorem dX11_moveIn_50 : decode cX11_moveIn 50 = .ok (.iconst 3, 1) := by decide +kernel
theorem dX11_moveIn_51 : decode cX11_moveIn 51 = .ok (.if_icmp .ge 19, 3) := by decide +kernel
theorem dX11_moveIn_54 : decode cX11_moveIn 54 = .ok (.aload_n 0, 1) := by decide +kernel
theorem dX11_moveIn_55 : decode cX11_moveIn 55 = .ok (.getfield 28, 3) := by decide +kernel
theorem dX11_moveIn_58 : decode cX11_moveIn 58 = .ok (.iload_n 1, 1) := by decide +kernel
theorem dX11_moveIn_59 : decode cX11_moveIn 59 = .ok (.aaload, 1) := by decide +kernel
theorem dX11_moveIn_60 : decode cX11_moveIn 60 = .ok (.iconst 0, 1) := by decide +kernel
theorem dX11_moveIn_61 : decode cX11_moveIn 61 = .ok (.putfield 122, 3) := by decide +kernel
theorem dX11_moveIn_64 : decode cX11_moveIn 64 = .ok (.iinc 1 1, 3) := by decide +kernel
theorem dX11_moveIn_67 : decode cX11_moveIn 67 = .ok (.goto (-18), 3) := by decide +kernel
theorem dX11_moveIn_70 : decode cX11_moveIn 70 = .ok (.return_, 1) := by decide +kernel
theorem dX11_place_0 : decode cX11_place 0 = .ok (.aload_n 0, 1) := by decide +kernel
theorem dX11_place_1 : decode cX11_place 1 = .ok (.getfield 20, 3) := by decide +kernel
theorem dX11_place_4 : decode cX11_place 4 = .ok (.getfield 126, 3) := by decide +kernel
theorem dX11_place_7 : decode cX11_place 7 = .ok (.ireturn, 1) := by decide +kernel
set_option maxRecDepth 20000 in
theorem ggX11_door_X7_isHouse : GoodIn wsX11_door wsX7_isHouse := goodIn_r _ [6, 7, 24, 25, 26, 27, 28, 29, 30, 31, 32, 33, 34, 35, 36, 37, 38, 39, 40, 41] (by decide +kernel) (by decide +kernel)
set_option maxRecDepth 20000 in
theorem gX11_door_X7_isHouse : GoodIn wsX11_door (wsV RX11 129 RX7 yX7_isHouse wsX7_isHouse) := goodIn_app (goodIn_of _ (by decide +kernel)) ggX11_door_X7_isHouse
theorem dX11_door_0 : decode cX11_door 0 = .ok (.aload_n 0, 1) := by decide +kernel
theorem dX11_door_1 : decode cX11_door 1 = .ok (.getfield 77, 3) := by decide +kernel
theorem dX11_door_4 : decode cX11_door 4 = .ok (.iload_n 1, 1) := by decide +kernel
theorem dX11_door_5 : decode cX11_door 5 = .ok (.invokevirtual 129, 3) := by decide +kernel
theorem dX11_door_8 : decode cX11_door 8 = .ok (.ifCond .eq 19, 3) := by decide +kernel
theorem dX11_door_27 : decode cX11_door 27 = .ok (.iconst (-1), 1) := by decide +kernel
theorem dX11_door_28 : decode cX11_door 28 = .ok (.ireturn, 1) := by decide +kernel
set_option maxRecDepth 20000 in
theorem ggX11_worth_X7_isSort : GoodIn wsX11_worth wsX7_isSort := goodIn_r _ [7, 8, 30, 31, 32, 33, 34, 35, 36, 37, 38, 39, 40, 41, 42, 43, 44, 45, 46, 47] (by decide +kernel) (by decide +kernel)
set_option maxRecDepth 20000 in
theorem gX11_worth_X7_isSort : GoodIn wsX11_worth (wsV RX11 136 RX7 yX7_isSort wsX7_isSort) := goodIn_app (goodIn_of _ (by decide +kernel)) ggX11_worth_X7_isSort
theorem dX11_worth_0 : decode cX11_worth 0 = .ok (.aload_n 0, 1) := by decide +kernel
theorem dX11_worth_1 : decode cX11_worth 1 = .ok (.getfield 77, 3) := by decide +kernel
theorem dX11_worth_4 : decode cX11_worth 4 = .ok (.iload_n 2, 1) := by decide +kernel
theorem dX11_worth_5 : decode cX11_worth 5 = .ok (.invokevirtual 136, 3) := by decide +kernel
theorem dX11_worth_8 : decode cX11_worth 8 = .ok (.ifCond .eq 19, 3) := by decide +kernel
theorem dX11_worth_27 : decode cX11_worth 27 = .ok (.iconst (-1), 1) := by decide +kernel
theorem dX11_worth_28 : decode cX11_worth 28 = .ok (.ireturn, 1) := by decide +kernel
set_option maxRecDepth 20000 in
theorem ggX11_table_X7_isHouse : GoodIn wsX11_table wsX7_isHouse := goodIn_r _ [8, 9, 36, 37, 38, 39, 40, 41, 42, 43, 44, 45, 46, 47, 48, 49, 50, 51, 52, 53] (by decide +kernel) (by decide +kernel)
set_option maxRecDepth 20000 in
theorem gX11_table_X7_isHouse : GoodIn wsX11_table (wsV RX11 129 RX7 yX7_isHouse wsX7_isHouse) := goodIn_app (goodIn_of _ (by decide +kernel)) ggX11_table_X7_isHouse
theorem dX11_table_0 : decode cX11_table 0 = .ok (.aload_n 0, 1) := by decide +kernel
theorem dX11_table_1 : decode cX11_table 1 = .ok (.getfield 77, 3) := by decide +kernel
theorem dX11_table_4 : decode cX11_table 4 = .ok (.iload_n 1, 1) := by decide +kernel
theorem dX11_table_5 : decode cX11_table 5 = .ok (.invokevirtual 129, 3) := by decide +kernel
theorem dX11_table_8 : decode cX11_table 8 = .ok (.ifCond .eq 14, 3) := by decide +kernel
theorem dX11_table_22 : decode cX11_table 22 = .ok (.iconst (-1), 1) := by decide +kernel
theorem dX11_table_23 : decode cX11_table 23 = .ok (.ireturn, 1) := by decide +kernel
set_option maxRecDepth 20000 in
theorem ggX11_man_X7_isMan : GoodIn wsX11_man wsX7_isMan := goodIn_r _ [12, 13, 42, 43, 44, 45, 46, 47, 48, 49, 50, 51, 52, 53, 54, 55, 56, 57, 58, 59] (by decide +kernel) (by decide +kernel)
set_option maxRecDepth 20000 in
theorem gX11_man_X7_isMan : GoodIn wsX11_man (wsV RX11 152 RX7 yX7_isMan wsX7_isMan) := goodIn_app (goodIn_of _ (by decide +kernel)) ggX11_man_X7_isMan
theorem dX11_man_0 : decode cX11_man 0 = .ok (.aload_n 0, 1) := by decide +kernel
theorem dX11_man_1 : decode cX11_man 1 = .ok (.getfield 77, 3) := by decide +kernel
theorem dX11_man_4 : decode cX11_man 4 = .ok (.iload_n 1, 1) := by decide +kernel
theorem dX11_man_5 : decode cX11_man 5 = .ok (.invokevirtual 152, 3) := by decide +kernel
theorem dX11_man_8 : decode cX11_man 8 = .ok (.ifCond .ne 5, 3) := by decide +kernel
theorem dX11_man_11 : decode cX11_man 11 = .ok (.iconst (-1), 1) := by decide +kernel
theorem dX11_man_12 : decode cX11_man 12 = .ok (.ireturn, 1) := by decide +kernel
set_option maxRecDepth 20000 in
theorem ggX11_has_X7_isMan : GoodIn wsX11_has wsX7_isMan := goodIn_r _ [8, 9, 36, 37, 38, 39, 40, 41, 42, 43, 44, 45, 46, 47, 48, 49, 50, 51, 52, 53] (by decide +kernel) (by decide +kernel)
set_option maxRecDepth 20000 in
theorem gX11_has_X7_isMan : GoodIn wsX11_has (wsV RX11 152 RX7 yX7_isMan wsX7_isMan) := goodIn_app (goodIn_of _ (by decide +kernel)) ggX11_has_X7_isMan
theorem dX11_has_0 : decode cX11_has 0 = .ok (.aload_n 0, 1) := by decide +kernel
theorem dX11_has_1 : decode cX11_has 1 = .ok (.getfield 77, 3) := by decide +kernel
theorem dX11_has_4 : decode cX11_has 4 = .ok (.iload_n 1, 1) := by decide +kernel
theorem dX11_has_5 : decode cX11_has 5 = .ok (.invokevirtual 152, 3) := by decide +kernel
theorem dX11_has_8 : decode cX11_has 8 = .ok (.ifCond .eq 14, 3) := by decide +kernel
theorem dX11_has_22 : decode cX11_has 22 = .ok (.iconst (-1), 1) := by decide +kernel
theorem dX11_has_23 : decode cX11_has 23 = .ok (.ireturn, 1) := by decide +kernel
set_option maxRecDepth 20000 in
theorem ggX11_may_X7_isMan : GoodIn wsX11_may wsX7_isMan := goodIn_r _ [9, 10, 54, 55, 56, 57, 58, 59, 60, 61, 62, 63, 64, 65, 66, 67, 68, 69, 70, 71] (by decide +kernel) (by decide +kernel)
set_option maxRecDepth 20000 in
theorem gX11_may_X7_isMan : GoodIn wsX11_may (wsV RX11 152 RX7 yX7_isMan wsX7_isMan) := goodIn_app (goodIn_of _ (by decide +kernel)) ggX11_may_X7_isMan
theorem dX11_may_0 : decode cX11_may 0 = .ok (.aload_n 0, 1) := by decide +kernel
theorem dX11_may_1 : decode cX11_may 1 = .ok (.getfield 77, 3) := by decide +kernel
theorem dX11_may_4 : decode cX11_may 4 = .ok (.iload_n 1, 1) := by decide +kernel
theorem dX11_may_5 : decode cX11_may 5 = .ok (.invokevirtual 152, 3) := by decide +kernel
theorem dX11_may_8 : decode cX11_may 8 = .ok (.ifCond .eq 38, 3) := by decide +kernel
theorem dX11_may_46 : decode cX11_may 46 = .ok (.iconst (-1), 1) := by decide +kernel
theorem dX11_may_47 : decode cX11_may 47 = .ok (.ireturn, 1) := by decide +kernel
set_option maxRecDepth 20000 in
theorem ggX11_go_X7_isMan : GoodIn wsX11_go wsX7_isMan := goodIn_r _ [11, 12, 101, 102, 103, 104, 105, 106, 107, 108, 109, 110, 111, 112, 113, 114, 115, 116, 117, 118] (by decide +kernel) (by decide +kernel)
set_option maxRecDepth 20000 in
theorem gX11_go_X7_isMan : GoodIn wsX11_go (wsV RX11 152 RX7 yX7_isMan wsX7_isMan) := goodIn_app (goodIn_of _ (by decide +kernel)) ggX11_go_X7_isMan
theorem dX11_go_0 : decode cX11_go 0 = .ok (.aload_n 0, 1) := by decide +kernel
theorem dX11_go_1 : decode cX11_go 1 = .ok (.getfield 77, 3) := by decide +kernel
theorem dX11_go_4 : decode cX11_go 4 = .ok (.iload_n 1, 1) := by decide +kernel
theorem dX11_go_5 : decode cX11_go 5 = .ok (.invokevirtual 152, 3) := by decide +kernel
theorem dX11_go_8 : decode cX11_go 8 = .ok (.ifCond .eq 30, 3) := by decide +kernel
theorem dX11_go_38 : decode cX11_go 38 = .ok (.iconst (-1), 1) := by decide +kernel
theorem dX11_go_39 : decode cX11_go 39 = .ok (.ireturn, 1) := by decide +kernel
set_option maxRecDepth 20000 in
theorem ggX11_buy_X7_isMan : GoodIn wsX11_buy wsX7_isMan := goodIn_r _ [11, 12, 62, 63, 64, 65, 66, 67, 68, 69, 70, 71, 72, 73, 74, 75, 76, 77, 78, 79] (by decide +kernel) (by decide +kernel)
set_option maxRecDepth 20000 in
theorem gX11_buy_X7_isMan : GoodIn wsX11_buy (wsV RX11 152 RX7 yX7_isMan wsX7_isMan) := goodIn_app (goodIn_of _ (by decide +kernel)) ggX11_buy_X7_isMan
theorem dX11_buy_0 : decode cX11_buy 0 = .ok (.aload_n 0, 1) := by decide +kernel
theorem dX11_buy_1 : decode cX11_buy 1 = .ok (.getfield 77, 3) := by decide +kernel
theorem dX11_buy_4 : decode cX11_buy 4 = .ok (.iload_n 1, 1) := by decide +kernel
theorem dX11_buy_5 : decode cX11_buy 5 = .ok (.invokevirtual 152, 3) := by decide +kernel
theorem dX11_buy_8 : decode cX11_buy 8 = .ok (.ifCond .eq 14, 3) := by decide +kernel
theorem dX11_buy_22 : decode cX11_buy 22 = .ok (.iconst (-1), 1) := by decide +kernel
theorem dX11_buy_23 : decode cX11_buy 23 = .ok (.ireturn, 1) := by decide +kernel
set_option maxRecDepth 20000 in
theorem ggX11_undo_X8_takeLast : GoodIn wsX11_undo wsX8_takeLast := goodIn_r _ [8, 9, 10, 48, 49, 50, 51, 52, 53] (by decide +kernel) (by decide +kernel)
set_option maxRecDepth 20000 in
theorem gX11_undo_X8_takeLast : GoodIn wsX11_undo (wsV RX11 196 RX8 yX8_takeLast wsX8_takeLast) := goodIn_app (goodIn_of _ (by decide +kernel)) ggX11_undo_X8_takeLast
theorem dX11_undo_0 : decode cX11_undo 0 = .ok (.aload_n 0, 1) := by decide +kernel
theorem dX11_undo_1 : decode cX11_undo 1 = .ok (.getfield 35, 3) := by decide +kernel
theorem dX11_undo_4 : decode cX11_undo 4 = .ok (.invokevirtual 196, 3) := by decide +kernel
theorem dX11_undo_7 : decode cX11_undo 7 = .ok (.istore_n 1, 1) := by decide +kernel
theorem dX11_undo_8 : decode cX11_undo 8 = .ok (.iload_n 1, 1) := by decide +kernel
theorem dX11_undo_9 : decode cX11_undo 9 = .ok (.iconst (-1), 1) := by decide +kernel
theorem dX11_undo_10 : decode cX11_undo 10 = .ok (.if_icmp .ne 5, 3) := by decide +kernel
theorem dX11_undo_13 : decode cX11_undo 13 = .ok (.iconst 0, 1) := by decide +kernel
theorem dX11_undo_14 : decode cX11_undo 14 = .ok (.ireturn, 1) := by decide +kernel
set_option maxRecDepth 20000 in
theorem ggX11_way_X11_isWay : GoodIn wsX11_way wsX11_isWay := goodIn_r _ [9, 2, 10, 11, 12, 13, 14, 15, 16, 17, 18, 19, 20, 21, 22, 23, 24, 25, 26, 27, 28, 29, 201, 202, 203, 204, 205, 206, 207, 208, 209, 210, 211, 230, 231, 232, 233, 234, 235, 236, 237, 238, 239, 240, 241, 242, 243, 244, 245, 246, 247] (by decide +kernel) (by decide +kernel)
set_option maxRecDepth 20000 in
theorem gX11_way_X11_isWay : GoodIn wsX11_way (wsV RX11 204 RX11 yX11_isWay wsX11_isWay) := goodIn_app (goodIn_of _ (by decide +kernel)) ggX11_way_X11_isWay
theorem dX11_way_0 : decode cX11_way 0 = .ok (.aload_n 0, 1) := by decide +kernel
theorem dX11_way_1 : decode cX11_way 1 = .ok (.iload_n 1, 1) := by decide +kernel
theorem dX11_way_2 : decode cX11_way 2 = .ok (.iload_n 2, 1) := by decide +kernel
theorem dX11_way_3 : decode cX11_way 3 = .ok (.iload_n 3, 1) := by decide +kernel
theorem dX11_way_4 : decode cX11_way 4 = .ok (.iload 4, 2) := by decide +kernel
theorem dX11_way_6 : decode cX11_way 6 = .ok (.invokevirtual 204, 3) := by decide +kernel
theorem dX11_way_9 : decode cX11_way 9 = .ok (.ifCond .eq 14, 3) := by decide +kernel
theorem dX11_way_23 : decode cX11_way 23 = .ok (.iconst (-1), 1) := by decide +kernel
theorem dX11_way_24 : decode cX11_way 24 = .ok (.ireturn, 1) := by decide +kernel
set_option maxRecDepth 20000 in
theorem ggX11_isWay_X7_isMan : GoodIn wsX11_isWay wsX7_isMan := goodIn_r _ [6, 7, 33, 34, 35, 36, 37, 38, 39, 40, 41, 42, 43, 44, 45, 46, 47, 48, 49, 50] (by decide +kernel) (by decide +kernel)
set_option maxRecDepth 20000 in
theorem gX11_isWay_X7_isMan : GoodIn wsX11_isWay (wsV RX11 152 RX7 yX7_isMan wsX7_isMan) := goodIn_app (goodIn_of _ (by decide +kernel)) ggX11_isWay_X7_isMan
theorem dX11_isWay_0 : decode cX11_isWay 0 = .ok (.aload_n 0, 1) := by decide +kernel
theorem dX11_isWay_1 : decode cX11_isWay 1 = .ok (.getfield 77, 3) := by decide +kernel
theorem dX11_isWay_4 : decode cX11_isWay 4 = .ok (.iload_n 1, 1) := by decide +kernel
theorem dX11_isWay_5 : decode cX11_isWay 5 = .ok (.invokevirtual 152, 3) := by decide +kernel
theorem dX11_isWay_8 : decode cX11_isWay 8 = .ok (.ifCond .eq 42, 3) := by decide +kernel
theorem dX11_isWay_50 : decode cX11_isWay 50 = .ok (.iconst 0, 1) := by decide +kernel
theorem dX11_isWay_51 : decode cX11_isWay 51 = .ok (.ireturn, 1) := by decide +kernel
set_option maxRecDepth 20000 in
theorem ggX11_step_X11_isWay : GoodIn wsX11_step wsX11_isWay := goodIn_r _ [8, 2, 9, 10, 11, 12, 13, 14, 15, 16, 17, 18, 19, 20, 21, 22, 23, 24, 25, 26, 27, 28, 200, 201, 202, 203, 204, 205, 206, 207, 208, 209, 210, 211, 212, 213, 214, 215, 216, 217, 218, 219, 220, 221, 222, 223, 224, 225, 226, 227, 228] (by decide +kernel) (by decide +kernel)
set_option maxRecDepth 20000 in
theorem gX11_step_X11_isWay : GoodIn wsX11_step (wsV RX11 204 RX11 yX11_isWay wsX11_isWay) := goodIn_app (goodIn_of _ (by decide +kernel)) ggX11_step_X11_isWay
theorem dX11_step_0 : decode cX11_step 0 = .ok (.aload_n 0, 1) := by decide +kernel
theorem dX11_step_1 : decode cX11_step 1 = .ok (.iload_n 1, 1) := by decide +kernel
theorem dX11_step_2 : decode cX11_step 2 = .ok (.iload_n 2, 1) := by decide +kernel
theorem dX11_step_3 : decode cX11_step 3 = .ok (.iload_n 3, 1) := by decide +kernel
theorem dX11_step_4 : decode cX11_step 4 = .ok (.iload 4, 2) := by decide +kernel
theorem dX11_step_6 : decode cX11_step 6 = .ok (.invokevirtual 204, 3) := by decide +kernel
theorem dX11_step_9 : decode cX11_step 9 = .ok (.ifCond .eq 8, 3) := by decide +kernel
theorem dX11_step_17 : decode cX11_step 17 = .ok (.iconst (-1), 1) := by decide +kernel
theorem dX11_step_18 : decode cX11_step 18 = .ok (.ireturn, 1) := by decide +kernel
set_option maxRecDepth 20000 in
theorem ggX11_rid_X7_isMan : GoodIn wsX11_rid wsX7_isMan := goodIn_r _ [9, 10, 220, 221, 222, 223, 224, 225, 226, 227, 228, 229, 230, 231, 232, 233, 234, 235, 236, 237] (by decide +kernel) (by decide +kernel)
set_option maxRecDepth 20000 in
theorem gX11_rid_X7_isMan : GoodIn wsX11_rid (wsV RX11 152 RX7 yX7_isMan wsX7_isMan) := goodIn_app (goodIn_of _ (by decide +kernel)) ggX11_rid_X7_isMan
theorem dX11_rid_0 : decode cX11_rid 0 = .ok (.aload_n 0, 1) := by decide +kernel
theorem dX11_rid_1 : decode cX11_rid 1 = .ok (.getfield 77, 3) := by decide +kernel
theorem dX11_rid_4 : decode cX11_rid 4 = .ok (.iload_n 1, 1) := by decide +kernel
theorem dX11_rid_5 : decode cX11_rid 5 = .ok (.invokevirtual 152, 3) := by decide +kernel
theorem dX11_rid_8 : decode cX11_rid 8 = .ok (.ifCond .eq 32, 3) := by decide +kernel
theorem dX11_rid_40 : decode cX11_rid 40 = .ok (.iconst (-1), 1) := by decide +kernel
theorem dX11_rid_41 : decode cX11_rid 41 = .ok (.ireturn, 1) := by decide +kernel
set_option maxRecDepth 20000 in
theorem ggX11_get_X7_isMan : GoodIn wsX11_get wsX7_isMan := goodIn_r _ [8, 9, 194, 195, 196, 197, 198, 199, 200, 201, 202, 203, 204, 205, 206, 207, 208, 209, 210, 211] (by decide +kernel) (by decide +kernel)
set_option maxRecDepth 20000 in
theorem gX11_get_X7_isMan : GoodIn wsX11_get (wsV RX11 152 RX7 yX7_isMan wsX7_isMan) := goodIn_app (goodIn_of _ (by decide +kernel)) ggX11_get_X7_isMan
theorem dX11_get_0 : decode cX11_get 0 = .ok (.aload_n 0, 1) := by decide +kernel
theorem dX11_get_1 : decode cX11_get 1 = .ok (.getfield 77, 3) := by decide +kernel
theorem dX11_get_4 : decode cX11_get 4 = .ok (.iload_n 1, 1) := by decide +kernel
theorem dX11_get_5 : decode cX11_get 5 = .ok (.invokevirtual 152, 3) := by decide +kernel
theorem dX11_get_8 : decode cX11_get 8 = .ok (.ifCond .eq 14, 3) := by decide +kernel
theorem dX11_get_22 : decode cX11_get 22 = .ok (.iconst (-1), 1) := by decide +kernel
theorem dX11_get_23 : decode cX11_get 23 = .ok (.ireturn, 1) := by decide +kernel
set_option maxRecDepth 20000 in
theorem ggX11_inReach_X7_isMan : GoodIn wsX11_inReach wsX7_isMan := goodIn_r _ [8, 9, 190, 191, 192, 193, 194, 195, 196, 197, 198, 199, 200, 201, 202, 203, 204, 205, 206, 207] (by decide +kernel) (by decide +kernel)
set_option maxRecDepth 20000 in
theorem gX11_inReach_X7_isMan : GoodIn wsX11_inReach (wsV RX11 152 RX7 yX7_isMan wsX7_isMan) := goodIn_app (goodIn_of _ (by decide +kernel)) ggX11_inReach_X7_isMan
theorem dX11_inReach_0 : decode cX11_inReach 0 = .ok (.aload_n 0, 1) := by decide +kernel
theorem dX11_inReach_1 : decode cX11_inReach 1 = .ok (.getfield 77, 3) := by decide +kernel
theorem dX11_inReach_4 : decode cX11_inReach 4 = .ok (.iload_n 1, 1) := by decide +kernel
theorem dX11_inReach_5 : decode cX11_inReach 5 = .ok (.invokevirtual 152, 3) := by decide +kernel
theorem dX11_inReach_8 : decode cX11_inReach 8 = .ok (.ifCond .ne 5, 3) := by decide +kernel
theorem dX11_inReach_11 : decode cX11_inReach 11 = .ok (.iconst (-1), 1) := by decide +kernel
theorem dX11_inReach_12 : decode cX11_inReach 12 = .ok (.ireturn, 1) := by decide +kernel
set_option maxRecDepth 20000 in
theorem ggX11_most_X7_isMan : GoodIn wsX11_most wsX7_isMan := goodIn_r _ [8, 9, 199, 200, 201, 202, 203, 204, 205, 206, 207, 208, 209, 210, 211, 212, 213, 214, 215, 216] (by decide +kernel) (by decide +kernel)
set_option maxRecDepth 20000 in
theorem gX11_most_X7_isMan : GoodIn wsX11_most (wsV RX11 152 RX7 yX7_isMan wsX7_isMan) := goodIn_app (goodIn_of _ (by decide +kernel)) ggX11_most_X7_isMan
theorem dX11_most_0 : decode cX11_most 0 = .ok (.aload_n 0, 1) := by decide +kernel
theorem dX11_most_1 : decode cX11_most 1 = .ok (.getfield 77, 3) := by decide +kernel
theorem dX11_most_4 : decode cX11_most 4 = .ok (.iload_n 1, 1) := by decide +kernel
theorem dX11_most_5 : decode cX11_most 5 = .ok (.invokevirtual 152, 3) := by decide +kernel
theorem dX11_most_8 : decode cX11_most 8 = .ok (.ifCond .eq 14, 3) := by decide +kernel
theorem dX11_most_22 : decode cX11_most 22 = .ok (.iconst (-1), 1) := by decide +kernel
theorem dX11_most_23 : decode cX11_most 23 = .ok (.ireturn, 1) := by decide +kernel
set_option maxRecDepth 20000 in
theorem ggX11_meet_X7_isMan : GoodIn wsX11_meet wsX7_isMan := goodIn_r _ [10, 11, 214, 215, 216, 217, 218, 219, 220, 221, 222, 223, 224, 225, 226, 227, 228, 229, 230, 231] (by decide +kernel) (by decide +kernel)
set_option maxRecDepth 20000 in
theorem gX11_meet_X7_isMan : GoodIn wsX11_meet (wsV RX11 152 RX7 yX7_isMan wsX7_isMan) := goodIn_app (goodIn_of _ (by decide +kernel)) ggX11_meet_X7_isMan
theorem dX11_meet_0 : decode cX11_meet 0 = .ok (.aload_n 0, 1) := by decide +kernel
theorem dX11_meet_1 : decode cX11_meet 1 = .ok (.getfield 77, 3) := by decide +kernel
theorem dX11_meet_4 : decode cX11_meet 4 = .ok (.iload_n 1, 1) := by decide +kernel
theorem dX11_meet_5 : decode cX11_meet 5 = .ok (.invokevirtual 152, 3) := by decide +kernel
theorem dX11_meet_8 : decode cX11_meet 8 = .ok (.ifCond .eq 28, 3) := by decide +kernel
theorem dX11_meet_36 : decode cX11_meet 36 = .ok (.iconst (-1), 1) := by decide +kernel
theorem dX11_meet_37 : decode cX11_meet 37 = .ok (.ireturn, 1) := by decide +kernel
set_option maxRecDepth 20000 in
theorem ggX11_riches_X7_isHouse : GoodIn wsX11_riches wsX7_isHouse := goodIn_r _ [7, 8, 36, 37, 38, 39, 40, 41, 42, 43, 44, 45, 46, 47, 48, 49, 50, 51, 52, 53] (by decide +kernel) (by decide +kernel)
set_option maxRecDepth 20000 in
theorem gX11_riches_X7_isHouse : GoodIn wsX11_riches (wsV RX11 129 RX7 yX7_isHouse wsX7_isHouse) := goodIn_app (goodIn_of _ (by decide +kernel)) ggX11_riches_X7_isHouse
theorem dX11_riches_0 : decode cX11_riches 0 = .ok (.iload_n 1, 1) := by decide +kernel
theorem dX11_riches_1 : decode cX11_riches 1 = .ok (.iconst (-1), 1) := by decide +kernel
theorem dX11_riches_2 : decode cX11_riches 2 = .ok (.if_icmp .eq 24, 3) := by decide +kernel
theorem dX11_riches_5 : decode cX11_riches 5 = .ok (.aload_n 0, 1) := by decide +kernel
theorem dX11_riches_6 : decode cX11_riches 6 = .ok (.getfield 77, 3) := by decide +kernel
theorem dX11_riches_9 : decode cX11_riches 9 = .ok (.iload_n 1, 1) := by decide +kernel
theorem dX11_riches_10 : decode cX11_riches 10 = .ok (.invokevirtual 129, 3) := by decide +kernel
theorem dX11_riches_13 : decode cX11_riches 13 = .ok (.ifCond .eq 11, 3) := by decide +kernel
theorem dX11_riches_24 : decode cX11_riches 24 = .ok (.iconst (-1), 1) := by decide +kernel
theorem dX11_riches_25 : decode cX11_riches 25 = .ok (.ireturn, 1) := by decide +kernel
theorem dX11_riches_26 : decode cX11_riches 26 = .ok (.bipush (-2), 2) := by decide +kernel
theorem dX11_riches_28 : decode cX11_riches 28 = .ok (.istore_n 2, 1) := by decide +kernel
theorem dX11_riches_29 : decode cX11_riches 29 = .ok (.iconst 0, 1) := by decide +kernel
theorem dX11_riches_30 : decode cX11_riches 30 = .ok (.istore_n 3, 1) := by decide +kernel
theorem dX11_riches_31 : decode cX11_riches 31 = .ok (.iconst 0, 1) := by decide +kernel
theorem dX11_riches_32 : decode cX11_riches 32 = .ok (.istore 4, 2) := by decide +kernel
theorem dX11_riches_34 : decode cX11_riches 34 = .ok (.iload 4, 2) := by decide +kernel
theorem dX11_riches_36 : decode cX11_riches 36 = .ok (.aload_n 0, 1) := by decide +kernel
theorem dX11_riches_37 : decode cX11_riches 37 = .ok (.getfield 77, 3) := by decide +kernel
theorem dX11_riches_40 : decode cX11_riches 40 = .ok (.getfield 245, 3) := by decide +kernel
theorem dX11_riches_43 : decode cX11_riches 43 = .ok (.if_icmp .ge 35, 3) := by decide +kernel
theorem dX11_riches_78 : decode cX11_riches 78 = .ok (.iload_n 2, 1) := by decide +kernel
theorem dX11_riches_79 : decode cX11_riches 79 = .ok (.ireturn, 1) := by decide +kernel
set_option maxRecDepth 20000 in
theorem ggX11_round_X7_isMan : GoodIn wsX11_round wsX7_isMan := goodIn_r _ [9, 10, 84, 85, 86, 87, 88, 89, 90, 91, 92, 93, 94, 95, 96, 97, 98, 99, 100, 101] (by decide +kernel) (by decide +kernel)
set_option maxRecDepth 20000 in
theorem gX11_round_X7_isMan : GoodIn wsX11_round (wsV RX11 152 RX7 yX7_isMan wsX7_isMan) := goodIn_app (goodIn_of _ (by decide +kernel)) ggX11_round_X7_isMan
theorem dX11_round_0 : decode cX11_round 0 = .ok (.aload_n 0, 1) := by decide +kernel
theorem dX11_round_1 : decode cX11_round 1 = .ok (.getfield 77, 3) := by decide +kernel
theorem dX11_round_4 : decode cX11_round 4 = .ok (.iload_n 1, 1) := by decide +kernel
theorem dX11_round_5 : decode cX11_round 5 = .ok (.invokevirtual 152, 3) := by decide +kernel
theorem dX11_round_8 : decode cX11_round 8 = .ok (.ifCond .eq 20, 3) := by decide +kernel
theorem dX11_round_28 : decode cX11_round 28 = .ok (.iconst (-1), 1) := by decide +kernel
theorem dX11_round_29 : decode cX11_round 29 = .ok (.ireturn, 1) := by decide +kernel
set_option maxRecDepth 20000 in
theorem ggX11_carried_X7_isSort : GoodIn wsX11_carried wsX7_isSort := goodIn_r _ [7, 8, 84, 85, 86, 87, 88, 89, 90, 91, 92, 93, 94, 95, 96, 97, 98, 99, 100, 101] (by decide +kernel) (by decide +kernel)
set_option maxRecDepth 20000 in
theorem gX11_carried_X7_isSort : GoodIn wsX11_carried (wsV RX11 136 RX7 yX7_isSort wsX7_isSort) := goodIn_app (goodIn_of _ (by decide +kernel)) ggX11_carried_X7_isSort
theorem dX11_carried_0 : decode cX11_carried 0 = .ok (.aload_n 0, 1) := by decide +kernel
theorem dX11_carried_1 : decode cX11_carried 1 = .ok (.getfield 77, 3) := by decide +kernel
theorem dX11_carried_4 : decode cX11_carried 4 = .ok (.iload_n 1, 1) := by decide +kernel
theorem dX11_carried_5 : decode cX11_carried 5 = .ok (.invokevirtual 136, 3) := by decide +kernel
theorem dX11_carried_8 : decode cX11_carried 8 = .ok (.ifCond .eq 14, 3) := by decide +kernel
theorem dX11_carried_22 : decode cX11_carried 22 = .ok (.iconst (-1), 1) := by decide +kernel
theorem dX11_carried_23 : decode cX11_carried 23 = .ok (.ireturn, 1) := by decide +kernel
set_option maxRecDepth 20000 in
theorem ggX11_helps_X7_isSort : GoodIn wsX11_helps wsX7_isSort := goodIn_r _ [7, 8, 97, 98, 99, 100, 101, 102, 103, 104, 105, 106, 107, 108, 109, 110, 111, 112, 113, 114] (by decide +kernel) (by decide +kernel)
set_option maxRecDepth 20000 in
theorem gX11_helps_X7_isSort : GoodIn wsX11_helps (wsV RX11 136 RX7 yX7_isSort wsX7_isSort) := goodIn_app (goodIn_of _ (by decide +kernel)) ggX11_helps_X7_isSort
theorem dX11_helps_0 : decode cX11_helps 0 = .ok (.aload_n 0, 1) := by decide +kernel
theorem dX11_helps_1 : decode cX11_helps 1 = .ok (.getfield 77, 3) := by decide +kernel
theorem dX11_helps_4 : decode cX11_helps 4 = .ok (.iload_n 1, 1) := by decide +kernel
theorem dX11_helps_5 : decode cX11_helps 5 = .ok (.invokevirtual 136, 3) := by decide +kernel
theorem dX11_helps_8 : decode cX11_helps 8 = .ok (.ifCond .eq 23, 3) := by decide +kernel
theorem dX11_helps_31 : decode cX11_helps 31 = .ok (.iconst (-1), 1) := by decide +kernel
theorem dX11_helps_32 : decode cX11_helps 32 = .ok (.ireturn, 1) := by decide +kernel
set_option maxRecDepth 20000 in
theorem ggX11_turned_X7_isSort : GoodIn wsX11_turned wsX7_isSort := goodIn_r _ [7, 8, 92, 93, 94, 95, 96, 97, 98, 99, 100, 101, 102, 103, 104, 105, 106, 107, 108, 109] (by decide +kernel) (by decide +kernel)
set_option maxRecDepth 20000 in
theorem gX11_turned_X7_isSort : GoodIn wsX11_turned (wsV RX11 136 RX7 yX7_isSort wsX7_isSort) := goodIn_app (goodIn_of _ (by decide +kernel)) ggX11_turned_X7_isSort
theorem dX11_turned_0 : decode cX11_turned 0 = .ok (.aload_n 0, 1) := by decide +kernel
theorem dX11_turned_1 : decode cX11_turned 1 = .ok (.getfield 77, 3) := by decide +kernel
theorem dX11_turned_4 : decode cX11_turned 4 = .ok (.iload_n 1, 1) := by decide +kernel
theorem dX11_turned_5 : decode cX11_turned 5 = .ok (.invokevirtual 136, 3) := by decide +kernel
theorem dX11_turned_8 : decode cX11_turned 8 = .ok (.ifCond .eq 14, 3) := by decide +kernel
theorem dX11_turned_22 : decode cX11_turned 22 = .ok (.iconst (-1), 1) := by decide +kernel
theorem dX11_turned_23 : decode cX11_turned 23 = .ok (.ireturn, 1) := by decide +kernel
set_option maxRecDepth 20000 in
theorem ggX11_see_X7_isHouse : GoodIn wsX11_see wsX7_isHouse := goodIn_r _ [7, 8, 36, 37, 38, 39, 40, 41, 42, 43, 44, 45, 46, 47, 48, 49, 50, 51, 52, 53] (by decide +kernel) (by decide +kernel)
set_option maxRecDepth 20000 in
theorem gX11_see_X7_isHouse : GoodIn wsX11_see (wsV RX11 129 RX7 yX7_isHouse wsX7_isHouse) := goodIn_app (goodIn_of _ (by decide +kernel)) ggX11_see_X7_isHouse
theorem dX11_see_0 : decode cX11_see 0 = .ok (.aload_n 0, 1) := by decide +kernel
theorem dX11_see_1 : decode cX11_see 1 = .ok (.getfield 77, 3) := by decide +kernel
theorem dX11_see_4 : decode cX11_see 4 = .ok (.iload_n 1, 1) := by decide +kernel
theorem dX11_see_5 : decode cX11_see 5 = .ok (.invokevirtual 129, 3) := by decide +kernel
theorem dX11_see_8 : decode cX11_see 8 = .ok (.ifCond .eq 24, 3) := by decide +kernel
theorem dX11_see_32 : decode cX11_see 32 = .ok (.iconst (-1), 1) := by decide +kernel
theorem dX11_see_33 : decode cX11_see 33 = .ok (.ireturn, 1) := by decide +kernel
set_option maxRecDepth 20000 in
theorem ggX11_forget_X9_clear : GoodIn wsX11_forget wsX9_clear := goodIn_r _ [7, 8, 20, 21, 22, 23, 24, 25, 26, 27] (by decide +kernel) (by decide +kernel)
set_option maxRecDepth 20000 in
theorem gX11_forget_X9_clear : GoodIn wsX11_forget (wsV RX11 118 RX9 yX9_clear wsX9_clear) := goodIn_app (goodIn_of _ (by decide +kernel)) ggX11_forget_X9_clear
theorem dX11_forget_0 : decode cX11_forget 0 = .ok (.aload_n 0, 1) := by decide +kernel
theorem dX11_forget_1 : decode cX11_forget 1 = .ok (.getfield 70, 3) := by decide +kernel
theorem dX11_forget_4 : decode cX11_forget 4 = .ok (.getfield 301, 3) := by decide +kernel
theorem dX11_forget_7 : decode cX11_forget 7 = .ok (.istore_n 1, 1) := by decide +kernel
theorem dX11_forget_8 : decode cX11_forget 8 = .ok (.aload_n 0, 1) := by decide +kernel
theorem dX11_forget_9 : decode cX11_forget 9 = .ok (.getfield 70, 3) := by decide +kernel
theorem dX11_forget_12 : decode cX11_forget 12 = .ok (.invokevirtual 118, 3) := by decide +kernel
theorem dX11_forget_15 : decode cX11_forget 15 = .ok (.iload_n 1, 1) := by decide +kernel
theorem dX11_forget_16 : decode cX11_forget 16 = .ok (.ireturn, 1) := by decide +kernel
set_option maxRecDepth 20000 in
theorem ggX11_fits_X9_isKnown : GoodIn wsX11_fits wsX9_isKnown := goodIn_r _ [8, 9, 85, 86, 87, 88, 89, 90, 91, 92] (by decide +kernel) (by decide +kernel)
set_option maxRecDepth 20000 in
theorem gX11_fits_X9_isKnown : GoodIn wsX11_fits (wsV RX11 304 RX9 yX9_isKnown wsX9_isKnown) := goodIn_app (goodIn_of _ (by decide +kernel)) ggX11_fits_X9_isKnown
set_option maxRecDepth 20000 in
theorem ggX11_fits_X9_know : GoodIn wsX11_fits wsX9_know := goodIn_r _ [13, 14, 15, 16, 17, 18, 19, 20, 21, 22, 23, 24, 25, 26, 27, 85, 86, 87, 88, 89, 90, 91, 92, 93, 94, 95, 96, 97, 98, 99, 100, 101, 102, 103, 104, 105, 106, 107, 108, 109, 110] (by decide +kernel) (by decide +kernel)
set_option maxRecDepth 20000 in
theorem gX11_fits_X9_know : GoodIn wsX11_fits (wsV RX11 309 RX9 yX9_know wsX9_know) := goodIn_app (goodIn_of _ (by decide +kernel)) ggX11_fits_X9_know
set_option maxRecDepth 20000 in
theorem ggX11_fits_X9_ways : GoodIn wsX11_fits wsX9_ways := goodIn_r _ [31, 32, 22, 33, 17, 34, 35, 36, 37, 38, 39, 40, 41, 42, 26, 43, 44, 45, 46, 47, 48, 49, 50, 51, 52, 53, 54, 55, 56, 57, 58, 59, 60, 61, 62, 63, 64, 65, 7, 66, 67, 68, 69, 70, 71, 72, 73, 14, 23, 85, 86, 87, 88, 89, 90, 91, 92, 93, 94, 95, 96, 97, 98, 99, 100, 101, 102, 103, 104, 105, 106, 107, 108, 109, 110] (by decide +kernel) (by decide +kernel)
set_option maxRecDepth 20000 in
theorem gX11_fits_X9_ways : GoodIn wsX11_fits (wsV RX11 313 RX9 yX9_ways wsX9_ways) := goodIn_app (goodIn_of _ (by decide +kernel)) ggX11_fits_X9_ways
theorem dX11_fits_0 : decode cX11_fits 0 = .ok (.aload_n 0, 1) := by decide +kernel
theorem dX11_fits_1 : decode cX11_fits 1 = .ok (.getfield 70, 3) := by decide +kernel
theorem dX11_fits_4 : decode cX11_fits 4 = .ok (.iload_n 1, 1) := by decide +kernel
theorem dX11_fits_5 : decode cX11_fits 5 = .ok (.invokevirtual 304, 3) := by decide +kernel
theorem dX11_fits_8 : decode cX11_fits 8 = .ok (.ifCond .ne 7, 3) := by decide +kernel
theorem dX11_fits_11 : decode cX11_fits 11 = .ok (.ldc2_w 307, 3) := by decide +kernel
theorem dX11_fits_14 : decode cX11_fits 14 = .ok (.lreturn, 1) := by decide +kernel
theorem dX11_fits_15 : decode cX11_fits 15 = .ok (.aload_n 0, 1) := by decide +kernel
theorem dX11_fits_16 : decode cX11_fits 16 = .ok (.getfield 70, 3) := by decide +kernel
theorem dX11_fits_19 : decode cX11_fits 19 = .ok (.aload_n 0, 1) := by decide +kernel
theorem dX11_fits_20 : decode cX11_fits 20 = .ok (.getfield 77, 3) := by decide +kernel
theorem dX11_fits_23 : decode cX11_fits 23 = .ok (.iload_n 1, 1) := by decide +kernel
theorem dX11_fits_24 : decode cX11_fits 24 = .ok (.invokevirtual 309, 3) := by decide +kernel
theorem dX11_fits_27 : decode cX11_fits 27 = .ok (.ifCond .eq 19, 3) := by decide +kernel
theorem dX11_fits_30 : decode cX11_fits 30 = .ok (.aload_n 0, 1) := by decide +kernel
theorem dX11_fits_31 : decode cX11_fits 31 = .ok (.getfield 70, 3) := by decide +kernel
theorem dX11_fits_34 : decode cX11_fits 34 = .ok (.aload_n 0, 1) := by decide +kernel
theorem dX11_fits_35 : decode cX11_fits 35 = .ok (.getfield 77, 3) := by decide +kernel
theorem dX11_fits_38 : decode cX11_fits 38 = .ok (.iconst (-1), 1) := by decide +kernel
theorem dX11_fits_39 : decode cX11_fits 39 = .ok (.iconst (-1), 1) := by decide +kernel
theorem dX11_fits_40 : decode cX11_fits 40 = .ok (.invokevirtual 313, 3) := by decide +kernel
theorem dX11_fits_43 : decode cX11_fits 43 = .ok (.goto 4, 3) := by decide +kernel
theorem dX11_fits_47 : decode cX11_fits 47 = .ok (.lreturn, 1) := by decide +kernel
set_option maxRecDepth 20000 in
theorem ggX11_visitors_X7_isHouse : GoodIn wsX11_visitors wsX7_isHouse := goodIn_r _ [8, 9, 90, 91, 92, 93, 94, 95, 96, 97, 98, 99, 100, 101, 102, 103, 104, 105, 106, 107] (by decide +kernel) (by decide +kernel)
set_option maxRecDepth 20000 in
theorem gX11_visitors_X7_isHouse : GoodIn wsX11_visitors (wsV RX11 129 RX7 yX7_isHouse wsX7_isHouse) := goodIn_app (goodIn_of _ (by decide +kernel)) ggX11_visitors_X7_isHouse
theorem dX11_visitors_0 : decode cX11_visitors 0 = .ok (.aload_n 0, 1) := by decide +kernel
theorem dX11_visitors_1 : decode cX11_visitors 1 = .ok (.getfield 77, 3) := by decide +kernel
theorem dX11_visitors_4 : decode cX11_visitors 4 = .ok (.iload_n 1, 1) := by decide +kernel
theorem dX11_visitors_5 : decode cX11_visitors 5 = .ok (.invokevirtual 129, 3) := by decide +kernel
theorem dX11_visitors_8 : decode cX11_visitors 8 = .ok (.ifCond .eq 14, 3) := by decide +kernel
theorem dX11_visitors_22 : decode cX11_visitors 22 = .ok (.iconst (-1), 1) := by decide +kernel
theorem dX11_visitors_23 : decode cX11_visitors 23 = .ok (.ireturn, 1) := by decide +kernel
set_option maxRecDepth 20000 in
theorem ggX11_hold_X4_copyOf : GoodIn wsX11_hold wsX4_copyOf := goodIn_r _ [8, 9, 10, 11, 12, 13, 14, 15, 16, 17, 18, 30, 31, 32, 33, 34, 35, 36] (by decide +kernel) (by decide +kernel)
set_option maxRecDepth 20000 in
theorem gX11_hold_X4_copyOf : GoodIn wsX11_hold (wsV RX11 319 RX4 yX4_copyOf wsX4_copyOf) := goodIn_app (goodIn_of _ (by decide +kernel)) ggX11_hold_X4_copyOf
theorem dX11_hold_0 : decode cX11_hold 0 = .ok (.iload_n 1, 1) := by decide +kernel
theorem dX11_hold_1 : decode cX11_hold 1 = .ok (.ifCond .lt 8, 3) := by decide +kernel
theorem dX11_hold_4 : decode cX11_hold 4 = .ok (.iload_n 1, 1) := by decide +kernel
theorem dX11_hold_5 : decode cX11_hold 5 = .ok (.iconst 3, 1) := by decide +kernel
theorem dX11_hold_6 : decode cX11_hold 6 = .ok (.if_icmp .lt 5, 3) := by decide +kernel
theorem dX11_hold_9 : decode cX11_hold 9 = .ok (.iconst 0, 1) := by decide +kernel
theorem dX11_hold_10 : decode cX11_hold 10 = .ok (.ireturn, 1) := by decide +kernel
theorem dX11_hold_11 : decode cX11_hold 11 = .ok (.aload_n 0, 1) := by decide +kernel
theorem dX11_hold_12 : decode cX11_hold 12 = .ok (.getfield 28, 3) := by decide +kernel
theorem dX11_hold_15 : decode cX11_hold 15 = .ok (.iload_n 1, 1) := by decide +kernel
theorem dX11_hold_16 : decode cX11_hold 16 = .ok (.aaload, 1) := by decide +kernel
theorem dX11_hold_17 : decode cX11_hold 17 = .ok (.aload_n 0, 1) := by decide +kernel
theorem dX11_hold_18 : decode cX11_hold 18 = .ok (.getfield 24, 3) := by decide +kernel
theorem dX11_hold_21 : decode cX11_hold 21 = .ok (.invokevirtual 319, 3) := by decide +kernel
theorem dX11_hold_24 : decode cX11_hold 24 = .ok (.aload_n 0, 1) := by decide +kernel
theorem dX11_hold_25 : decode cX11_hold 25 = .ok (.getfield 28, 3) := by decide +kernel
theorem dX11_hold_28 : decode cX11_hold 28 = .ok (.iload_n 1, 1) := by decide +kernel
theorem dX11_hold_29 : decode cX11_hold 29 = .ok (.aaload, 1) := by decide +kernel
theorem dX11_hold_30 : decode cX11_hold 30 = .ok (.iconst 1, 1) := by decide +kernel
theorem dX11_hold_31 : decode cX11_hold 31 = .ok (.putfield 122, 3) := by decide +kernel
theorem dX11_hold_34 : decode cX11_hold 34 = .ok (.iconst 1, 1) := by decide +kernel
theorem dX11_hold_35 : decode cX11_hold 35 = .ok (.ireturn, 1) := by decide +kernel
theorem dX11_restore_0 : decode cX11_restore 0 = .ok (.iload_n 1, 1) := by decide +kernel
theorem dX11_restore_1 : decode cX11_restore 1 = .ok (.ifCond .lt 20, 3) := by decide +kernel
theorem dX11_restore_4 : decode cX11_restore 4 = .ok (.iload_n 1, 1) := by decide +kernel
theorem dX11_restore_5 : decode cX11_restore 5 = .ok (.iconst 3, 1) := by decide +kernel
theorem dX11_restore_6 : decode cX11_restore 6 = .ok (.if_icmp .ge 15, 3) := by decide +kernel
theorem dX11_restore_9 : decode cX11_restore 9 = .ok (.aload_n 0, 1) := by decide +kernel
theorem dX11_restore_10 : decode cX11_restore 10 = .ok (.getfield 28, 3) := by decide +kernel
theorem dX11_restore_13 : decode cX11_restore 13 = .ok (.iload_n 1, 1) := by decide +kernel
theorem dX11_restore_14 : decode cX11_restore 14 = .ok (.aaload, 1) := by decide +kernel
theorem dX11_restore_15 : decode cX11_restore 15 = .ok (.getfield 122, 3) := by decide +kernel
theorem dX11_restore_18 : decode cX11_restore 18 = .ok (.ifCond .ne 5, 3) := by decide +kernel
theorem dX11_restore_21 : decode cX11_restore 21 = .ok (.iconst 0, 1) := by decide +kernel
theorem dX11_restore_22 : decode cX11_restore 22 = .ok (.ireturn, 1) := by decide +kernel
set_option maxRecDepth 20000 in
theorem ggX11_count_X11_slotsHeld : GoodIn wsX11_count wsX11_slotsHeld := goodIn_r _ [19, 20, 21, 45, 46, 47, 48, 49, 50, 51, 52, 53, 54, 55, 100, 101, 102, 103, 104, 105, 106] (by decide +kernel) (by decide +kernel)
set_option maxRecDepth 20000 in
theorem gX11_count_X11_slotsHeld : GoodIn wsX11_count (wsV RX11 335 RX11 yX11_slotsHeld wsX11_slotsHeld) := goodIn_app (goodIn_of _ (by decide +kernel)) ggX11_count_X11_slotsHeld
set_option maxRecDepth 20000 in
theorem ggX11_count_X4_thingsOnTables : GoodIn wsX11_count wsX4_thingsOnTables := goodIn_r _ [26, 27, 100, 101, 102, 103, 104, 105, 106] (by decide +kernel) (by decide +kernel)
set_option maxRecDepth 20000 in
theorem gX11_count_X4_thingsOnTables : GoodIn wsX11_count (wsV RX11 338 RX4 yX4_thingsOnTables wsX4_thingsOnTables) := goodIn_app (goodIn_of _ (by decide +kernel)) ggX11_count_X4_thingsOnTables
set_option maxRecDepth 20000 in
theorem ggX11_count_X4_thingsCarried : GoodIn wsX11_count wsX4_thingsCarried := goodIn_r _ [31, 32, 33, 34, 35, 36, 37, 38, 39, 40, 41, 42, 43, 44, 100, 101, 102, 103, 104, 105, 106] (by decide +kernel) (by decide +kernel)
set_option maxRecDepth 20000 in
theorem gX11_count_X4_thingsCarried : GoodIn wsX11_count (wsV RX11 284 RX4 yX4_thingsCarried wsX4_thingsCarried) := goodIn_app (goodIn_of _ (by decide +kernel)) ggX11_count_X4_thingsCarried
theorem dX11_count_0 : decode cX11_count 0 = .ok (.iload_n 1, 1) := by decide +kernel
theorem dX11_count_1 : decode cX11_count 1 = .ok (.tableswitch 156 0 11 #[63, 71, 79, 87, 95, 103, 111, 119, 127, 135, 140, 148], 63) := by decide +kernel
theorem dX11_count_64 : decode cX11_count 64 = .ok (.aload_n 0, 1) := by decide +kernel
theorem dX11_count_65 : decode cX11_count 65 = .ok (.getfield 77, 3) := by decide +kernel
theorem dX11_count_68 : decode cX11_count 68 = .ok (.getfield 251, 3) := by decide +kernel
theorem dX11_count_71 : decode cX11_count 71 = .ok (.ireturn, 1) := by decide +kernel
theorem dX11_count_72 : decode cX11_count 72 = .ok (.aload_n 0, 1) := by decide +kernel
theorem dX11_count_73 : decode cX11_count 73 = .ok (.getfield 77, 3) := by decide +kernel
theorem dX11_count_76 : decode cX11_count 76 = .ok (.getfield 245, 3) := by decide +kernel
theorem dX11_count_79 : decode cX11_count 79 = .ok (.ireturn, 1) := by decide +kernel
theorem dX11_count_80 : decode cX11_count 80 = .ok (.aload_n 0, 1) := by decide +kernel
theorem dX11_count_81 : decode cX11_count 81 = .ok (.getfield 77, 3) := by decide +kernel
theorem dX11_count_84 : decode cX11_count 84 = .ok (.getfield 323, 3) := by decide +kernel
theorem dX11_count_87 : decode cX11_count 87 = .ok (.ireturn, 1) := by decide +kernel
theorem dX11_count_88 : decode cX11_count 88 = .ok (.aload_n 0, 1) := by decide +kernel
theorem dX11_count_89 : decode cX11_count 89 = .ok (.getfield 77, 3) := by decide +kernel
theorem dX11_count_92 : decode cX11_count 92 = .ok (.getfield 316, 3) := by decide +kernel
theorem dX11_count_95 : decode cX11_count 95 = .ok (.ireturn, 1) := by decide +kernel
theorem dX11_count_96 : decode cX11_count 96 = .ok (.aload_n 0, 1) := by decide +kernel
theorem dX11_count_97 : decode cX11_count 97 = .ok (.getfield 77, 3) := by decide +kernel
theorem dX11_count_100 : decode cX11_count 100 = .ok (.getfield 326, 3) := by decide +kernel
theorem dX11_count_103 : decode cX11_count 103 = .ok (.ireturn, 1) := by decide +kernel
theorem dX11_count_104 : decode cX11_count 104 = .ok (.aload_n 0, 1) := by decide +kernel
theorem dX11_count_105 : decode cX11_count 105 = .ok (.getfield 77, 3) := by decide +kernel
theorem dX11_count_108 : decode cX11_count 108 = .ok (.getfield 329, 3) := by decide +kernel
theorem dX11_count_111 : decode cX11_count 111 = .ok (.ireturn, 1) := by decide +kernel
theorem dX11_count_112 : decode cX11_count 112 = .ok (.aload_n 0, 1) := by decide +kernel
theorem dX11_count_113 : decode cX11_count 113 = .ok (.getfield 20, 3) := by decide +kernel
theorem dX11_count_116 : decode cX11_count 116 = .ok (.getfield 91, 3) := by decide +kernel
theorem dX11_count_119 : decode cX11_count 119 = .ok (.ireturn, 1) := by decide +kernel
theorem dX11_count_120 : decode cX11_count 120 = .ok (.aload_n 0, 1) := by decide +kernel
theorem dX11_count_121 : decode cX11_count 121 = .ok (.getfield 35, 3) := by decide +kernel
theorem dX11_count_124 : decode cX11_count 124 = .ok (.getfield 332, 3) := by decide +kernel
theorem dX11_count_127 : decode cX11_count 127 = .ok (.ireturn, 1) := by decide +kernel
theorem dX11_count_128 : decode cX11_count 128 = .ok (.aload_n 0, 1) := by decide +kernel
theorem dX11_count_129 : decode cX11_count 129 = .ok (.getfield 70, 3) := by decide +kernel
theorem dX11_count_132 : decode cX11_count 132 = .ok (.getfield 301, 3) := by decide +kernel
theorem dX11_count_135 : decode cX11_count 135 = .ok (.ireturn, 1) := by decide +kernel
theorem dX11_count_136 : decode cX11_count 136 = .ok (.aload_n 0, 1) := by decide +kernel
theorem dX11_count_137 : decode cX11_count 137 = .ok (.invokevirtual 335, 3) := by decide +kernel
theorem dX11_count_140 : decode cX11_count 140 = .ok (.ireturn, 1) := by decide +kernel
theorem dX11_count_141 : decode cX11_count 141 = .ok (.aload_n 0, 1) := by decide +kernel
theorem dX11_count_142 : decode cX11_count 142 = .ok (.getfield 24, 3) := by decide +kernel
theorem dX11_count_145 : decode cX11_count 145 = .ok (.invokevirtual 338, 3) := by decide +kernel
theorem dX11_count_148 : decode cX11_count 148 = .ok (.ireturn, 1) := by decide +kernel
theorem dX11_count_149 : decode cX11_count 149 = .ok (.aload_n 0, 1) := by decide +kernel
theorem dX11_count_150 : decode cX11_count 150 = .ok (.getfield 24, 3) := by decide +kernel
theorem dX11_count_153 : decode cX11_count 153 = .ok (.invokevirtual 284, 3) := by decide +kernel
theorem dX11_count_156 : decode cX11_count 156 = .ok (.ireturn, 1) := by decide +kernel
theorem dX11_count_157 : decode cX11_count 157 = .ok (.iconst (-1), 1) := by decide +kernel
theorem dX11_count_158 : decode cX11_count 158 = .ok (.ireturn, 1) := by decide +kernel
theorem dX11_slotsHeld_0 : decode cX11_slotsHeld 0 = .ok (.iconst 0, 1) := by decide +kernel
theorem dX11_slotsHeld_1 : decode cX11_slotsHeld 1 = .ok (.istore_n 1, 1) := by decide +kernel
theorem dX11_slotsHeld_2 : decode cX11_slotsHeld 2 = .ok (.iconst 0, 1) := by decide +kernel
theorem dX11_slotsHeld_3 : decode cX11_slotsHeld 3 = .ok (.istore_n 2, 1) := by decide +kernel
theorem dX11_slotsHeld_4 : decode cX11_slotsHeld 4 = .ok (.iload_n 2, 1) := by decide +kernel
theorem dX11_slotsHeld_5 : decode cX11_slotsHeld 5 = .ok (.iconst 3, 1) := by decide +kernel
theorem dX11_slotsHeld_6 : decode cX11_slotsHeld 6 = .ok (.if_icmp .ge 29, 3) := by decide +kernel
theorem dX11_slotsHeld_9 : decode cX11_slotsHeld 9 = .ok (.iload_n 1, 1) := by decide +kernel
theorem dX11_slotsHeld_10 : decode cX11_slotsHeld 10 = .ok (.aload_n 0, 1) := by decide +kernel
theorem dX11_slotsHeld_11 : decode cX11_slotsHeld 11 = .ok (.getfield 28, 3) := by decide +kernel
theorem dX11_slotsHeld_14 : decode cX11_slotsHeld 14 = .ok (.iload_n 2, 1) := by decide +kernel
theorem dX11_slotsHeld_15 : decode cX11_slotsHeld 15 = .ok (.aaload, 1) := by decide +kernel
theorem dX11_slotsHeld_16 : decode cX11_slotsHeld 16 = .ok (.getfield 122, 3) := by decide +kernel
theorem dX11_slotsHeld_19 : decode cX11_slotsHeld 19 = .ok (.ifCond .eq 7, 3) := by decide +kernel
theorem dX11_slotsHeld_26 : decode cX11_slotsHeld 26 = .ok (.iconst 0, 1) := by decide +kernel
theorem dX11_slotsHeld_27 : decode cX11_slotsHeld 27 = .ok (.iadd, 1) := by decide +kernel
theorem dX11_slotsHeld_28 : decode cX11_slotsHeld 28 = .ok (.istore_n 1, 1) := by decide +kernel
theorem dX11_slotsHeld_29 : decode cX11_slotsHeld 29 = .ok (.iinc 2 1, 3) := by decide +kernel
theorem dX11_slotsHeld_32 : decode cX11_slotsHeld 32 = .ok (.goto (-28), 3) := by decide +kernel
theorem dX11_slotsHeld_35 : decode cX11_slotsHeld 35 = .ok (.iload_n 1, 1) := by decide +kernel
theorem dX11_slotsHeld_36 : decode cX11_slotsHeld 36 = .ok (.ireturn, 1) := by decide +kernel
theorem dX12_in_0 : decode cX12_in 0 = .ok (.iload_n 0, 1) := by decide +kernel
theorem dX12_in_1 : decode cX12_in 1 = .ok (.iload_n 1, 1) := by decide +kernel
theorem dX12_in_2 : decode cX12_in 2 = .ok (.if_icmp .lt 12, 3) := by decide +kernel
theorem dX12_in_5 : decode cX12_in 5 = .ok (.iload_n 0, 1) := by decide +kernel
theorem dX12_in_6 : decode cX12_in 6 = .ok (.iload_n 2, 1) := by decide +kernel
theorem dX12_in_7 : decode cX12_in 7 = .ok (.if_icmp .gt 7, 3) := by decide +kernel
theorem dX12_in_10 : decode cX12_in 10 = .ok (.iconst 1, 1) := by decide +kernel
theorem dX12_in_11 : decode cX12_in 11 = .ok (.goto 4, 3) := by decide +kernel
theorem dX12_in_14 : decode cX12_in 14 = .ok (.iconst 0, 1) := by decide +kernel
theorem dX12_in_15 : decode cX12_in 15 = .ok (.ireturn, 1) := by decide +kernel
set_option maxRecDepth 20000 in
theorem ggX12_isSort_X12_in : GoodIn wsX12_isSort wsX12_in := goodIn_r _ [6] (by decide +kernel) (by decide +kernel)
set_option maxRecDepth 20000 in
theorem gX12_isSort_X12_in : GoodIn wsX12_isSort (va_wsS RX12 333 yX12_in wsX12_in) := goodIn_app (goodIn_of _ (by decide +kernel)) ggX12_isSort_X12_in
theorem dX12_isSort_0 : decode cX12_isSort 0 = .ok (.iload_n 1, 1) := by decide +kernel
theorem dX12_isSort_1 : decode cX12_isSort 1 = .ok (.iconst 0, 1) := by decide +kernel
theorem dX12_isSort_2 : decode cX12_isSort 2 = .ok (.aload_n 0, 1) := by decide +kernel
theorem dX12_isSort_3 : decode cX12_isSort 3 = .ok (.getfield 49, 3) := by decide +kernel
theorem dX12_isSort_6 : decode cX12_isSort 6 = .ok (.aload_n 0, 1) := by decide +kernel
theorem dX12_isSort_7 : decode cX12_isSort 7 = .ok (.getfield 266, 3) := by decide +kernel
theorem dX12_isSort_10 : decode cX12_isSort 10 = .ok (.iaload, 1) := by decide +kernel
theorem dX12_isSort_11 : decode cX12_isSort 11 = .ok (.iconst 1, 1) := by decide +kernel
theorem dX12_isSort_12 : decode cX12_isSort 12 = .ok (.isub, 1) := by decide +kernel
theorem dX12_isSort_13 : decode cX12_isSort 13 = .ok (.invokestatic 333, 3) := by decide +kernel
theorem dX12_isSort_16 : decode cX12_isSort 16 = .ok (.ireturn, 1) := by decide +kernel
set_option maxRecDepth 20000 in
theorem ggX12_isHouse_X12_in : GoodIn wsX12_isHouse wsX12_in := goodIn_r _ [6] (by decide +kernel) (by decide +kernel)
set_option maxRecDepth 20000 in
theorem gX12_isHouse_X12_in : GoodIn wsX12_isHouse (va_wsS RX12 333 yX12_in wsX12_in) := goodIn_app (goodIn_of _ (by decide +kernel)) ggX12_isHouse_X12_in
theorem dX12_isHouse_0 : decode cX12_isHouse 0 = .ok (.iload_n 1, 1) := by decide +kernel
theorem dX12_isHouse_1 : decode cX12_isHouse 1 = .ok (.iconst 0, 1) := by decide +kernel
theorem dX12_isHouse_2 : decode cX12_isHouse 2 = .ok (.aload_n 0, 1) := by decide +kernel
theorem dX12_isHouse_3 : decode cX12_isHouse 3 = .ok (.getfield 55, 3) := by decide +kernel
theorem dX12_isHouse_6 : decode cX12_isHouse 6 = .ok (.aload_n 0, 1) := by decide +kernel
theorem dX12_isHouse_7 : decode cX12_isHouse 7 = .ok (.getfield 266, 3) := by decide +kernel
theorem dX12_isHouse_10 : decode cX12_isHouse 10 = .ok (.iaload, 1) := by decide +kernel
theorem dX12_isHouse_11 : decode cX12_isHouse 11 = .ok (.iconst 1, 1) := by decide +kernel
theorem dX12_isHouse_12 : decode cX12_isHouse 12 = .ok (.isub, 1) := by decide +kernel
theorem dX12_isHouse_13 : decode cX12_isHouse 13 = .ok (.invokestatic 333, 3) := by decide +kernel
theorem dX12_isHouse_16 : decode cX12_isHouse 16 = .ok (.ireturn, 1) := by decide +kernel
set_option maxRecDepth 20000 in
theorem ggX12_isMan_X12_in : GoodIn wsX12_isMan wsX12_in := goodIn_r _ [6] (by decide +kernel) (by decide +kernel)
set_option maxRecDepth 20000 in
theorem gX12_isMan_X12_in : GoodIn wsX12_isMan (va_wsS RX12 333 yX12_in wsX12_in) := goodIn_app (goodIn_of _ (by decide +kernel)) ggX12_isMan_X12_in
theorem dX12_isMan_0 : decode cX12_isMan 0 = .ok (.iload_n 1, 1) := by decide +kernel
theorem dX12_isMan_1 : decode cX12_isMan 1 = .ok (.iconst 0, 1) := by decide +kernel
theorem dX12_isMan_2 : decode cX12_isMan 2 = .ok (.aload_n 0, 1) := by decide +kernel
theorem dX12_isMan_3 : decode cX12_isMan 3 = .ok (.getfield 74, 3) := by decide +kernel
theorem dX12_isMan_6 : decode cX12_isMan 6 = .ok (.aload_n 0, 1) := by decide +kernel
theorem dX12_isMan_7 : decode cX12_isMan 7 = .ok (.getfield 266, 3) := by decide +kernel
theorem dX12_isMan_10 : decode cX12_isMan 10 = .ok (.iaload, 1) := by decide +kernel
theorem dX12_isMan_11 : decode cX12_isMan 11 = .ok (.iconst 1, 1) := by decide +kernel
theorem dX12_isMan_12 : decode cX12_isMan 12 = .ok (.isub, 1) := by decide +kernel
theorem dX12_isMan_13 : decode cX12_isMan 13 = .ok (.invokestatic 333, 3) := by decide +kernel
theorem dX12_isMan_16 : decode cX12_isMan 16 = .ok (.ireturn, 1) := by decide +kernel
set_option maxRecDepth 20000 in
theorem ggX12_door_X12_isHouse : GoodIn wsX12_door wsX12_isHouse := goodIn_r _ [5, 6, 7, 8, 9, 4, 10, 16, 17, 18, 19, 20, 21, 22, 23, 24, 25, 26, 27, 28, 29, 30, 31, 32, 33, 34, 35, 36, 37, 38, 39, 40, 41, 42, 43, 44, 45, 46, 47, 48, 49, 50, 51, 52, 53, 54, 55, 56, 57, 58, 59, 60, 61, 62, 63, 64, 65, 66, 67, 68, 69, 70, 71, 72, 73, 74, 75, 76, 77, 78, 79, 80, 81, 82, 83, 84, 85, 86, 87, 88, 89, 90, 91, 92, 93, 94, 95, 96, 97, 98, 99, 100, 101, 102, 103, 104, 105] (by decide +kernel) (by decide +kernel)
set_option maxRecDepth 20000 in
theorem gX12_door_X12_isHouse : GoodIn wsX12_door (wsV RX12 347 RX12 yX12_isHouse wsX12_isHouse) := goodIn_app (goodIn_of _ (by decide +kernel)) ggX12_door_X12_isHouse
theorem dX12_door_0 : decode cX12_door 0 = .ok (.aload_n 0, 1) := by decide +kernel
theorem dX12_door_1 : decode cX12_door 1 = .ok (.iload_n 1, 1) := by decide +kernel
theorem dX12_door_2 : decode cX12_door 2 = .ok (.invokevirtual 347, 3) := by decide +kernel
theorem dX12_door_5 : decode cX12_door 5 = .ok (.ifCond .eq 25, 3) := by decide +kernel
theorem dX12_door_30 : decode cX12_door 30 = .ok (.iconst (-1), 1) := by decide +kernel
theorem dX12_door_31 : decode cX12_door 31 = .ok (.ireturn, 1) := by decide +kernel
set_option maxRecDepth 20000 in
theorem ggX12_worth_X12_isSort : GoodIn wsX12_worth wsX12_isSort := goodIn_r _ [7, 8, 2, 9, 10, 6, 11, 22, 23, 24, 25, 26, 27, 28, 29, 30, 31, 32, 33, 34, 35, 36, 37, 38, 39, 40, 41, 42, 43, 44, 45, 46, 47, 48, 49, 50, 51, 52, 53, 54, 55, 56, 57, 58, 59, 60, 61, 62, 63, 64, 65, 66, 67, 68, 69, 70, 71, 72, 73, 74, 75, 76, 77, 78, 79, 80, 81, 82, 83, 84, 85, 86, 87, 88, 89, 90, 91, 92, 93, 94, 95, 96, 97, 98, 99, 100, 101, 102, 103, 104, 105, 106, 107, 108, 109, 110, 111] (by decide +kernel) (by decide +kernel)
set_option maxRecDepth 20000 in
theorem gX12_worth_X12_isSort : GoodIn wsX12_worth (wsV RX12 353 RX12 yX12_isSort wsX12_isSort) := goodIn_app (goodIn_of _ (by decide +kernel)) ggX12_worth_X12_isSort
theorem dX12_worth_0 : decode cX12_worth 0 = .ok (.aload_n 0, 1) := by decide +kernel
theorem dX12_worth_1 : decode cX12_worth 1 = .ok (.iload_n 2, 1) := by decide +kernel
theorem dX12_worth_2 : decode cX12_worth 2 = .ok (.invokevirtual 353, 3) := by decide +kernel
theorem dX12_worth_5 : decode cX12_worth 5 = .ok (.ifCond .eq 16, 3) := by decide +kernel
theorem dX12_worth_21 : decode cX12_worth 21 = .ok (.iconst (-1), 1) := by decide +kernel
theorem dX12_worth_22 : decode cX12_worth 22 = .ok (.ireturn, 1) := by decide +kernel
set_option maxRecDepth 20000 in
theorem ggX12_table_X12_isHouse : GoodIn wsX12_table wsX12_isHouse := goodIn_r _ [6, 7, 8, 9, 10, 5, 11, 17, 18, 19, 20, 21, 22, 23, 24, 25, 26, 27, 28, 29, 30, 31, 32, 33, 34, 35, 36, 37, 38, 39, 40, 41, 42, 43, 44, 45, 46, 47, 48, 49, 50, 51, 52, 53, 54, 55, 56, 57, 58, 59, 60, 61, 62, 63, 64, 65, 66, 67, 68, 69, 70, 71, 72, 73, 74, 75, 76, 77, 78, 79, 80, 81, 82, 83, 84, 85, 86, 87, 88, 89, 90, 91, 92, 93, 94, 95, 96, 97, 98, 99, 100, 101, 102, 103, 104, 105, 106] (by decide +kernel) (by decide +kernel)
set_option maxRecDepth 20000 in
theorem gX12_table_X12_isHouse : GoodIn wsX12_table (wsV RX12 347 RX12 yX12_isHouse wsX12_isHouse) := goodIn_app (goodIn_of _ (by decide +kernel)) ggX12_table_X12_isHouse
theorem dX12_table_0 : decode cX12_table 0 = .ok (.aload_n 0, 1) := by decide +kernel
theorem dX12_table_1 : decode cX12_table 1 = .ok (.iload_n 1, 1) := by decide +kernel
theorem dX12_table_2 : decode cX12_table 2 = .ok (.invokevirtual 347, 3) := by decide +kernel
theorem dX12_table_5 : decode cX12_table 5 = .ok (.ifCond .eq 24, 3) := by decide +kernel
theorem dX12_table_29 : decode cX12_table 29 = .ok (.iconst (-1), 1) := by decide +kernel
theorem dX12_table_30 : decode cX12_table 30 = .ok (.ireturn, 1) := by decide +kernel
set_option maxRecDepth 20000 in
theorem ggX12_man_X12_isMan : GoodIn wsX12_man wsX12_isMan := goodIn_r _ [6, 7, 8, 9, 10, 5, 11, 28, 29, 30, 31, 32, 33, 34, 35, 36, 37, 38, 39, 40, 41, 42, 43, 44, 45, 46, 47, 48, 49, 50, 51, 52, 53, 54, 55, 56, 57, 58, 59, 60, 61, 62, 63, 64, 65, 66, 67, 68, 69, 70, 71, 72, 73, 74, 75, 76, 77, 78, 79, 80, 81, 82, 83, 84, 85, 86, 87, 88, 89, 90, 91, 92, 93, 94, 95, 96, 97, 98, 99, 100, 101, 102, 103, 104, 105, 106, 107, 108, 109, 110, 111, 112, 113, 114, 115, 116, 117] (by decide +kernel) (by decide +kernel)
set_option maxRecDepth 20000 in
theorem gX12_man_X12_isMan : GoodIn wsX12_man (wsV RX12 356 RX12 yX12_isMan wsX12_isMan) := goodIn_app (goodIn_of _ (by decide +kernel)) ggX12_man_X12_isMan
theorem dX12_man_0 : decode cX12_man 0 = .ok (.aload_n 0, 1) := by decide +kernel
theorem dX12_man_1 : decode cX12_man 1 = .ok (.iload_n 1, 1) := by decide +kernel
theorem dX12_man_2 : decode cX12_man 2 = .ok (.invokevirtual 356, 3) := by decide +kernel
theorem dX12_man_5 : decode cX12_man 5 = .ok (.ifCond .ne 5, 3) := by decide +kernel
theorem dX12_man_8 : decode cX12_man 8 = .ok (.iconst (-1), 1) := by decide +kernel
theorem dX12_man_9 : decode cX12_man 9 = .ok (.ireturn, 1) := by decide +kernel
set_option maxRecDepth 20000 in
theorem ggX12_has_X12_isMan : GoodIn wsX12_has wsX12_isMan := goodIn_r _ [5, 6, 7, 8, 9, 4, 10, 24, 25, 26, 27, 28, 29, 30, 31, 32, 33, 34, 35, 36, 37, 38, 39, 40, 41, 42, 43, 44, 45, 46, 47, 48, 49, 50, 51, 52, 53, 54, 55, 56, 57, 58, 59, 60, 61, 62, 63, 64, 65, 66, 67, 68, 69, 70, 71, 72, 73, 74, 75, 76, 77, 78, 79, 80, 81, 82, 83, 84, 85, 86, 87, 88, 89, 90, 91, 92, 93, 94, 95, 96, 97, 98, 99, 100, 101, 102, 103, 104, 105, 106, 107, 108, 109, 110, 111, 112, 113] (by decide +kernel) (by decide +kernel)
set_option maxRecDepth 20000 in
theorem gX12_has_X12_isMan : GoodIn wsX12_has (wsV RX12 356 RX12 yX12_isMan wsX12_isMan) := goodIn_app (goodIn_of _ (by decide +kernel)) ggX12_has_X12_isMan
theorem dX12_has_0 : decode cX12_has 0 = .ok (.aload_n 0, 1) := by decide +kernel
theorem dX12_has_1 : decode cX12_has 1 = .ok (.iload_n 1, 1) := by decide +kernel
theorem dX12_has_2 : decode cX12_has 2 = .ok (.invokevirtual 356, 3) := by decide +kernel
theorem dX12_has_5 : decode cX12_has 5 = .ok (.ifCond .eq 23, 3) := by decide +kernel
theorem dX12_has_28 : decode cX12_has 28 = .ok (.iconst (-1), 1) := by decide +kernel
theorem dX12_has_29 : decode cX12_has 29 = .ok (.ireturn, 1) := by decide +kernel
set_option maxRecDepth 20000 in
theorem ggX12_may_X12_isMan : GoodIn wsX12_may wsX12_isMan := goodIn_r _ [5, 6, 7, 8, 9, 4, 10, 49, 50, 51, 52, 53, 54, 55, 56, 57, 58, 59, 60, 61, 62, 63, 64, 65, 66, 67, 68, 69, 70, 71, 72, 73, 74, 75, 76, 77, 78, 79, 80, 81, 82, 83, 84, 85, 86, 87, 88, 89, 90, 91, 92, 93, 94, 95, 96, 97, 98, 99, 100, 101, 102, 103, 104, 105, 106, 107, 108, 109, 110, 111, 112, 113, 114, 115, 116, 117, 118, 119, 120, 121, 122, 123, 124, 125, 126, 127, 128, 129, 130, 131, 132, 133, 134, 135, 136, 137, 138] (by decide +kernel) (by decide +kernel)
set_option maxRecDepth 20000 in
theorem gX12_may_X12_isMan : GoodIn wsX12_may (wsV RX12 356 RX12 yX12_isMan wsX12_isMan) := goodIn_app (goodIn_of _ (by decide +kernel)) ggX12_may_X12_isMan
theorem dX12_may_0 : decode cX12_may 0 = .ok (.aload_n 0, 1) := by decide +kernel
theorem dX12_may_1 : decode cX12_may 1 = .ok (.iload_n 1, 1) := by decide +kernel
theorem dX12_may_2 : decode cX12_may 2 = .ok (.invokevirtual 356, 3) := by decide +kernel
theorem dX12_may_5 : decode cX12_may 5 = .ok (.ifCond .eq 28, 3) := by decide +kernel
theorem dX12_may_33 : decode cX12_may 33 = .ok (.iconst (-1), 1) := by decide +kernel
theorem dX12_may_34 : decode cX12_may 34 = .ok (.ireturn, 1) := by decide +kernel
set_option maxRecDepth 20000 in
theorem ggX12_go_X12_isMan : GoodIn wsX12_go wsX12_isMan := goodIn_r _ [6, 7, 8, 9, 10, 5, 11, 64, 65, 66, 67, 68, 69, 70, 71, 72, 73, 74, 75, 76, 77, 78, 79, 80, 81, 82, 83, 84, 85, 86, 87, 88, 89, 90, 91, 92, 93, 94, 95, 96, 97, 98, 99, 100, 101, 102, 103, 104, 105, 106, 107, 108, 109, 110, 111, 112, 113, 114, 115, 116, 117, 118, 119, 120, 121, 122, 123, 124, 125, 126, 127, 128, 129, 130, 131, 132, 133, 134, 135, 136, 137, 138, 139, 140, 141, 142, 143, 144, 145, 146, 147, 148, 149, 150, 151, 152, 153] (by decide +kernel) (by decide +kernel)
set_option maxRecDepth 20000 in
theorem gX12_go_X12_isMan : GoodIn wsX12_go (wsV RX12 356 RX12 yX12_isMan wsX12_isMan) := goodIn_app (goodIn_of _ (by decide +kernel)) ggX12_go_X12_isMan
theorem dX12_go_0 : decode cX12_go 0 = .ok (.aload_n 0, 1) := by decide +kernel
theorem dX12_go_1 : decode cX12_go 1 = .ok (.iload_n 1, 1) := by decide +kernel
theorem dX12_go_2 : decode cX12_go 2 = .ok (.invokevirtual 356, 3) := by decide +kernel
theorem dX12_go_5 : decode cX12_go 5 = .ok (.ifCond .eq 24, 3) := by decide +kernel
theorem dX12_go_29 : decode cX12_go 29 = .ok (.iconst (-1), 1) := by decide +kernel
theorem dX12_go_30 : decode cX12_go 30 = .ok (.ireturn, 1) := by decide +kernel
set_option maxRecDepth 20000 in
theorem ggX12_buy_X12_isMan : GoodIn wsX12_buy wsX12_isMan := goodIn_r _ [8, 9, 2, 10, 11, 7, 12, 35, 36, 37, 38, 39, 40, 41, 42, 43, 44, 45, 46, 47, 48, 49, 50, 51, 52, 53, 54, 55, 56, 57, 58, 59, 60, 61, 62, 63, 64, 65, 66, 67, 68, 69, 70, 71, 72, 73, 74, 75, 76, 77, 78, 79, 80, 81, 82, 83, 84, 85, 86, 87, 88, 89, 90, 91, 92, 93, 94, 95, 96, 97, 98, 99, 100, 101, 102, 103, 104, 105, 106, 107, 108, 109, 110, 111, 112, 113, 114, 115, 116, 117, 118, 119, 120, 121, 122, 123, 124] (by decide +kernel) (by decide +kernel)
set_option maxRecDepth 20000 in
theorem gX12_buy_X12_isMan : GoodIn wsX12_buy (wsV RX12 356 RX12 yX12_isMan wsX12_isMan) := goodIn_app (goodIn_of _ (by decide +kernel)) ggX12_buy_X12_isMan
theorem dX12_buy_0 : decode cX12_buy 0 = .ok (.aload_n 0, 1) := by decide +kernel
theorem dX12_buy_1 : decode cX12_buy 1 = .ok (.iload_n 1, 1) := by decide +kernel
theorem dX12_buy_2 : decode cX12_buy 2 = .ok (.invokevirtual 356, 3) := by decide +kernel
theorem dX12_buy_5 : decode cX12_buy 5 = .ok (.ifCond .eq 11, 3) := by decide +kernel
theorem dX12_buy_16 : decode cX12_buy 16 = .ok (.iconst (-1), 1) := by decide +kernel
theorem dX12_buy_17 : decode cX12_buy 17 = .ok (.ireturn, 1) := by decide +kernel
set_option maxRecDepth 20000 in
theorem ggX12_canAsk_X12_isMan : GoodIn wsX12_canAsk wsX12_isMan := goodIn_r _ [5, 6, 7, 8, 9, 4, 10, 21, 22, 23, 24, 25, 26, 27, 28, 29, 30, 31, 32, 33, 34, 35, 36, 37, 38, 39, 40, 41, 42, 43, 44, 45, 46, 47, 48, 49, 50, 51, 52, 53, 54, 55, 56, 57, 58, 59, 60, 61, 62, 63, 64, 65, 66, 67, 68, 69, 70, 71, 72, 73, 74, 75, 76, 77, 78, 79, 80, 81, 82, 83, 84, 85, 86, 87, 88, 89, 90, 91, 92, 93, 94, 95, 96, 97, 98, 99, 100, 101, 102, 103, 104, 105, 106, 107, 108, 109, 110] (by decide +kernel) (by decide +kernel)
set_option maxRecDepth 20000 in
theorem gX12_canAsk_X12_isMan : GoodIn wsX12_canAsk (wsV RX12 356 RX12 yX12_isMan wsX12_isMan) := goodIn_app (goodIn_of _ (by decide +kernel)) ggX12_canAsk_X12_isMan
theorem dX12_canAsk_0 : decode cX12_canAsk 0 = .ok (.aload_n 0, 1) := by decide +kernel
theorem dX12_canAsk_1 : decode cX12_canAsk 1 = .ok (.iload_n 1, 1) := by decide +kernel
theorem dX12_canAsk_2 : decode cX12_canAsk 2 = .ok (.invokevirtual 356, 3) := by decide +kernel
theorem dX12_canAsk_5 : decode cX12_canAsk 5 = .ok (.ifCond .eq 38, 3) := by decide +kernel
theorem dX12_canAsk_43 : decode cX12_canAsk 43 = .ok (.iconst 0, 1) := by decide +kernel
theorem dX12_canAsk_44 : decode cX12_canAsk 44 = .ok (.ireturn, 1) := by decide +kernel
set_option maxRecDepth 20000 in
theorem ggX12_way_X12_canAsk : GoodIn wsX12_way wsX12_canAsk := goodIn_r _ [9, 10, 11, 12, 8, 13, 14, 15, 16, 17, 18, 19, 20, 21, 22, 23, 24, 25, 26, 27, 28, 126, 127, 128, 129, 130, 131, 132, 133, 134, 135, 136, 137, 138, 139, 140, 141, 142, 143, 144, 145, 146, 147, 148, 149, 150, 151, 152, 153, 154, 155, 156, 157, 158, 159, 160, 161, 162, 163, 164, 165, 166, 167, 168, 169, 170, 171, 172, 173, 174, 175, 176, 177, 178, 179, 180, 181, 182, 183, 184, 185, 186, 187, 188, 189, 190, 191, 192, 193, 194, 195, 196, 197, 198, 199, 200, 201, 202, 203, 204, 205, 206, 207, 208, 209, 210, 211, 212, 213, 214, 215] (by decide +kernel) (by decide +kernel)
set_option maxRecDepth 20000 in
theorem gX12_way_X12_canAsk : GoodIn wsX12_way (wsV RX12 445 RX12 yX12_canAsk wsX12_canAsk) := goodIn_app (goodIn_of _ (by decide +kernel)) ggX12_way_X12_canAsk
theorem dX12_way_0 : decode cX12_way 0 = .ok (.aload_n 0, 1) := by decide +kernel
theorem dX12_way_1 : decode cX12_way 1 = .ok (.iload_n 1, 1) := by decide +kernel
theorem dX12_way_2 : decode cX12_way 2 = .ok (.iload_n 2, 1) := by decide +kernel
theorem dX12_way_3 : decode cX12_way 3 = .ok (.iload_n 3, 1) := by decide +kernel
theorem dX12_way_4 : decode cX12_way 4 = .ok (.iload 4, 2) := by decide +kernel
theorem dX12_way_6 : decode cX12_way 6 = .ok (.invokevirtual 445, 3) := by decide +kernel
theorem dX12_way_9 : decode cX12_way 9 = .ok (.ifCond .eq 13, 3) := by decide +kernel
theorem dX12_way_22 : decode cX12_way 22 = .ok (.iconst (-1), 1) := by decide +kernel
theorem dX12_way_23 : decode cX12_way 23 = .ok (.ireturn, 1) := by decide +kernel
set_option maxRecDepth 20000 in
theorem ggX12_step_X12_canAsk : GoodIn wsX12_step wsX12_canAsk := goodIn_r _ [7, 8, 9, 10, 6, 11, 12, 13, 14, 15, 16, 17, 18, 19, 20, 21, 22, 23, 24, 25, 26, 126, 127, 128, 129, 130, 131, 132, 133, 134, 135, 136, 137, 138, 139, 140, 141, 142, 143, 144, 145, 146, 147, 148, 149, 150, 151, 152, 153, 154, 155, 156, 157, 158, 159, 160, 161, 162, 163, 164, 165, 166, 167, 168, 169, 170, 171, 172, 173, 174, 175, 176, 177, 178, 179, 180, 181, 182, 183, 184, 185, 186, 187, 188, 189, 190, 191, 192, 193, 194, 195, 196, 197, 198, 199, 200, 201, 202, 203, 204, 205, 206, 207, 208, 209, 210, 211, 212, 213, 214, 215] (by decide +kernel) (by decide +kernel)
set_option maxRecDepth 20000 in
theorem gX12_step_X12_canAsk : GoodIn wsX12_step (wsV RX12 445 RX12 yX12_canAsk wsX12_canAsk) := goodIn_app (goodIn_of _ (by decide +kernel)) ggX12_step_X12_canAsk
theorem dX12_step_0 : decode cX12_step 0 = .ok (.aload_n 0, 1) := by decide +kernel
theorem dX12_step_1 : decode cX12_step 1 = .ok (.iload_n 1, 1) := by decide +kernel
theorem dX12_step_2 : decode cX12_step 2 = .ok (.iload_n 2, 1) := by decide +kernel
theorem dX12_step_3 : decode cX12_step 3 = .ok (.iload_n 3, 1) := by decide +kernel
theorem dX12_step_4 : decode cX12_step 4 = .ok (.iload 4, 2) := by decide +kernel
theorem dX12_step_6 : decode cX12_step 6 = .ok (.invokevirtual 445, 3) := by decide +kernel
theorem dX12_step_9 : decode cX12_step 9 = .ok (.ifCond .ne 5, 3) := by decide +kernel
theorem dX12_step_12 : decode cX12_step 12 = .ok (.iconst (-1), 1) := by decide +kernel
theorem dX12_step_13 : decode cX12_step 13 = .ok (.ireturn, 1) := by decide +kernel
set_option maxRecDepth 20000 in
theorem ggX12_rid_X12_isMan : GoodIn wsX12_rid wsX12_isMan := goodIn_r _ [8, 9, 10, 11, 12, 7, 13, 118, 119, 120, 121, 122, 123, 124, 125, 126, 127, 128, 129, 130, 131, 132, 133, 134, 135, 136, 137, 138, 139, 140, 141, 142, 143, 144, 145, 146, 147, 148, 149, 150, 151, 152, 153, 154, 155, 156, 157, 158, 159, 160, 161, 162, 163, 164, 165, 166, 167, 168, 169, 170, 171, 172, 173, 174, 175, 176, 177, 178, 179, 180, 181, 182, 183, 184, 185, 186, 187, 188, 189, 190, 191, 192, 193, 194, 195, 196, 197, 198, 199, 200, 201, 202, 203, 204, 205, 206, 207] (by decide +kernel) (by decide +kernel)
set_option maxRecDepth 20000 in
theorem gX12_rid_X12_isMan : GoodIn wsX12_rid (wsV RX12 356 RX12 yX12_isMan wsX12_isMan) := goodIn_app (goodIn_of _ (by decide +kernel)) ggX12_rid_X12_isMan
theorem dX12_rid_0 : decode cX12_rid 0 = .ok (.aload_n 0, 1) := by decide +kernel
theorem dX12_rid_1 : decode cX12_rid 1 = .ok (.iload_n 1, 1) := by decide +kernel
theorem dX12_rid_2 : decode cX12_rid 2 = .ok (.invokevirtual 356, 3) := by decide +kernel
theorem dX12_rid_5 : decode cX12_rid 5 = .ok (.ifCond .eq 30, 3) := by decide +kernel
theorem dX12_rid_35 : decode cX12_rid 35 = .ok (.iconst (-1), 1) := by decide +kernel
theorem dX12_rid_36 : decode cX12_rid 36 = .ok (.ireturn, 1) := by decide +kernel
set_option maxRecDepth 20000 in
theorem ggX12_get_X12_isMan : GoodIn wsX12_get wsX12_isMan := goodIn_r _ [6, 7, 8, 9, 10, 5, 11, 118, 119, 120, 121, 122, 123, 124, 125, 126, 127, 128, 129, 130, 131, 132, 133, 134, 135, 136, 137, 138, 139, 140, 141, 142, 143, 144, 145, 146, 147, 148, 149, 150, 151, 152, 153, 154, 155, 156, 157, 158, 159, 160, 161, 162, 163, 164, 165, 166, 167, 168, 169, 170, 171, 172, 173, 174, 175, 176, 177, 178, 179, 180, 181, 182, 183, 184, 185, 186, 187, 188, 189, 190, 191, 192, 193, 194, 195, 196, 197, 198, 199, 200, 201, 202, 203, 204, 205, 206, 207] (by decide +kernel) (by decide +kernel)
set_option maxRecDepth 20000 in
theorem gX12_get_X12_isMan : GoodIn wsX12_get (wsV RX12 356 RX12 yX12_isMan wsX12_isMan) := goodIn_app (goodIn_of _ (by decide +kernel)) ggX12_get_X12_isMan
theorem dX12_get_0 : decode cX12_get 0 = .ok (.aload_n 0, 1) := by decide +kernel
theorem dX12_get_1 : decode cX12_get 1 = .ok (.iload_n 1, 1) := by decide +kernel
theorem dX12_get_2 : decode cX12_get 2 = .ok (.invokevirtual 356, 3) := by decide +kernel
theorem dX12_get_5 : decode cX12_get 5 = .ok (.ifCond .eq 11, 3) := by decide +kernel
theorem dX12_get_16 : decode cX12_get 16 = .ok (.iconst (-1), 1) := by decide +kernel
theorem dX12_get_17 : decode cX12_get 17 = .ok (.ireturn, 1) := by decide +kernel
set_option maxRecDepth 20000 in
theorem ggX12_inReach_X12_isMan : GoodIn wsX12_inReach wsX12_isMan := goodIn_r _ [7, 8, 2, 9, 10, 6, 11, 77, 78, 79, 80, 81, 82, 83, 84, 85, 86, 87, 88, 89, 90, 91, 92, 93, 94, 95, 96, 97, 98, 99, 100, 101, 102, 103, 104, 105, 106, 107, 108, 109, 110, 111, 112, 113, 114, 115, 116, 117, 118, 119, 120, 121, 122, 123, 124, 125, 126, 127, 128, 129, 130, 131, 132, 133, 134, 135, 136, 137, 138, 139, 140, 141, 142, 143, 144, 145, 146, 147, 148, 149, 150, 151, 152, 153, 154, 155, 156, 157, 158, 159, 160, 161, 162, 163, 164, 165, 166] (by decide +kernel) (by decide +kernel)
set_option maxRecDepth 20000 in
theorem gX12_inReach_X12_isMan : GoodIn wsX12_inReach (wsV RX12 356 RX12 yX12_isMan wsX12_isMan) := goodIn_app (goodIn_of _ (by decide +kernel)) ggX12_inReach_X12_isMan
theorem dX12_inReach_0 : decode cX12_inReach 0 = .ok (.aload_n 0, 1) := by decide +kernel
theorem dX12_inReach_1 : decode cX12_inReach 1 = .ok (.iload_n 1, 1) := by decide +kernel
theorem dX12_inReach_2 : decode cX12_inReach 2 = .ok (.invokevirtual 356, 3) := by decide +kernel
theorem dX12_inReach_5 : decode cX12_inReach 5 = .ok (.ifCond .ne 5, 3) := by decide +kernel
theorem dX12_inReach_8 : decode cX12_inReach 8 = .ok (.iconst (-1), 1) := by decide +kernel
theorem dX12_inReach_9 : decode cX12_inReach 9 = .ok (.ireturn, 1) := by decide +kernel
set_option maxRecDepth 20000 in
theorem ggX12_most_X12_isMan : GoodIn wsX12_most wsX12_isMan := goodIn_r _ [5, 6, 7, 8, 9, 4, 10, 81, 82, 83, 84, 85, 86, 87, 88, 89, 90, 91, 92, 93, 94, 95, 96, 97, 98, 99, 100, 101, 102, 103, 104, 105, 106, 107, 108, 109, 110, 111, 112, 113, 114, 115, 116, 117, 118, 119, 120, 121, 122, 123, 124, 125, 126, 127, 128, 129, 130, 131, 132, 133, 134, 135, 136, 137, 138, 139, 140, 141, 142, 143, 144, 145, 146, 147, 148, 149, 150, 151, 152, 153, 154, 155, 156, 157, 158, 159, 160, 161, 162, 163, 164, 165, 166, 167, 168, 169, 170] (by decide +kernel) (by decide +kernel)
set_option maxRecDepth 20000 in
theorem gX12_most_X12_isMan : GoodIn wsX12_most (wsV RX12 356 RX12 yX12_isMan wsX12_isMan) := goodIn_app (goodIn_of _ (by decide +kernel)) ggX12_most_X12_isMan
theorem dX12_most_0 : decode cX12_most 0 = .ok (.aload_n 0, 1) := by decide +kernel
theorem dX12_most_1 : decode cX12_most 1 = .ok (.iload_n 1, 1) := by decide +kernel
theorem dX12_most_2 : decode cX12_most 2 = .ok (.invokevirtual 356, 3) := by decide +kernel
theorem dX12_most_5 : decode cX12_most 5 = .ok (.ifCond .eq 11, 3) := by decide +kernel
theorem dX12_most_16 : decode cX12_most 16 = .ok (.iconst (-1), 1) := by decide +kernel
theorem dX12_most_17 : decode cX12_most 17 = .ok (.ireturn, 1) := by decide +kernel
set_option maxRecDepth 20000 in
theorem ggX12_meet_X12_isMan : GoodIn wsX12_meet wsX12_isMan := goodIn_r _ [7, 8, 2, 9, 10, 6, 11, 118, 119, 120, 121, 122, 123, 124, 125, 126, 127, 128, 129, 130, 131, 132, 133, 134, 135, 136, 137, 138, 139, 140, 141, 142, 143, 144, 145, 146, 147, 148, 149, 150, 151, 152, 153, 154, 155, 156, 157, 158, 159, 160, 161, 162, 163, 164, 165, 166, 167, 168, 169, 170, 171, 172, 173, 174, 175, 176, 177, 178, 179, 180, 181, 182, 183, 184, 185, 186, 187, 188, 189, 190, 191, 192, 193, 194, 195, 196, 197, 198, 199, 200, 201, 202, 203, 204, 205, 206, 207] (by decide +kernel) (by decide +kernel)
set_option maxRecDepth 20000 in
theorem gX12_meet_X12_isMan : GoodIn wsX12_meet (wsV RX12 356 RX12 yX12_isMan wsX12_isMan) := goodIn_app (goodIn_of _ (by decide +kernel)) ggX12_meet_X12_isMan
theorem dX12_meet_0 : decode cX12_meet 0 = .ok (.aload_n 0, 1) := by decide +kernel
theorem dX12_meet_1 : decode cX12_meet 1 = .ok (.iload_n 1, 1) := by decide +kernel
theorem dX12_meet_2 : decode cX12_meet 2 = .ok (.invokevirtual 356, 3) := by decide +kernel
theorem dX12_meet_5 : decode cX12_meet 5 = .ok (.ifCond .eq 25, 3) := by decide +kernel
theorem dX12_meet_30 : decode cX12_meet 30 = .ok (.iconst (-1), 1) := by decide +kernel
theorem dX12_meet_31 : decode cX12_meet 31 = .ok (.ireturn, 1) := by decide +kernel
set_option maxRecDepth 20000 in
theorem ggX12_riches_X12_isHouse : GoodIn wsX12_riches wsX12_isHouse := goodIn_r _ [7, 1, 2, 8, 9, 6, 10, 23, 24, 25, 26, 27, 28, 29, 30, 31, 32, 33, 34, 35, 36, 37, 38, 39, 40, 41, 42, 43, 44, 45, 46, 47, 48, 49, 50, 51, 52, 53, 54, 55, 56, 57, 58, 59, 60, 61, 62, 63, 64, 65, 66, 67, 68, 69, 70, 71, 72, 73, 74, 75, 76, 77, 78, 79, 80, 81, 82, 83, 84, 85, 86, 87, 88, 89, 90, 91, 92, 93, 94, 95, 96, 97, 98, 99, 100, 101, 102, 103, 104, 105, 106, 107, 108, 109, 110, 111, 112] (by decide +kernel) (by decide +kernel)
set_option maxRecDepth 20000 in
theorem gX12_riches_X12_isHouse : GoodIn wsX12_riches (wsV RX12 347 RX12 yX12_isHouse wsX12_isHouse) := goodIn_app (goodIn_of _ (by decide +kernel)) ggX12_riches_X12_isHouse
theorem dX12_riches_0 : decode cX12_riches 0 = .ok (.iload_n 1, 1) := by decide +kernel
theorem dX12_riches_1 : decode cX12_riches 1 = .ok (.iconst (-1), 1) := by decide +kernel
theorem dX12_riches_2 : decode cX12_riches 2 = .ok (.if_icmp .eq 21, 3) := by decide +kernel
theorem dX12_riches_5 : decode cX12_riches 5 = .ok (.aload_n 0, 1) := by decide +kernel
theorem dX12_riches_6 : decode cX12_riches 6 = .ok (.iload_n 1, 1) := by decide +kernel
theorem dX12_riches_7 : decode cX12_riches 7 = .ok (.invokevirtual 347, 3) := by decide +kernel
theorem dX12_riches_10 : decode cX12_riches 10 = .ok (.ifCond .eq 11, 3) := by decide +kernel
theorem dX12_riches_21 : decode cX12_riches 21 = .ok (.iconst (-1), 1) := by decide +kernel
theorem dX12_riches_22 : decode cX12_riches 22 = .ok (.ireturn, 1) := by decide +kernel
theorem dX12_riches_23 : decode cX12_riches 23 = .ok (.bipush (-2), 2) := by decide +kernel
theorem dX12_riches_25 : decode cX12_riches 25 = .ok (.istore_n 2, 1) := by decide +kernel
theorem dX12_riches_26 : decode cX12_riches 26 = .ok (.iconst 0, 1) := by decide +kernel
theorem dX12_riches_27 : decode cX12_riches 27 = .ok (.istore_n 3, 1) := by decide +kernel
theorem dX12_riches_28 : decode cX12_riches 28 = .ok (.iload_n 3, 1) := by decide +kernel
theorem dX12_riches_29 : decode cX12_riches 29 = .ok (.aload_n 0, 1) := by decide +kernel
theorem dX12_riches_30 : decode cX12_riches 30 = .ok (.getfield 55, 3) := by decide +kernel
theorem dX12_riches_33 : decode cX12_riches 33 = .ok (.aload_n 0, 1) := by decide +kernel
theorem dX12_riches_34 : decode cX12_riches 34 = .ok (.getfield 266, 3) := by decide +kernel
theorem dX12_riches_37 : decode cX12_riches 37 = .ok (.iaload, 1) := by decide +kernel
theorem dX12_riches_38 : decode cX12_riches 38 = .ok (.if_icmp .ge 28, 3) := by decide +kernel
theorem dX12_riches_66 : decode cX12_riches 66 = .ok (.iload_n 2, 1) := by decide +kernel
theorem dX12_riches_67 : decode cX12_riches 67 = .ok (.ireturn, 1) := by decide +kernel
set_option maxRecDepth 20000 in
theorem ggX12_round_X12_isMan : GoodIn wsX12_round wsX12_isMan := goodIn_r _ [9, 10, 2, 11, 12, 8, 13, 45, 46, 47, 48, 49, 50, 51, 52, 53, 54, 55, 56, 57, 58, 59, 60, 61, 62, 63, 64, 65, 66, 67, 68, 69, 70, 71, 72, 73, 74, 75, 76, 77, 78, 79, 80, 81, 82, 83, 84, 85, 86, 87, 88, 89, 90, 91, 92, 93, 94, 95, 96, 97, 98, 99, 100, 101, 102, 103, 104, 105, 106, 107, 108, 109, 110, 111, 112, 113, 114, 115, 116, 117, 118, 119, 120, 121, 122, 123, 124, 125, 126, 127, 128, 129, 130, 131, 132, 133, 134] (by decide +kernel) (by decide +kernel)
set_option maxRecDepth 20000 in
theorem gX12_round_X12_isMan : GoodIn wsX12_round (wsV RX12 356 RX12 yX12_isMan wsX12_isMan) := goodIn_app (goodIn_of _ (by decide +kernel)) ggX12_round_X12_isMan
theorem dX12_round_0 : decode cX12_round 0 = .ok (.aload_n 0, 1) := by decide +kernel
theorem dX12_round_1 : decode cX12_round 1 = .ok (.iload_n 1, 1) := by decide +kernel
theorem dX12_round_2 : decode cX12_round 2 = .ok (.invokevirtual 356, 3) := by decide +kernel
theorem dX12_round_5 : decode cX12_round 5 = .ok (.ifCond .eq 24, 3) := by decide +kernel
theorem dX12_round_29 : decode cX12_round 29 = .ok (.iconst (-1), 1) := by decide +kernel
theorem dX12_round_30 : decode cX12_round 30 = .ok (.ireturn, 1) := by decide +kernel
set_option maxRecDepth 20000 in
theorem ggX12_carried_X12_isSort : GoodIn wsX12_carried wsX12_isSort := goodIn_r _ [5, 6, 7, 8, 9, 4, 10, 60, 61, 62, 63, 64, 65, 66, 67, 68, 69, 70, 71, 72, 73, 74, 75, 76, 77, 78, 79, 80, 81, 82, 83, 84, 85, 86, 87, 88, 89, 90, 91, 92, 93, 94, 95, 96, 97, 98, 99, 100, 101, 102, 103, 104, 105, 106, 107, 108, 109, 110, 111, 112, 113, 114, 115, 116, 117, 118, 119, 120, 121, 122, 123, 124, 125, 126, 127, 128, 129, 130, 131, 132, 133, 134, 135, 136, 137, 138, 139, 140, 141, 142, 143, 144, 145, 146, 147, 148, 149] (by decide +kernel) (by decide +kernel)
set_option maxRecDepth 20000 in
theorem gX12_carried_X12_isSort : GoodIn wsX12_carried (wsV RX12 353 RX12 yX12_isSort wsX12_isSort) := goodIn_app (goodIn_of _ (by decide +kernel)) ggX12_carried_X12_isSort
theorem dX12_carried_0 : decode cX12_carried 0 = .ok (.aload_n 0, 1) := by decide +kernel
theorem dX12_carried_1 : decode cX12_carried 1 = .ok (.iload_n 1, 1) := by decide +kernel
theorem dX12_carried_2 : decode cX12_carried 2 = .ok (.invokevirtual 353, 3) := by decide +kernel
theorem dX12_carried_5 : decode cX12_carried 5 = .ok (.ifCond .eq 11, 3) := by decide +kernel
theorem dX12_carried_16 : decode cX12_carried 16 = .ok (.iconst (-1), 1) := by decide +kernel
theorem dX12_carried_17 : decode cX12_carried 17 = .ok (.ireturn, 1) := by decide +kernel
set_option maxRecDepth 20000 in
theorem ggX12_helps_X12_isSort : GoodIn wsX12_helps wsX12_isSort := goodIn_r _ [9, 10, 2, 11, 12, 8, 13, 64, 65, 66, 67, 68, 69, 70, 71, 72, 73, 74, 75, 76, 77, 78, 79, 80, 81, 82, 83, 84, 85, 86, 87, 88, 89, 90, 91, 92, 93, 94, 95, 96, 97, 98, 99, 100, 101, 102, 103, 104, 105, 106, 107, 108, 109, 110, 111, 112, 113, 114, 115, 116, 117, 118, 119, 120, 121, 122, 123, 124, 125, 126, 127, 128, 129, 130, 131, 132, 133, 134, 135, 136, 137, 138, 139, 140, 141, 142, 143, 144, 145, 146, 147, 148, 149, 150, 151, 152, 153] (by decide +kernel) (by decide +kernel)
set_option maxRecDepth 20000 in
theorem gX12_helps_X12_isSort : GoodIn wsX12_helps (wsV RX12 353 RX12 yX12_isSort wsX12_isSort) := goodIn_app (goodIn_of _ (by decide +kernel)) ggX12_helps_X12_isSort
theorem dX12_helps_0 : decode cX12_helps 0 = .ok (.aload_n 0, 1) := by decide +kernel
theorem dX12_helps_1 : decode cX12_helps 1 = .ok (.iload_n 1, 1) := by decide +kernel
theorem dX12_helps_2 : decode cX12_helps 2 = .ok (.invokevirtual 353, 3) := by decide +kernel
theorem dX12_helps_5 : decode cX12_helps 5 = .ok (.ifCond .eq 20, 3) := by decide +kernel
theorem dX12_helps_25 : decode cX12_helps 25 = .ok (.iconst (-1), 1) := by decide +kernel
theorem dX12_helps_26 : decode cX12_helps 26 = .ok (.ireturn, 1) := by decide +kernel
set_option maxRecDepth 20000 in
theorem ggX12_turned_X12_isSort : GoodIn wsX12_turned wsX12_isSort := goodIn_r _ [11, 12, 2, 13, 14, 10, 15, 60, 61, 62, 63, 64, 65, 66, 67, 68, 69, 70, 71, 72, 73, 74, 75, 76, 77, 78, 79, 80, 81, 82, 83, 84, 85, 86, 87, 88, 89, 90, 91, 92, 93, 94, 95, 96, 97, 98, 99, 100, 101, 102, 103, 104, 105, 106, 107, 108, 109, 110, 111, 112, 113, 114, 115, 116, 117, 118, 119, 120, 121, 122, 123, 124, 125, 126, 127, 128, 129, 130, 131, 132, 133, 134, 135, 136, 137, 138, 139, 140, 141, 142, 143, 144, 145, 146, 147, 148, 149] (by decide +kernel) (by decide +kernel)
set_option maxRecDepth 20000 in
theorem gX12_turned_X12_isSort : GoodIn wsX12_turned (wsV RX12 353 RX12 yX12_isSort wsX12_isSort) := goodIn_app (goodIn_of _ (by decide +kernel)) ggX12_turned_X12_isSort
theorem dX12_turned_0 : decode cX12_turned 0 = .ok (.aload_n 0, 1) := by decide +kernel
theorem dX12_turned_1 : decode cX12_turned 1 = .ok (.iload_n 1, 1) := by decide +kernel
theorem dX12_turned_2 : decode cX12_turned 2 = .ok (.invokevirtual 353, 3) := by decide +kernel
theorem dX12_turned_5 : decode cX12_turned 5 = .ok (.ifCond .eq 11, 3) := by decide +kernel
theorem dX12_turned_16 : decode cX12_turned 16 = .ok (.iconst (-1), 1) := by decide +kernel
theorem dX12_turned_17 : decode cX12_turned 17 = .ok (.ireturn, 1) := by decide +kernel
set_option maxRecDepth 20000 in
theorem ggX12_visitors_X12_isHouse : GoodIn wsX12_visitors wsX12_isHouse := goodIn_r _ [10, 11, 3, 12, 13, 9, 14, 72, 73, 74, 75, 76, 77, 78, 79, 80, 81, 82, 83, 84, 85, 86, 87, 88, 89, 90, 91, 92, 93, 94, 95, 96, 97, 98, 99, 100, 101, 102, 103, 104, 105, 106, 107, 108, 109, 110, 111, 112, 113, 114, 115, 116, 117, 118, 119, 120, 121, 122, 123, 124, 125, 126, 127, 128, 129, 130, 131, 132, 133, 134, 135, 136, 137, 138, 139, 140, 141, 142, 143, 144, 145, 146, 147, 148, 149, 150, 151, 152, 153, 154, 155, 156, 157, 158, 159, 160, 161] (by decide +kernel) (by decide +kernel)
set_option maxRecDepth 20000 in
theorem gX12_visitors_X12_isHouse : GoodIn wsX12_visitors (wsV RX12 347 RX12 yX12_isHouse wsX12_isHouse) := goodIn_app (goodIn_of _ (by decide +kernel)) ggX12_visitors_X12_isHouse
theorem dX12_visitors_0 : decode cX12_visitors 0 = .ok (.aload_n 0, 1) := by decide +kernel
theorem dX12_visitors_1 : decode cX12_visitors 1 = .ok (.iload_n 1, 1) := by decide +kernel
theorem dX12_visitors_2 : decode cX12_visitors 2 = .ok (.invokevirtual 347, 3) := by decide +kernel
theorem dX12_visitors_5 : decode cX12_visitors 5 = .ok (.ifCond .eq 15, 3) := by decide +kernel
theorem dX12_visitors_20 : decode cX12_visitors 20 = .ok (.iconst (-1), 1) := by decide +kernel
theorem dX12_visitors_21 : decode cX12_visitors 21 = .ok (.ireturn, 1) := by decide +kernel
theorem dJ7_fill_d0a16_0 : decode cJ7_fill_d0a16 0 = .ok (.iconst 0, 1) := by decide +kernel
theorem dJ7_fill_d0a16_1 : decode cJ7_fill_d0a16 1 = .ok (.istore_n 3, 1) := by decide +kernel
theorem dJ7_fill_d0a16_2 : decode cJ7_fill_d0a16 2 = .ok (.aload_n 0, 1) := by decide +kernel
theorem dJ7_fill_d0a16_3 : decode cJ7_fill_d0a16 3 = .ok (.arraylength, 1) := by decide +kernel
theorem dJ7_fill_d0a16_4 : decode cJ7_fill_d0a16 4 = .ok (.istore 4, 2) := by decide +kernel
theorem dJ7_fill_d0a16_6 : decode cJ7_fill_d0a16 6 = .ok (.iload_n 3, 1) := by decide +kernel
theorem dJ7_fill_d0a16_7 : decode cJ7_fill_d0a16 7 = .ok (.iload 4, 2) := by decide +kernel
theorem dJ7_fill_d0a16_9 : decode cJ7_fill_d0a16 9 = .ok (.if_icmp .ge 13, 3) := by decide +kernel
theorem dJ7_fill_d0a16_12 : decode cJ7_fill_d0a16 12 = .ok (.aload_n 0, 1) := by decide +kernel
theorem dJ7_fill_d0a16_13 : decode cJ7_fill_d0a16 13 = .ok (.iload_n 3, 1) := by decide +kernel
theorem dJ7_fill_d0a16_14 : decode cJ7_fill_d0a16 14 = .ok (.lload_n 1, 1) := by decide +kernel
theorem dJ7_fill_d0a16_15 : decode cJ7_fill_d0a16 15 = .ok (.lastore, 1) := by decide +kernel
theorem dJ7_fill_d0a16_16 : decode cJ7_fill_d0a16 16 = .ok (.iinc 3 1, 3) := by decide +kernel
theorem dJ7_fill_d0a16_19 : decode cJ7_fill_d0a16 19 = .ok (.goto (-13), 3) := by decide +kernel
theorem dJ7_fill_d0a16_22 : decode cJ7_fill_d0a16 22 = .ok (.return_, 1) := by decide +kernel
theorem dJ7_fill_53178_0 : decode cJ7_fill_53178 0 = .ok (.iconst 0, 1) := by decide +kernel
theorem dJ7_fill_53178_1 : decode cJ7_fill_53178 1 = .ok (.istore_n 2, 1) := by decide +kernel
theorem dJ7_fill_53178_2 : decode cJ7_fill_53178 2 = .ok (.aload_n 0, 1) := by decide +kernel
theorem dJ7_fill_53178_3 : decode cJ7_fill_53178 3 = .ok (.arraylength, 1) := by decide +kernel
theorem dJ7_fill_53178_4 : decode cJ7_fill_53178 4 = .ok (.istore_n 3, 1) := by decide +kernel
theorem dJ7_fill_53178_5 : decode cJ7_fill_53178 5 = .ok (.iload_n 2, 1) := by decide +kernel
theorem dJ7_fill_53178_6 : decode cJ7_fill_53178 6 = .ok (.iload_n 3, 1) := by decide +kernel
theorem dJ7_fill_53178_7 : decode cJ7_fill_53178 7 = .ok (.if_icmp .ge 13, 3) := by decide +kernel
theorem dJ7_fill_53178_10 : decode cJ7_fill_53178 10 = .ok (.aload_n 0, 1) := by decide +kernel
theorem dJ7_fill_53178_11 : decode cJ7_fill_53178 11 = .ok (.iload_n 2, 1) := by decide +kernel
theorem dJ7_fill_53178_12 : decode cJ7_fill_53178 12 = .ok (.iload_n 1, 1) := by decide +kernel
theorem dJ7_fill_53178_13 : decode cJ7_fill_53178 13 = .ok (.iastore, 1) := by decide +kernel
theorem dJ7_fill_53178_14 : decode cJ7_fill_53178 14 = .ok (.iinc 2 1, 3) := by decide +kernel
theorem dJ7_fill_53178_17 : decode cJ7_fill_53178 17 = .ok (.goto (-12), 3) := by decide +kernel
theorem dJ7_fill_53178_20 : decode cJ7_fill_53178 20 = .ok (.return_, 1) := by decide +kernel
abbrev vwCl : List vw_C := [(RX0, TX0, 7), (RX1, TX1, 13), (RX2, TX2, 4), (RX3, TX3, 5), (RX4, TX4, 7), (RX5, TX5, 3), (RX6, TX6, 12), (RX7, TX7, 18), (RX8, TX8, 6), (RX9, TX9, 8), (RX10, TX10, 18), (RX11, TX11, 11), (RX12, TX12, 90)]
theorem df_X0 : ∀ j, j < 7 → defaultValue (tyX0 j) = vp_V [.null, .int 0, .int 0, .int 0, .int 0, .null, .null] j := fun j h => match j, h with
  | 0, _ => rfl
  | 1, _ => rfl
  | 2, _ => rfl
  | 3, _ => rfl
  | 4, _ => rfl
  | 5, _ => rfl
  | 6, _ => rfl
  | k + 7, h => absurd h (by omega)
theorem df_X1 : ∀ j, j < 13 → defaultValue (tyX1 j) = vp_V [.int 0, .int 0, .int 0, .int 0, .null, .null, .null, .null, .null, .null, .null, .null, .null] j := fun j h => match j, h with
  | 0, _ => rfl
  | 1, _ => rfl
  | 2, _ => rfl
  | 3, _ => rfl
  | 4, _ => rfl
  | 5, _ => rfl
  | 6, _ => rfl
  | 7, _ => rfl
  | 8, _ => rfl
  | 9, _ => rfl
  | 10, _ => rfl
  | 11, _ => rfl
  | 12, _ => rfl
  | k + 13, h => absurd h (by omega)
theorem df_X2 : ∀ j, j < 4 → defaultValue (tyX2 j) = vp_V [.int 0, .null, .null, .null] j := fun j h => match j, h with
  | 0, _ => rfl
  | 1, _ => rfl
  | 2, _ => rfl
  | 3, _ => rfl
  | k + 4, h => absurd h (by omega)
theorem df_X3 : ∀ j, j < 5 → defaultValue (tyX3 j) = vp_V [.null, .null, .null, .int 0, .int 0] j := fun j h => match j, h with
  | 0, _ => rfl
  | 1, _ => rfl
  | 2, _ => rfl
  | 3, _ => rfl
  | 4, _ => rfl
  | k + 5, h => absurd h (by omega)
theorem df_X4 : ∀ j, j < 7 → defaultValue (tyX4 j) = vp_V [.int 0, .int 0, .null, .null, .null, .null, .null] j := fun j h => match j, h with
  | 0, _ => rfl
  | 1, _ => rfl
  | 2, _ => rfl
  | 3, _ => rfl
  | 4, _ => rfl
  | 5, _ => rfl
  | 6, _ => rfl
  | k + 7, h => absurd h (by omega)
theorem df_X5 : ∀ j, j < 3 → defaultValue (tyX5 j) = vp_V [.null, .null, .int 0] j := fun j h => match j, h with
  | 0, _ => rfl
  | 1, _ => rfl
  | 2, _ => rfl
  | k + 3, h => absurd h (by omega)
theorem df_X6 : ∀ j, j < 12 → defaultValue (tyX6 j) = vp_V [.int 0, .int 0, .int 0, .int 0, .int 0, .long 0, .null, .null, .null, .null, .null, .null] j := fun j h => match j, h with
  | 0, _ => rfl
  | 1, _ => rfl
  | 2, _ => rfl
  | 3, _ => rfl
  | 4, _ => rfl
  | 5, _ => rfl
  | 6, _ => rfl
  | 7, _ => rfl
  | 8, _ => rfl
  | 9, _ => rfl
  | 10, _ => rfl
  | 11, _ => rfl
  | k + 12, h => absurd h (by omega)
theorem df_X7 : ∀ j, j < 18 → defaultValue (tyX7 j) = vp_V [.int 0, .int 0, .int 0, .int 0, .int 0, .int 0, .null, .null, .null, .null, .null, .null, .null, .null, .null, .null, .null, .null] j := fun j h => match j, h with
  | 0, _ => rfl
  | 1, _ => rfl
  | 2, _ => rfl
  | 3, _ => rfl
  | 4, _ => rfl
  | 5, _ => rfl
  | 6, _ => rfl
  | 7, _ => rfl
  | 8, _ => rfl
  | 9, _ => rfl
  | 10, _ => rfl
  | 11, _ => rfl
  | 12, _ => rfl
  | 13, _ => rfl
  | 14, _ => rfl
  | 15, _ => rfl
  | 16, _ => rfl
  | 17, _ => rfl
  | k + 18, h => absurd h (by omega)
theorem df_X8 : ∀ j, j < 6 → defaultValue (tyX8 j) = vp_V [.int 0, .int 0, .null, .null, .null, .null] j := fun j h => match j, h with
  | 0, _ => rfl
  | 1, _ => rfl
  | 2, _ => rfl
  | 3, _ => rfl
  | 4, _ => rfl
  | 5, _ => rfl
  | k + 6, h => absurd h (by omega)
theorem df_X9 : ∀ j, j < 8 → defaultValue (tyX9 j) = vp_V [.int 0, .null, .null, .null, .null, .int 0, .null, .null] j := fun j h => match j, h with
  | 0, _ => rfl
  | 1, _ => rfl
  | 2, _ => rfl
  | 3, _ => rfl
  | 4, _ => rfl
  | 5, _ => rfl
  | 6, _ => rfl
  | 7, _ => rfl
  | k + 8, h => absurd h (by omega)
theorem df_X10 : ∀ j, j < 18 → defaultValue (tyX10 j) = vp_V [.null, .null, .null, .int 0, .int 0, .int 0, .int 0, .int 0, .int 0, .int 0, .long 0, .int 0, .int 0, .null, .null, .null, .null, .null] j := fun j h => match j, h with
  | 0, _ => rfl
  | 1, _ => rfl
  | 2, _ => rfl
  | 3, _ => rfl
  | 4, _ => rfl
  | 5, _ => rfl
  | 6, _ => rfl
  | 7, _ => rfl
  | 8, _ => rfl
  | 9, _ => rfl
  | 10, _ => rfl
  | 11, _ => rfl
  | 12, _ => rfl
  | 13, _ => rfl
  | 14, _ => rfl
  | 15, _ => rfl
  | 16, _ => rfl
  | 17, _ => rfl
  | k + 18, h => absurd h (by omega)
theorem df_X11 : ∀ j, j < 11 → defaultValue (tyX11 j) = vp_V [.null, .null, .null, .null, .null, .null, .null, .null, .null, .null, .null] j := fun j h => match j, h with
  | 0, _ => rfl
  | 1, _ => rfl
  | 2, _ => rfl
  | 3, _ => rfl
  | 4, _ => rfl
  | 5, _ => rfl
  | 6, _ => rfl
  | 7, _ => rfl
  | 8, _ => rfl
  | 9, _ => rfl
  | 10, _ => rfl
  | k + 11, h => absurd h (by omega)
theorem df_X12 : ∀ j, j < 90 → defaultValue (tyX12 j) = vp_V [.int 0, .null, .int 0, .null, .int 0, .null, .null, .null, .null, .null, .int 0, .int 0, .int 0, .int 0, .int 0, .int 0, .int 0, .int 0, .int 0, .int 0, .int 0, .null, .null, .null, .null, .null, .null, .null, .null, .null, .null, .null, .null, .null, .null, .null, .null, .null, .null, .null, .int 0, .null, .null, .int 0, .int 0, .int 0, .int 0, .int 0, .int 0, .null, .int 0, .int 0, .int 0, .int 0, .int 0, .null, .null, .int 0, .null, .null, .int 0, .null, .null, .null, .null, .null, .null, .null, .null, .null, .null, .null, .null, .int 0, .null, .null, .null, .null, .null, .int 0, .int 0, .null, .null, .null, .null, .long 0, .null, .null, .null, .null] j := fun j h => match j, h with
  | 0, _ => rfl
  | 1, _ => rfl
  | 2, _ => rfl
  | 3, _ => rfl
  | 4, _ => rfl
  | 5, _ => rfl
  | 6, _ => rfl
  | 7, _ => rfl
  | 8, _ => rfl
  | 9, _ => rfl
  | 10, _ => rfl
  | 11, _ => rfl
  | 12, _ => rfl
  | 13, _ => rfl
  | 14, _ => rfl
  | 15, _ => rfl
  | 16, _ => rfl
  | 17, _ => rfl
  | 18, _ => rfl
  | 19, _ => rfl
  | 20, _ => rfl
  | 21, _ => rfl
  | 22, _ => rfl
  | 23, _ => rfl
  | 24, _ => rfl
  | 25, _ => rfl
  | 26, _ => rfl
  | 27, _ => rfl
  | 28, _ => rfl
  | 29, _ => rfl
  | 30, _ => rfl
  | 31, _ => rfl
  | 32, _ => rfl
  | 33, _ => rfl
  | 34, _ => rfl
  | 35, _ => rfl
  | 36, _ => rfl
  | 37, _ => rfl
  | 38, _ => rfl
  | 39, _ => rfl
  | 40, _ => rfl
  | 41, _ => rfl
  | 42, _ => rfl
  | 43, _ => rfl
  | 44, _ => rfl
  | 45, _ => rfl
  | 46, _ => rfl
  | 47, _ => rfl
  | 48, _ => rfl
  | 49, _ => rfl
  | 50, _ => rfl
  | 51, _ => rfl
  | 52, _ => rfl
  | 53, _ => rfl
  | 54, _ => rfl
  | 55, _ => rfl
  | 56, _ => rfl
  | 57, _ => rfl
  | 58, _ => rfl
  | 59, _ => rfl
  | 60, _ => rfl
  | 61, _ => rfl
  | 62, _ => rfl
  | 63, _ => rfl
  | 64, _ => rfl
  | 65, _ => rfl
  | 66, _ => rfl
  | 67, _ => rfl
  | 68, _ => rfl
  | 69, _ => rfl
  | 70, _ => rfl
  | 71, _ => rfl
  | 72, _ => rfl
  | 73, _ => rfl
  | 74, _ => rfl
  | 75, _ => rfl
  | 76, _ => rfl
  | 77, _ => rfl
  | 78, _ => rfl
  | 79, _ => rfl
  | 80, _ => rfl
  | 81, _ => rfl
  | 82, _ => rfl
  | 83, _ => rfl
  | 84, _ => rfl
  | 85, _ => rfl
  | 86, _ => rfl
  | 87, _ => rfl
  | 88, _ => rfl
  | 89, _ => rfl
  | k + 90, h => absurd h (by omega)

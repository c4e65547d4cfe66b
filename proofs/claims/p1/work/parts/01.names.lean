theorem goodIn_r {big : List Cond} (ws : List Cond) (ps : List Nat) (hp : ws = ps.filterMap (fun i => big[i]?)) (h : ws.all goodWord = true) : GoodIn big ws := by
  intro w hw
  have h1 := List.all_eq_true.mp h w hw
  rw [hp] at hw
  obtain ⟨i, -, hi⟩ := List.mem_filterMap.mp hw
  have hm : w ∈ big := by first | exact List.mem_of_getElem? hi | exact List.getElem?_mem hi
  exact ⟨hm, good_of_word h1⟩
theorem goodIn_app {big a b : List Cond} (ha : GoodIn big a) (hb : GoodIn big b) : GoodIn big (a ++ b) := fun w h => (List.mem_append.mp h).elim (ha w) (hb w)
theorem goodIn_ca {big a b : List Cond} {c : Cond} (ha : GoodIn big (c :: a)) (hb : GoodIn big b) : GoodIn big (c :: (a ++ b)) := fun w h => (List.mem_cons.mp h).elim (fun e => ha w (List.mem_cons.mpr (Or.inl e))) (fun h => (List.mem_append.mp h).elim (fun h => ha w (List.mem_cons.mpr (Or.inr h))) (hb w))
theorem goodIn_sub {big ws : List Cond} (hm : ∀ w ∈ ws, w ∈ big) (h : ws.all goodWord = true) : GoodIn big ws := fun w hw => ⟨hm w hw, good_of_word (List.all_eq_true.mp h w hw)⟩
def RX0 : String := "HallTables$Chance"
def TX0 : u_T := fun k => match k with
  | 0 => ("HallTables$Chance", "stand", "LHallTables$Stand;", true)
  | 1 => ("HallTables$Chance", "steps", "I", false)
  | 2 => ("HallTables$Chance", "loss", "I", false)
  | 3 => ("HallTables$Chance", "dropped", "I", false)
  | 4 => ("HallTables$Chance", "owed", "I", false)
  | 5 => ("HallTables$Chance", "owedMan", "[I", true)
  | _ => ("HallTables$Chance", "owedHouse", "[I", true)
def tyX0 : Nat → FieldType := fun k => match k with
  | 0 => .object "HallTables$Stand"
  | 1 => .int
  | 2 => .int
  | 3 => .int
  | 4 => .int
  | 5 => .array .int
  | _ => .array .int
abbrev wsX00 : List Cond := u_ws RX0 TX0 7
theorem nmX0 : ∀ a, a < 7 → ∀ b, b < 7 → a ≠ b → (TX0 a).2.1 ≠ (TX0 b).2.1 := by decide +kernel
theorem tyX0_ok : ∀ k, k < 7 → parseFieldDescriptor (TX0 k).2.2.1 = some (tyX0 k) := by decide +kernel
abbrev cX0_init : ByteArray := prog_2_method_1_code
def yX0_init : MethodName := ⟨RX0, "<init>", "()V"⟩
abbrev cX0_lot : ByteArray := prog_2_method_2_code
def yX0_lot : MethodName := ⟨RX0, "lot", "(III)I"⟩
abbrev cX0_mixed : ByteArray := prog_2_method_3_code
def yX0_mixed : MethodName := ⟨RX0, "mixed", "(II)I"⟩
abbrev cX0_live : ByteArray := prog_2_method_4_code
def yX0_live : MethodName := ⟨RX0, "live", "(LHallTables$Town;LHallTables$Stand;II)V"⟩
abbrev cX0_doorsAt : ByteArray := prog_2_method_5_code
def yX0_doorsAt : MethodName := ⟨RX0, "doorsAt", "(LHallTables$Town;I)I"⟩
abbrev cX0_behindDoor : ByteArray := prog_2_method_6_code
def yX0_behindDoor : MethodName := ⟨RX0, "behindDoor", "(LHallTables$Town;II)I"⟩
abbrev cX0_goByLaw : ByteArray := prog_2_method_7_code
def yX0_goByLaw : MethodName := ⟨RX0, "goByLaw", "(LHallTables$Town;II)Z"⟩
abbrev cX0_payAll : ByteArray := prog_2_method_8_code
def yX0_payAll : MethodName := ⟨RX0, "payAll", "(LHallTables$Town;)V"⟩
abbrev cX0_owe : ByteArray := prog_2_method_9_code
def yX0_owe : MethodName := ⟨RX0, "owe", "(II)V"⟩
abbrev cX0_pay : ByteArray := prog_2_method_10_code
def yX0_pay : MethodName := ⟨RX0, "pay", "(LHallTables$Town;II)V"⟩
def RX1 : String := "HallTables$Day"
def TX1 : u_T := fun k => match k with
  | 0 => ("HallTables$Day", "houses", "I", false)
  | 1 => ("HallTables$Day", "calls", "I", false)
  | 2 => ("HallTables$Day", "target", "I", false)
  | 3 => ("HallTables$Day", "queued", "I", false)
  | 4 => ("HallTables$Day", "stock", "[I", true)
  | 5 => ("HallTables$Day", "unsent", "[I", true)
  | 6 => ("HallTables$Day", "from", "[I", true)
  | 7 => ("HallTables$Day", "to", "[I", true)
  | 8 => ("HallTables$Day", "carries", "[I", true)
  | 9 => ("HallTables$Day", "stay", "[I", true)
  | 10 => ("HallTables$Day", "queue", "[I", true)
  | 11 => ("HallTables$Day", "cameFrom", "[I", true)
  | _ => ("HallTables$Day", "leadsOn", "[I", true)
def tyX1 : Nat → FieldType := fun k => match k with
  | 0 => .int
  | 1 => .int
  | 2 => .int
  | 3 => .int
  | 4 => .array .int
  | 5 => .array .int
  | 6 => .array .int
  | 7 => .array .int
  | 8 => .array .int
  | 9 => .array .int
  | 10 => .array .int
  | 11 => .array .int
  | _ => .array .int
abbrev wsX10 : List Cond := u_ws RX1 TX1 13
theorem nmX1 : ∀ a, a < 13 → ∀ b, b < 13 → a ≠ b → (TX1 a).2.1 ≠ (TX1 b).2.1 := by decide +kernel
theorem tyX1_ok : ∀ k, k < 13 → parseFieldDescriptor (TX1 k).2.2.1 = some (tyX1 k) := by decide +kernel
abbrev cX1_init : ByteArray := prog_3_method_1_code
def yX1_init : MethodName := ⟨RX1, "<init>", "()V"⟩
abbrev cX1_prepare : ByteArray := prog_3_method_2_code
def yX1_prepare : MethodName := ⟨RX1, "prepare", "(LHallTables$Town;II)V"⟩
abbrev cX1_flow : ByteArray := prog_3_method_3_code
def yX1_flow : MethodName := ⟨RX1, "flow", "()I"⟩
abbrev cX1_sendOne : ByteArray := prog_3_method_4_code
def yX1_sendOne : MethodName := ⟨RX1, "sendOne", "()Z"⟩
abbrev cX1_change : ByteArray := prog_3_method_5_code
def yX1_change : MethodName := ⟨RX1, "change", "(II)V"⟩
abbrev cX1_spread : ByteArray := prog_3_method_6_code
def yX1_spread : MethodName := ⟨RX1, "spread", "()V"⟩
abbrev cX1_spreadBack : ByteArray := prog_3_method_7_code
def yX1_spreadBack : MethodName := ⟨RX1, "spreadBack", "()V"⟩
abbrev cX1_reach : ByteArray := prog_3_method_8_code
def yX1_reach : MethodName := ⟨RX1, "reach", "([III)V"⟩
abbrev cX1_help : ByteArray := prog_3_method_9_code
def yX1_help : MethodName := ⟨RX1, "help", "(LHallTables$Town;I)I"⟩
abbrev cX1_firstHelped : ByteArray := prog_3_method_10_code
def yX1_firstHelped : MethodName := ⟨RX1, "firstHelped", "(II)I"⟩
abbrev cX1_bestTurn : ByteArray := prog_3_method_11_code
def yX1_bestTurn : MethodName := ⟨RX1, "bestTurn", "()I"⟩
abbrev cX1_exchange : ByteArray := prog_3_method_12_code
def yX1_exchange : MethodName := ⟨RX1, "exchange", "(II)V"⟩
def RX2 : String := "HallTables$Heap"
def TX2 : u_T := fun k => match k with
  | 0 => ("HallTables$Heap", "size", "I", false)
  | 1 => ("HallTables$Heap", "key", "[J", true)
  | 2 => ("HallTables$Heap", "item", "[I", true)
  | _ => ("HallTables$Heap", "spot", "[I", true)
def tyX2 : Nat → FieldType := fun k => match k with
  | 0 => .int
  | 1 => .array .long
  | 2 => .array .int
  | _ => .array .int
abbrev wsX20 : List Cond := u_ws RX2 TX2 4
theorem nmX2 : ∀ a, a < 4 → ∀ b, b < 4 → a ≠ b → (TX2 a).2.1 ≠ (TX2 b).2.1 := by decide +kernel
theorem tyX2_ok : ∀ k, k < 4 → parseFieldDescriptor (TX2 k).2.2.1 = some (tyX2 k) := by decide +kernel
abbrev cX2_init : ByteArray := prog_4_method_1_code
def yX2_init : MethodName := ⟨RX2, "<init>", "()V"⟩
abbrev cX2_add : ByteArray := prog_4_method_2_code
def yX2_add : MethodName := ⟨RX2, "add", "(I)V"⟩
abbrev cX2_rise : ByteArray := prog_4_method_3_code
def yX2_rise : MethodName := ⟨RX2, "rise", "(I)V"⟩
abbrev cX2_takeLeast : ByteArray := prog_4_method_4_code
def yX2_takeLeast : MethodName := ⟨RX2, "takeLeast", "()I"⟩
abbrev cX2_sink : ByteArray := prog_4_method_5_code
def yX2_sink : MethodName := ⟨RX2, "sink", "(I)V"⟩
abbrev cX2_put : ByteArray := prog_4_method_6_code
def yX2_put : MethodName := ⟨RX2, "put", "(II)V"⟩
def RX3 : String := "HallTables$Rounds"
def TX3 : u_T := fun k => match k with
  | 0 => ("HallTables$Rounds", "here", "[I", false)
  | 1 => ("HallTables$Rounds", "next", "[I", false)
  | 2 => ("HallTables$Rounds", "town", "LHallTables$Town;", false)
  | 3 => ("HallTables$Rounds", "home", "I", false)
  | _ => ("HallTables$Rounds", "set", "I", false)
def tyX3 : Nat → FieldType := fun k => match k with
  | 0 => .array .int
  | 1 => .array .int
  | 2 => .object "HallTables$Town"
  | 3 => .int
  | _ => .int
abbrev wsX30 : List Cond := u_ws RX3 TX3 5
theorem nmX3 : ∀ a, a < 5 → ∀ b, b < 5 → a ≠ b → (TX3 a).2.1 ≠ (TX3 b).2.1 := by decide +kernel
theorem tyX3_ok : ∀ k, k < 5 → parseFieldDescriptor (TX3 k).2.2.1 = some (tyX3 k) := by decide +kernel
abbrev cX3_init : ByteArray := prog_5_method_1_code
def yX3_init : MethodName := ⟨RX3, "<init>", "()V"⟩
abbrev cX3_fewest : ByteArray := prog_5_method_2_code
def yX3_fewest : MethodName := ⟨RX3, "fewest", "(LHallTables$Town;LHallTables$Stand;II)I"⟩
abbrev cX3_spot : ByteArray := prog_5_method_3_code
def yX3_spot : MethodName := ⟨RX3, "spot", "(II)I"⟩
abbrev cX3_isPart : ByteArray := prog_5_method_4_code
def yX3_isPart : MethodName := ⟨RX3, "isPart", "(I)Z"⟩
abbrev cX3_goHome : ByteArray := prog_5_method_5_code
def yX3_goHome : MethodName := ⟨RX3, "goHome", "()V"⟩
abbrev cX3_goOn : ByteArray := prog_5_method_6_code
def yX3_goOn : MethodName := ⟨RX3, "goOn", "()V"⟩
abbrev cX3_goOnFrom : ByteArray := prog_5_method_7_code
def yX3_goOnFrom : MethodName := ⟨RX3, "goOnFrom", "(II)V"⟩
abbrev cX3_pass : ByteArray := prog_5_method_8_code
def yX3_pass : MethodName := ⟨RX3, "pass", "(III[I)V"⟩
def RX4 : String := "HallTables$Stand"
def TX4 : u_T := fun k => match k with
  | 0 => ("HallTables$Stand", "holds", "Z", false)
  | 1 => ("HallTables$Stand", "men", "I", false)
  | 2 => ("HallTables$Stand", "at", "[I", true)
  | 3 => ("HallTables$Stand", "hand", "[I", true)
  | 4 => ("HallTables$Stand", "minutes", "[I", true)
  | 5 => ("HallTables$Stand", "loss", "[I", true)
  | _ => ("HallTables$Stand", "table", "[I", true)
def tyX4 : Nat → FieldType := fun k => match k with
  | 0 => .boolean
  | 1 => .int
  | 2 => .array .int
  | 3 => .array .int
  | 4 => .array .int
  | 5 => .array .int
  | _ => .array .int
abbrev wsX40 : List Cond := u_ws RX4 TX4 7
theorem nmX4 : ∀ a, a < 7 → ∀ b, b < 7 → a ≠ b → (TX4 a).2.1 ≠ (TX4 b).2.1 := by decide +kernel
theorem tyX4_ok : ∀ k, k < 7 → parseFieldDescriptor (TX4 k).2.2.1 = some (tyX4 k) := by decide +kernel
abbrev cX4_init : ByteArray := prog_6_method_1_code
def yX4_init : MethodName := ⟨RX4, "<init>", "()V"⟩
abbrev cX4_begin : ByteArray := prog_6_method_2_code
def yX4_begin : MethodName := ⟨RX4, "begin", "(LHallTables$Town;)V"⟩
abbrev cX4_copyOf : ByteArray := prog_6_method_3_code
def yX4_copyOf : MethodName := ⟨RX4, "copyOf", "(LHallTables$Stand;)V"⟩
abbrev cX4_enter : ByteArray := prog_6_method_4_code
def yX4_enter : MethodName := ⟨RX4, "enter", "(LHallTables$Town;III)V"⟩
abbrev cX4_takeBack : ByteArray := prog_6_method_5_code
def yX4_takeBack : MethodName := ⟨RX4, "takeBack", "(LHallTables$Town;LHallTables$Track;I)V"⟩
abbrev cX4_thingsCarried : ByteArray := prog_6_method_6_code
def yX4_thingsCarried : MethodName := ⟨RX4, "thingsCarried", "()I"⟩
abbrev cX4_thingsOnTables : ByteArray := prog_6_method_7_code
def yX4_thingsOnTables : MethodName := ⟨RX4, "thingsOnTables", "()I"⟩
abbrev cX4_menAtHome : ByteArray := prog_6_method_8_code
def yX4_menAtHome : MethodName := ⟨RX4, "menAtHome", "(LHallTables$Town;)I"⟩
def RX5 : String := "HallTables$Teller"
def TX5 : u_T := fun k => match k with
  | 0 => ("HallTables$Teller", "text", "LHallTables$Text;", true)
  | 1 => ("HallTables$Teller", "town", "LHallTables$Town;", false)
  | _ => ("HallTables$Teller", "at", "I", false)
def tyX5 : Nat → FieldType := fun k => match k with
  | 0 => .object "HallTables$Text"
  | 1 => .object "HallTables$Town"
  | _ => .int
abbrev wsX50 : List Cond := u_ws RX5 TX5 3
theorem nmX5 : ∀ a, a < 3 → ∀ b, b < 3 → a ≠ b → (TX5 a).2.1 ≠ (TX5 b).2.1 := by decide +kernel
theorem tyX5_ok : ∀ k, k < 3 → parseFieldDescriptor (TX5 k).2.2.1 = some (tyX5 k) := by decide +kernel
abbrev cX5_init : ByteArray := prog_7_method_1_code
def yX5_init : MethodName := ⟨RX5, "<init>", "()V"⟩
abbrev cX5_exchange : ByteArray := prog_7_method_2_code
def yX5_exchange : MethodName := ⟨RX5, "exchange", "(LHallTables$Town;)LHallTables$Town;"⟩
abbrev cX5_tellAll : ByteArray := prog_7_method_3_code
def yX5_tellAll : MethodName := ⟨RX5, "tellAll", "()V"⟩
abbrev cX5_tellOne : ByteArray := prog_7_method_4_code
def yX5_tellOne : MethodName := ⟨RX5, "tellOne", "(I)V"⟩
abbrev cX5_tellSort : ByteArray := prog_7_method_5_code
def yX5_tellSort : MethodName := ⟨RX5, "tellSort", "()V"⟩
abbrev cX5_tellHouse : ByteArray := prog_7_method_6_code
def yX5_tellHouse : MethodName := ⟨RX5, "tellHouse", "()V"⟩
abbrev cX5_tellDoor : ByteArray := prog_7_method_7_code
def yX5_tellDoor : MethodName := ⟨RX5, "tellDoor", "()V"⟩
abbrev cX5_tellWorth : ByteArray := prog_7_method_8_code
def yX5_tellWorth : MethodName := ⟨RX5, "tellWorth", "()V"⟩
abbrev cX5_tellShop : ByteArray := prog_7_method_9_code
def yX5_tellShop : MethodName := ⟨RX5, "tellShop", "()V"⟩
abbrev cX5_tellHall : ByteArray := prog_7_method_10_code
def yX5_tellHall : MethodName := ⟨RX5, "tellHall", "()V"⟩
abbrev cX5_tellMan : ByteArray := prog_7_method_11_code
def yX5_tellMan : MethodName := ⟨RX5, "tellMan", "()V"⟩
abbrev cX5_tellLaw : ByteArray := prog_7_method_12_code
def yX5_tellLaw : MethodName := ⟨RX5, "tellLaw", "()V"⟩
abbrev cX5_tellCall : ByteArray := prog_7_method_13_code
def yX5_tellCall : MethodName := ⟨RX5, "tellCall", "()V"⟩
abbrev cX5_isWell : ByteArray := prog_7_method_14_code
def yX5_isWell : MethodName := ⟨RX5, "isWell", "()Z"⟩
abbrev cX5_newName : ByteArray := prog_7_method_15_code
def yX5_newName : MethodName := ⟨RX5, "newName", "()J"⟩
abbrev cX5_known : ByteArray := prog_7_method_16_code
def yX5_known : MethodName := ⟨RX5, "known", "([JI)I"⟩
abbrev cX5_number : ByteArray := prog_7_method_17_code
def yX5_number : MethodName := ⟨RX5, "number", "(II)I"⟩
abbrev cX5_indexOf : ByteArray := prog_7_method_18_code
def yX5_indexOf : MethodName := ⟨RX5, "indexOf", "(J[JI)I"⟩
def RX6 : String := "HallTables$Text"
def TX6 : u_T := fun k => match k with
  | 0 => ("HallTables$Text", "length", "I", false)
  | 1 => ("HallTables$Text", "tokens", "I", false)
  | 2 => ("HallTables$Text", "fault", "I", false)
  | 3 => ("HallTables$Text", "faultPlace", "I", false)
  | 4 => ("HallTables$Text", "end", "I", false)
  | 5 => ("HallTables$Text", "value", "J", false)
  | 6 => ("HallTables$Text", "bytes", "[B", true)
  | 7 => ("HallTables$Text", "kinds", "[I", true)
  | 8 => ("HallTables$Text", "values", "[J", true)
  | 9 => ("HallTables$Text", "places", "[I", true)
  | 10 => ("HallTables$Text", "told", "[I", true)
  | _ => ("HallTables$Text", "words", "[J", true)
def tyX6 : Nat → FieldType := fun k => match k with
  | 0 => .int
  | 1 => .int
  | 2 => .int
  | 3 => .int
  | 4 => .int
  | 5 => .long
  | 6 => .array .byte
  | 7 => .array .int
  | 8 => .array .long
  | 9 => .array .int
  | 10 => .array .int
  | _ => .array .long
abbrev wsX60 : List Cond := u_ws RX6 TX6 12
theorem nmX6 : ∀ a, a < 12 → ∀ b, b < 12 → a ≠ b → (TX6 a).2.1 ≠ (TX6 b).2.1 := by decide +kernel
theorem tyX6_ok : ∀ k, k < 12 → parseFieldDescriptor (TX6 k).2.2.1 = some (tyX6 k) := by decide +kernel
abbrev cX6_init : ByteArray := prog_8_method_1_code
def yX6_init : MethodName := ⟨RX6, "<init>", "()V"⟩
abbrev cX6_hasRoomFor : ByteArray := prog_8_method_2_code
def yX6_hasRoomFor : MethodName := ⟨RX6, "hasRoomFor", "(I)Z"⟩
abbrev cX6_append : ByteArray := prog_8_method_3_code
def yX6_append : MethodName := ⟨RX6, "append", "(I)V"⟩
abbrev cX6_kindOf : ByteArray := prog_8_method_4_code
def yX6_kindOf : MethodName := ⟨RX6, "kindOf", "(I)I"⟩
abbrev cX6_valueOf : ByteArray := prog_8_method_5_code
def yX6_valueOf : MethodName := ⟨RX6, "valueOf", "(I)J"⟩
abbrev cX6_placeOf : ByteArray := prog_8_method_6_code
def yX6_placeOf : MethodName := ⟨RX6, "placeOf", "(I)I"⟩
abbrev cX6_note : ByteArray := prog_8_method_7_code
def yX6_note : MethodName := ⟨RX6, "note", "(II)V"⟩
abbrev cX6_check : ByteArray := prog_8_method_8_code
def yX6_check : MethodName := ⟨RX6, "check", "()V"⟩
abbrev cX6_keep : ByteArray := prog_8_method_9_code
def yX6_keep : MethodName := ⟨RX6, "keep", "(II)V"⟩
abbrev cX6_begin : ByteArray := prog_8_method_10_code
def yX6_begin : MethodName := ⟨RX6, "begin", "(I)I"⟩
abbrev cX6_follow : ByteArray := prog_8_method_11_code
def yX6_follow : MethodName := ⟨RX6, "follow", "(III)I"⟩
abbrev cX6_shape : ByteArray := prog_8_method_12_code
def yX6_shape : MethodName := ⟨RX6, "shape", "(I)Ljava/lang/String;"⟩
abbrev cX6_pastBlanks : ByteArray := prog_8_method_13_code
def yX6_pastBlanks : MethodName := ⟨RX6, "pastBlanks", "(I)I"⟩
abbrev cX6_byteAt : ByteArray := prog_8_method_14_code
def yX6_byteAt : MethodName := ⟨RX6, "byteAt", "(I)I"⟩
abbrev cX6_lex : ByteArray := prog_8_method_15_code
def yX6_lex : MethodName := ⟨RX6, "lex", "(I)I"⟩
abbrev cX6_lexName : ByteArray := prog_8_method_16_code
def yX6_lexName : MethodName := ⟨RX6, "lexName", "(I)I"⟩
abbrev cX6_lexInt : ByteArray := prog_8_method_17_code
def yX6_lexInt : MethodName := ⟨RX6, "lexInt", "(I)I"⟩
abbrev cX6_isLetter : ByteArray := prog_8_method_18_code
def yX6_isLetter : MethodName := ⟨RX6, "isLetter", "(I)Z"⟩
abbrev cX6_isDigit : ByteArray := prog_8_method_19_code
def yX6_isDigit : MethodName := ⟨RX6, "isDigit", "(I)Z"⟩
abbrev cX6_code : ByteArray := prog_8_method_20_code
def yX6_code : MethodName := ⟨RX6, "code", "(Ljava/lang/String;)J"⟩
abbrev cX6_codeWith : ByteArray := prog_8_method_21_code
def yX6_codeWith : MethodName := ⟨RX6, "codeWith", "(JI)J"⟩
def RX7 : String := "HallTables$Town"
def TX7 : u_T := fun k => match k with
  | 0 => ("HallTables$Town", "sorts", "I", false)
  | 1 => ("HallTables$Town", "houses", "I", false)
  | 2 => ("HallTables$Town", "doors", "I", false)
  | 3 => ("HallTables$Town", "men", "I", false)
  | 4 => ("HallTables$Town", "calls", "I", false)
  | 5 => ("HallTables$Town", "law", "I", false)
  | 6 => ("HallTables$Town", "sortNames", "[J", true)
  | 7 => ("HallTables$Town", "houseNames", "[J", true)
  | 8 => ("HallTables$Town", "manNames", "[J", true)
  | 9 => ("HallTables$Town", "plainWorth", "[I", true)
  | 10 => ("HallTables$Town", "worth", "[I", true)
  | 11 => ("HallTables$Town", "minutes", "[I", true)
  | 12 => ("HallTables$Town", "sells", "[I", true)
  | 13 => ("HallTables$Town", "table", "[I", true)
  | 14 => ("HallTables$Town", "home", "[I", true)
  | 15 => ("HallTables$Town", "hand", "[I", true)
  | 16 => ("HallTables$Town", "callMan", "[I", true)
  | _ => ("HallTables$Town", "callHouse", "[I", true)
def tyX7 : Nat → FieldType := fun k => match k with
  | 0 => .int
  | 1 => .int
  | 2 => .int
  | 3 => .int
  | 4 => .int
  | 5 => .int
  | 6 => .array .long
  | 7 => .array .long
  | 8 => .array .long
  | 9 => .array .int
  | 10 => .array .int
  | 11 => .array .int
  | 12 => .array .int
  | 13 => .array .int
  | 14 => .array .int
  | 15 => .array .int
  | 16 => .array .int
  | _ => .array .int
abbrev wsX70 : List Cond := u_ws RX7 TX7 18
theorem nmX7 : ∀ a, a < 18 → ∀ b, b < 18 → a ≠ b → (TX7 a).2.1 ≠ (TX7 b).2.1 := by decide +kernel
theorem tyX7_ok : ∀ k, k < 18 → parseFieldDescriptor (TX7 k).2.2.1 = some (tyX7 k) := by decide +kernel
abbrev cX7_init : ByteArray := prog_9_method_1_code
def yX7_init : MethodName := ⟨RX7, "<init>", "()V"⟩
abbrev cX7_clear : ByteArray := prog_9_method_2_code
def yX7_clear : MethodName := ⟨RX7, "clear", "()V"⟩
abbrev cX7_isSort : ByteArray := prog_9_method_3_code
def yX7_isSort : MethodName := ⟨RX7, "isSort", "(I)Z"⟩
abbrev cX7_isHouse : ByteArray := prog_9_method_4_code
def yX7_isHouse : MethodName := ⟨RX7, "isHouse", "(I)Z"⟩
abbrev cX7_isMan : ByteArray := prog_9_method_5_code
def yX7_isMan : MethodName := ⟨RX7, "isMan", "(I)Z"⟩
abbrev cX7_addSort : ByteArray := prog_9_method_6_code
def yX7_addSort : MethodName := ⟨RX7, "addSort", "(JI)V"⟩
abbrev cX7_addDoor : ByteArray := prog_9_method_7_code
def yX7_addDoor : MethodName := ⟨RX7, "addDoor", "(III)V"⟩
abbrev cX7_minutesTo : ByteArray := prog_9_method_8_code
def yX7_minutesTo : MethodName := ⟨RX7, "minutesTo", "(II)I"⟩
abbrev cX7_worthAt : ByteArray := prog_9_method_9_code
def yX7_worthAt : MethodName := ⟨RX7, "worthAt", "(II)I"⟩
abbrev cX7_isSold : ByteArray := prog_9_method_10_code
def yX7_isSold : MethodName := ⟨RX7, "isSold", "(II)Z"⟩
abbrev cX7_cell : ByteArray := prog_9_method_11_code
def yX7_cell : MethodName := ⟨RX7, "cell", "(II)I"⟩
abbrev cX7_oneOf : ByteArray := prog_9_method_12_code
def yX7_oneOf : MethodName := ⟨RX7, "oneOf", "(I)I"⟩
abbrev cX7_inHand : ByteArray := prog_9_method_13_code
def yX7_inHand : MethodName := ⟨RX7, "inHand", "(II)I"⟩
abbrev cX7_things : ByteArray := prog_9_method_14_code
def yX7_things : MethodName := ⟨RX7, "things", "(I)I"⟩
abbrev cX7_fullSorts : ByteArray := prog_9_method_15_code
def yX7_fullSorts : MethodName := ⟨RX7, "fullSorts", "(I)I"⟩
abbrev cX7_leftByLaw : ByteArray := prog_9_method_16_code
def yX7_leftByLaw : MethodName := ⟨RX7, "leftByLaw", "(II)I"⟩
abbrev cX7_choices : ByteArray := prog_9_method_17_code
def yX7_choices : MethodName := ⟨RX7, "choices", "(II)I"⟩
abbrev cX7_mayLeave : ByteArray := prog_9_method_18_code
def yX7_mayLeave : MethodName := ⟨RX7, "mayLeave", "(III)Z"⟩
def RX8 : String := "HallTables$Track"
def TX8 : u_T := fun k => match k with
  | 0 => ("HallTables$Track", "count", "I", false)
  | 1 => ("HallTables$Track", "next", "I", false)
  | 2 => ("HallTables$Track", "man", "[I", true)
  | 3 => ("HallTables$Track", "from", "[I", true)
  | 4 => ("HallTables$Track", "sort", "[I", true)
  | _ => ("HallTables$Track", "minutes", "[I", true)
def tyX8 : Nat → FieldType := fun k => match k with
  | 0 => .int
  | 1 => .int
  | 2 => .array .int
  | 3 => .array .int
  | 4 => .array .int
  | _ => .array .int
abbrev wsX80 : List Cond := u_ws RX8 TX8 6
theorem nmX8 : ∀ a, a < 6 → ∀ b, b < 6 → a ≠ b → (TX8 a).2.1 ≠ (TX8 b).2.1 := by decide +kernel
theorem tyX8_ok : ∀ k, k < 6 → parseFieldDescriptor (TX8 k).2.2.1 = some (tyX8 k) := by decide +kernel
abbrev cX8_init : ByteArray := prog_10_method_1_code
def yX8_init : MethodName := ⟨RX8, "<init>", "()V"⟩
abbrev cX8_clear : ByteArray := prog_10_method_2_code
def yX8_clear : MethodName := ⟨RX8, "clear", "()V"⟩
abbrev cX8_note : ByteArray := prog_10_method_3_code
def yX8_note : MethodName := ⟨RX8, "note", "(IIII)V"⟩
abbrev cX8_takeLast : ByteArray := prog_10_method_4_code
def yX8_takeLast : MethodName := ⟨RX8, "takeLast", "()I"⟩
def RX9 : String := "HallTables$Visits"
def TX9 : u_T := fun k => match k with
  | 0 => ("HallTables$Visits", "seen", "I", false)
  | 1 => ("HallTables$Visits", "seenCell", "[I", true)
  | 2 => ("HallTables$Visits", "seenMany", "[I", true)
  | 3 => ("HallTables$Visits", "known", "[I", true)
  | 4 => ("HallTables$Visits", "weight", "[I", true)
  | 5 => ("HallTables$Visits", "parts", "I", false)
  | 6 => ("HallTables$Visits", "here", "[J", false)
  | _ => ("HallTables$Visits", "after", "[J", false)
def tyX9 : Nat → FieldType := fun k => match k with
  | 0 => .int
  | 1 => .array .int
  | 2 => .array .int
  | 3 => .array .int
  | 4 => .array .int
  | 5 => .int
  | 6 => .array .long
  | _ => .array .long
abbrev wsX90 : List Cond := u_ws RX9 TX9 8
theorem nmX9 : ∀ a, a < 8 → ∀ b, b < 8 → a ≠ b → (TX9 a).2.1 ≠ (TX9 b).2.1 := by decide +kernel
theorem tyX9_ok : ∀ k, k < 8 → parseFieldDescriptor (TX9 k).2.2.1 = some (tyX9 k) := by decide +kernel
abbrev cX9_init : ByteArray := prog_11_method_1_code
def yX9_init : MethodName := ⟨RX9, "<init>", "()V"⟩
abbrev cX9_clear : ByteArray := prog_11_method_2_code
def yX9_clear : MethodName := ⟨RX9, "clear", "()V"⟩
abbrev cX9_add : ByteArray := prog_11_method_3_code
def yX9_add : MethodName := ⟨RX9, "add", "(III)I"⟩
abbrev cX9_isKnown : ByteArray := prog_11_method_4_code
def yX9_isKnown : MethodName := ⟨RX9, "isKnown", "(I)Z"⟩
abbrev cX9_know : ByteArray := prog_11_method_5_code
def yX9_know : MethodName := ⟨RX9, "know", "(LHallTables$Town;I)Z"⟩
abbrev cX9_ways : ByteArray := prog_11_method_6_code
def yX9_ways : MethodName := ⟨RX9, "ways", "(LHallTables$Town;II)J"⟩
abbrev cX9_visit : ByteArray := prog_11_method_7_code
def yX9_visit : MethodName := ⟨RX9, "visit", "(II)V"⟩
abbrev cX9_leave : ByteArray := prog_11_method_8_code
def yX9_leave : MethodName := ⟨RX9, "leave", "(I)V"⟩
def RX10 : String := "HallTables$Ways"
def TX10 : u_T := fun k => match k with
  | 0 => ("HallTables$Ways", "sums", "[I", true)
  | 1 => ("HallTables$Ways", "together", "[I", true)
  | 2 => ("HallTables$Ways", "town", "LHallTables$Town;", false)
  | 3 => ("HallTables$Ways", "home", "I", false)
  | 4 => ("HallTables$Ways", "start", "I", false)
  | 5 => ("HallTables$Ways", "by", "I", false)
  | 6 => ("HallTables$Ways", "goal", "I", false)
  | 7 => ("HallTables$Ways", "goalHouse", "I", false)
  | 8 => ("HallTables$Ways", "goalSort", "I", false)
  | 9 => ("HallTables$Ways", "ready", "Z", false)
  | 10 => ("HallTables$Ways", "best", "J", false)
  | 11 => ("HallTables$Ways", "settled", "I", false)
  | 12 => ("HallTables$Ways", "steps", "I", false)
  | 13 => ("HallTables$Ways", "codes", "[I", true)
  | 14 => ("HallTables$Ways", "heap", "LHallTables$Heap;", true)
  | 15 => ("HallTables$Ways", "key", "[J", true)
  | 16 => ("HallTables$Ways", "order", "[I", true)
  | _ => ("HallTables$Ways", "good", "[B", true)
def tyX10 : Nat → FieldType := fun k => match k with
  | 0 => .array .int
  | 1 => .array .int
  | 2 => .object "HallTables$Town"
  | 3 => .int
  | 4 => .int
  | 5 => .int
  | 6 => .int
  | 7 => .int
  | 8 => .int
  | 9 => .boolean
  | 10 => .long
  | 11 => .int
  | 12 => .int
  | 13 => .array .int
  | 14 => .object "HallTables$Heap"
  | 15 => .array .long
  | 16 => .array .int
  | _ => .array .byte
abbrev wsX100 : List Cond := u_ws RX10 TX10 18
theorem nmX10 : ∀ a, a < 18 → ∀ b, b < 18 → a ≠ b → (TX10 a).2.1 ≠ (TX10 b).2.1 := by decide +kernel
theorem tyX10_ok : ∀ k, k < 18 → parseFieldDescriptor (TX10 k).2.2.1 = some (tyX10 k) := by decide +kernel
abbrev cX10_init : ByteArray := prog_12_method_1_code
def yX10_init : MethodName := ⟨RX10, "<init>", "()V"⟩
abbrev cX10_isBy : ByteArray := prog_12_method_2_code
def yX10_isBy : MethodName := ⟨RX10, "isBy", "(I)Z"⟩
abbrev cX10_forgetLast : ByteArray := prog_12_method_3_code
def yX10_forgetLast : MethodName := ⟨RX10, "forgetLast", "()V"⟩
abbrev cX10_startWith : ByteArray := prog_12_method_4_code
def yX10_startWith : MethodName := ⟨RX10, "startWith", "(LHallTables$Town;LHallTables$Stand;I)V"⟩
abbrev cX10_find : ByteArray := prog_12_method_5_code
def yX10_find : MethodName := ⟨RX10, "find", "(IIII)Z"⟩
abbrev cX10_least : ByteArray := prog_12_method_6_code
def yX10_least : MethodName := ⟨RX10, "least", "()I"⟩
abbrev cX10_search : ByteArray := prog_12_method_7_code
def yX10_search : MethodName := ⟨RX10, "search", "()V"⟩
abbrev cX10_reachAround : ByteArray := prog_12_method_8_code
def yX10_reachAround : MethodName := ⟨RX10, "reachAround", "(I)V"⟩
abbrev cX10_reach : ByteArray := prog_12_method_9_code
def yX10_reach : MethodName := ⟨RX10, "reach", "(IJ)V"⟩
abbrev cX10_far : ByteArray := prog_12_method_10_code
def yX10_far : MethodName := ⟨RX10, "far", "(I)J"⟩
abbrev cX10_markGood : ByteArray := prog_12_method_11_code
def yX10_markGood : MethodName := ⟨RX10, "markGood", "()V"⟩
abbrev cX10_firstGood : ByteArray := prog_12_method_12_code
def yX10_firstGood : MethodName := ⟨RX10, "firstGood", "(I)I"⟩
abbrev cX10_follow : ByteArray := prog_12_method_13_code
def yX10_follow : MethodName := ⟨RX10, "follow", "(I)I"⟩
abbrev cX10_isGoal : ByteArray := prog_12_method_14_code
def yX10_isGoal : MethodName := ⟨RX10, "isGoal", "(I)Z"⟩
abbrev cX10_lookAround : ByteArray := prog_12_method_15_code
def yX10_lookAround : MethodName := ⟨RX10, "lookAround", "(I)V"⟩
abbrev cX10_addSteps : ByteArray := prog_12_method_16_code
def yX10_addSteps : MethodName := ⟨RX10, "addSteps", "(II)V"⟩
abbrev cX10_after : ByteArray := prog_12_method_17_code
def yX10_after : MethodName := ⟨RX10, "after", "(II)I"⟩
abbrev cX10_doors : ByteArray := prog_12_method_18_code
def yX10_doors : MethodName := ⟨RX10, "doors", "(I)I"⟩
abbrev cX10_minutes : ByteArray := prog_12_method_19_code
def yX10_minutes : MethodName := ⟨RX10, "minutes", "(II)I"⟩
abbrev cX10_loss : ByteArray := prog_12_method_20_code
def yX10_loss : MethodName := ⟨RX10, "loss", "(I)I"⟩
abbrev cX10_cost : ByteArray := prog_12_method_21_code
def yX10_cost : MethodName := ⟨RX10, "cost", "(II)J"⟩
abbrev cX10_housesFound : ByteArray := prog_12_method_22_code
def yX10_housesFound : MethodName := ⟨RX10, "housesFound", "()I"⟩
abbrev cX10_mostAt : ByteArray := prog_12_method_23_code
def yX10_mostAt : MethodName := ⟨RX10, "mostAt", "(I)I"⟩
abbrev cX10_addMinutes : ByteArray := prog_12_method_24_code
def yX10_addMinutes : MethodName := ⟨RX10, "addMinutes", "()V"⟩
def RX11 : String := "HallTables"
def TX11 : u_T := fun k => match k with
  | 0 => ("HallTables", "teller", "LHallTables$Teller;", true)
  | 1 => ("HallTables", "text", "LHallTables$Text;", true)
  | 2 => ("HallTables", "now", "LHallTables$Stand;", true)
  | 3 => ("HallTables", "slots", "[LHallTables$Stand;", true)
  | 4 => ("HallTables", "track", "LHallTables$Track;", true)
  | 5 => ("HallTables", "ways", "LHallTables$Ways;", true)
  | 6 => ("HallTables", "rounds", "LHallTables$Rounds;", true)
  | 7 => ("HallTables", "day", "LHallTables$Day;", true)
  | 8 => ("HallTables", "chance", "LHallTables$Chance;", true)
  | 9 => ("HallTables", "visits", "LHallTables$Visits;", true)
  | _ => ("HallTables", "town", "LHallTables$Town;", false)
def tyX11 : Nat → FieldType := fun k => match k with
  | 0 => .object "HallTables$Teller"
  | 1 => .object "HallTables$Text"
  | 2 => .object "HallTables$Stand"
  | 3 => .array (.object "HallTables$Stand")
  | 4 => .object "HallTables$Track"
  | 5 => .object "HallTables$Ways"
  | 6 => .object "HallTables$Rounds"
  | 7 => .object "HallTables$Day"
  | 8 => .object "HallTables$Chance"
  | 9 => .object "HallTables$Visits"
  | _ => .object "HallTables$Town"
abbrev wsX110 : List Cond := u_ws RX11 TX11 11
theorem nmX11 : ∀ a, a < 11 → ∀ b, b < 11 → a ≠ b → (TX11 a).2.1 ≠ (TX11 b).2.1 := by decide +kernel
theorem tyX11_ok : ∀ k, k < 11 → parseFieldDescriptor (TX11 k).2.2.1 = some (tyX11 k) := by decide +kernel
abbrev cX11_init : ByteArray := prog_1_method_1_code
def yX11_init : MethodName := ⟨RX11, "<init>", "()V"⟩
abbrev cX11_feed : ByteArray := prog_1_method_2_code
def yX11_feed : MethodName := ⟨RX11, "feed", "(IIIII)I"⟩
abbrev cX11_back : ByteArray := prog_1_method_3_code
def yX11_back : MethodName := ⟨RX11, "back", "(I)I"⟩
abbrev cX11_read : ByteArray := prog_1_method_4_code
def yX11_read : MethodName := ⟨RX11, "read", "()I"⟩
abbrev cX11_moveIn : ByteArray := prog_1_method_5_code
def yX11_moveIn : MethodName := ⟨RX11, "moveIn", "()V"⟩
abbrev cX11_place : ByteArray := prog_1_method_6_code
def yX11_place : MethodName := ⟨RX11, "place", "()I"⟩
abbrev cX11_door : ByteArray := prog_1_method_7_code
def yX11_door : MethodName := ⟨RX11, "door", "(II)I"⟩
abbrev cX11_worth : ByteArray := prog_1_method_8_code
def yX11_worth : MethodName := ⟨RX11, "worth", "(II)I"⟩
abbrev cX11_table : ByteArray := prog_1_method_9_code
def yX11_table : MethodName := ⟨RX11, "table", "(II)I"⟩
abbrev cX11_man : ByteArray := prog_1_method_10_code
def yX11_man : MethodName := ⟨RX11, "man", "(II)I"⟩
abbrev cX11_has : ByteArray := prog_1_method_11_code
def yX11_has : MethodName := ⟨RX11, "has", "(II)I"⟩
abbrev cX11_may : ByteArray := prog_1_method_12_code
def yX11_may : MethodName := ⟨RX11, "may", "(III)I"⟩
abbrev cX11_go : ByteArray := prog_1_method_13_code
def yX11_go : MethodName := ⟨RX11, "go", "(III)I"⟩
abbrev cX11_buy : ByteArray := prog_1_method_14_code
def yX11_buy : MethodName := ⟨RX11, "buy", "(II)I"⟩
abbrev cX11_undo : ByteArray := prog_1_method_15_code
def yX11_undo : MethodName := ⟨RX11, "undo", "()Z"⟩
abbrev cX11_way : ByteArray := prog_1_method_16_code
def yX11_way : MethodName := ⟨RX11, "way", "(IIIII)I"⟩
abbrev cX11_isWay : ByteArray := prog_1_method_17_code
def yX11_isWay : MethodName := ⟨RX11, "isWay", "(IIII)Z"⟩
abbrev cX11_step : ByteArray := prog_1_method_18_code
def yX11_step : MethodName := ⟨RX11, "step", "(IIIII)I"⟩
abbrev cX11_rid : ByteArray := prog_1_method_19_code
def yX11_rid : MethodName := ⟨RX11, "rid", "(IIII)I"⟩
abbrev cX11_get : ByteArray := prog_1_method_20_code
def yX11_get : MethodName := ⟨RX11, "get", "(II)I"⟩
abbrev cX11_inReach : ByteArray := prog_1_method_21_code
def yX11_inReach : MethodName := ⟨RX11, "inReach", "(I)I"⟩
abbrev cX11_most : ByteArray := prog_1_method_22_code
def yX11_most : MethodName := ⟨RX11, "most", "(II)I"⟩
abbrev cX11_meet : ByteArray := prog_1_method_23_code
def yX11_meet : MethodName := ⟨RX11, "meet", "(III)I"⟩
abbrev cX11_riches : ByteArray := prog_1_method_24_code
def yX11_riches : MethodName := ⟨RX11, "riches", "(I)I"⟩
abbrev cX11_richesAt : ByteArray := prog_1_method_25_code
def yX11_richesAt : MethodName := ⟨RX11, "richesAt", "(I)I"⟩
abbrev cX11_round : ByteArray := prog_1_method_26_code
def yX11_round : MethodName := ⟨RX11, "round", "(II)I"⟩
abbrev cX11_carried : ByteArray := prog_1_method_27_code
def yX11_carried : MethodName := ⟨RX11, "carried", "(II)I"⟩
abbrev cX11_helps : ByteArray := prog_1_method_28_code
def yX11_helps : MethodName := ⟨RX11, "helps", "(III)I"⟩
abbrev cX11_turned : ByteArray := prog_1_method_29_code
def yX11_turned : MethodName := ⟨RX11, "turned", "(II)I"⟩
abbrev cX11_year : ByteArray := prog_1_method_30_code
def yX11_year : MethodName := ⟨RX11, "year", "(III)I"⟩
abbrev cX11_rest : ByteArray := prog_1_method_31_code
def yX11_rest : MethodName := ⟨RX11, "rest", "(I)I"⟩
abbrev cX11_see : ByteArray := prog_1_method_32_code
def yX11_see : MethodName := ⟨RX11, "see", "(III)I"⟩
abbrev cX11_forget : ByteArray := prog_1_method_33_code
def yX11_forget : MethodName := ⟨RX11, "forget", "()I"⟩
abbrev cX11_fits : ByteArray := prog_1_method_34_code
def yX11_fits : MethodName := ⟨RX11, "fits", "(I)J"⟩
abbrev cX11_visitors : ByteArray := prog_1_method_35_code
def yX11_visitors : MethodName := ⟨RX11, "visitors", "(IIZ)I"⟩
abbrev cX11_hold : ByteArray := prog_1_method_36_code
def yX11_hold : MethodName := ⟨RX11, "hold", "(I)Z"⟩
abbrev cX11_restore : ByteArray := prog_1_method_37_code
def yX11_restore : MethodName := ⟨RX11, "restore", "(I)Z"⟩
abbrev cX11_count : ByteArray := prog_1_method_38_code
def yX11_count : MethodName := ⟨RX11, "count", "(I)I"⟩
abbrev cX11_slotsHeld : ByteArray := prog_1_method_39_code
def yX11_slotsHeld : MethodName := ⟨RX11, "slotsHeld", "()I"⟩
def RX12 : String := "HallTablesModel"
def TX12 : u_T := fun k => match k with
  | 0 => ("HallTablesModel", "thrown", "I", false)
  | 1 => ("HallTablesModel", "tape", "[B", true)
  | 2 => ("HallTablesModel", "taped", "I", false)
  | 3 => ("HallTablesModel", "text", "[B", true)
  | 4 => ("HallTablesModel", "size", "I", false)
  | 5 => ("HallTablesModel", "tKind", "[I", true)
  | 6 => ("HallTablesModel", "tPlace", "[I", true)
  | 7 => ("HallTablesModel", "tValue", "[I", true)
  | 8 => ("HallTablesModel", "tName", "[J", true)
  | 9 => ("HallTablesModel", "keys", "[J", true)
  | 10 => ("HallTablesModel", "tokens", "I", false)
  | 11 => ("HallTablesModel", "t", "I", false)
  | 12 => ("HallTablesModel", "open", "I", false)
  | 13 => ("HallTablesModel", "fault", "I", false)
  | 14 => ("HallTablesModel", "faultPlace", "I", false)
  | 15 => ("HallTablesModel", "worst", "I", false)
  | 16 => ("HallTablesModel", "worstPlace", "I", false)
  | 17 => ("HallTablesModel", "place", "I", false)
  | 18 => ("HallTablesModel", "live", "I", false)
  | 19 => ("HallTablesModel", "side", "I", false)
  | 20 => ("HallTablesModel", "names", "I", false)
  | 21 => ("HallTablesModel", "nameOf", "[J", true)
  | 22 => ("HallTablesModel", "nameSort", "[I", true)
  | 23 => ("HallTablesModel", "nameAt", "[I", true)
  | 24 => ("HallTablesModel", "sorts", "[I", true)
  | 25 => ("HallTablesModel", "plainWorth", "[I", true)
  | 26 => ("HallTablesModel", "houses", "[I", true)
  | 27 => ("HallTablesModel", "worthAt", "[I", true)
  | 28 => ("HallTablesModel", "hallHas", "[I", true)
  | 29 => ("HallTablesModel", "sells", "[Z", true)
  | 30 => ("HallTablesModel", "doors", "[I", true)
  | 31 => ("HallTablesModel", "minutes", "[I", true)
  | 32 => ("HallTablesModel", "men", "[I", true)
  | 33 => ("HallTablesModel", "home", "[I", true)
  | 34 => ("HallTablesModel", "carries", "[I", true)
  | 35 => ("HallTablesModel", "laws", "[I", true)
  | 36 => ("HallTablesModel", "calls", "[I", true)
  | 37 => ("HallTablesModel", "callMan", "[I", true)
  | 38 => ("HallTablesModel", "callHouse", "[I", true)
  | 39 => ("HallTablesModel", "now", "[I", true)
  | 40 => ("HallTablesModel", "undos", "I", false)
  | 41 => ("HallTablesModel", "history", "[I", true)
  | 42 => ("HallTablesModel", "best", "[J", true)
  | 43 => ("HallTablesModel", "wayMan", "I", false)
  | 44 => ("HallTablesModel", "wayBy", "I", false)
  | 45 => ("HallTablesModel", "goal", "I", false)
  | 46 => ("HallTablesModel", "goalHouse", "I", false)
  | 47 => ("HallTablesModel", "goalSort", "I", false)
  | 48 => ("HallTablesModel", "waySteps", "I", false)
  | 49 => ("HallTablesModel", "stepCode", "[I", true)
  | 50 => ("HallTablesModel", "wayDoors", "I", false)
  | 51 => ("HallTablesModel", "wayMinutes", "I", false)
  | 52 => ("HallTablesModel", "wayLoss", "I", false)
  | 53 => ("HallTablesModel", "wayHouse", "I", false)
  | 54 => ("HallTablesModel", "wayHand", "I", false)
  | 55 => ("HallTablesModel", "comes", "[Z", true)
  | 56 => ("HallTablesModel", "pile", "[I", true)
  | 57 => ("HallTablesModel", "piled", "I", false)
  | 58 => ("HallTablesModel", "gone", "[I", true)
  | 59 => ("HallTablesModel", "goneThen", "[I", true)
  | 60 => ("HallTablesModel", "listed", "I", false)
  | 61 => ("HallTablesModel", "listMan", "[I", true)
  | 62 => ("HallTablesModel", "listHouse", "[I", true)
  | 63 => ("HallTablesModel", "isUsed", "[Z", true)
  | 64 => ("HallTablesModel", "waits", "[I", true)
  | 65 => ("HallTablesModel", "cameFrom", "[I", true)
  | 66 => ("HallTablesModel", "row", "[I", true)
  | 67 => ("HallTablesModel", "pool", "[I", true)
  | 68 => ("HallTablesModel", "taken", "[I", true)
  | 69 => ("HallTablesModel", "place0", "[I", true)
  | 70 => ("HallTablesModel", "holding", "[I", true)
  | 71 => ("HallTablesModel", "owedMan", "[I", true)
  | 72 => ("HallTablesModel", "owedHouse", "[I", true)
  | 73 => ("HallTablesModel", "seen", "I", false)
  | 74 => ("HallTablesModel", "seenHouse", "[I", true)
  | 75 => ("HallTablesModel", "seenSort", "[I", true)
  | 76 => ("HallTablesModel", "seenMany", "[I", true)
  | 77 => ("HallTablesModel", "need", "[I", true)
  | 78 => ("HallTablesModel", "kindAt", "[I", true)
  | 79 => ("HallTablesModel", "kinds", "I", false)
  | 80 => ("HallTablesModel", "needAll", "I", false)
  | 81 => ("HallTablesModel", "free", "[J", true)
  | 82 => ("HallTablesModel", "freeThere", "[J", true)
  | 83 => ("HallTablesModel", "canLeave", "[Z", true)
  | 84 => ("HallTablesModel", "chosen", "[I", true)
  | 85 => ("HallTablesModel", "fitAll", "J", false)
  | 86 => ("HallTablesModel", "fitThere", "[J", true)
  | 87 => ("HallTablesModel", "met", "[I", true)
  | 88 => ("HallTablesModel", "isHeld", "[Z", true)
  | _ => ("HallTablesModel", "held", "[I", true)
def tyX12 : Nat → FieldType := fun k => match k with
  | 0 => .int
  | 1 => .array .byte
  | 2 => .int
  | 3 => .array .byte
  | 4 => .int
  | 5 => .array .int
  | 6 => .array .int
  | 7 => .array .int
  | 8 => .array .long
  | 9 => .array .long
  | 10 => .int
  | 11 => .int
  | 12 => .int
  | 13 => .int
  | 14 => .int
  | 15 => .int
  | 16 => .int
  | 17 => .int
  | 18 => .int
  | 19 => .int
  | 20 => .int
  | 21 => .array .long
  | 22 => .array .int
  | 23 => .array .int
  | 24 => .array .int
  | 25 => .array .int
  | 26 => .array .int
  | 27 => .array .int
  | 28 => .array .int
  | 29 => .array .boolean
  | 30 => .array .int
  | 31 => .array .int
  | 32 => .array .int
  | 33 => .array .int
  | 34 => .array .int
  | 35 => .array .int
  | 36 => .array .int
  | 37 => .array .int
  | 38 => .array .int
  | 39 => .array .int
  | 40 => .int
  | 41 => .array .int
  | 42 => .array .long
  | 43 => .int
  | 44 => .int
  | 45 => .int
  | 46 => .int
  | 47 => .int
  | 48 => .int
  | 49 => .array .int
  | 50 => .int
  | 51 => .int
  | 52 => .int
  | 53 => .int
  | 54 => .int
  | 55 => .array .boolean
  | 56 => .array .int
  | 57 => .int
  | 58 => .array .int
  | 59 => .array .int
  | 60 => .int
  | 61 => .array .int
  | 62 => .array .int
  | 63 => .array .boolean
  | 64 => .array .int
  | 65 => .array .int
  | 66 => .array .int
  | 67 => .array .int
  | 68 => .array .int
  | 69 => .array .int
  | 70 => .array .int
  | 71 => .array .int
  | 72 => .array .int
  | 73 => .int
  | 74 => .array .int
  | 75 => .array .int
  | 76 => .array .int
  | 77 => .array .int
  | 78 => .array .int
  | 79 => .int
  | 80 => .int
  | 81 => .array .long
  | 82 => .array .long
  | 83 => .array .boolean
  | 84 => .array .int
  | 85 => .long
  | 86 => .array .long
  | 87 => .array .int
  | 88 => .array .boolean
  | _ => .array .int
abbrev wsX120 : List Cond := u_ws RX12 TX12 90
theorem nmX12 : ∀ a, a < 90 → ∀ b, b < 90 → a ≠ b → (TX12 a).2.1 ≠ (TX12 b).2.1 := by decide +kernel
theorem tyX12_ok : ∀ k, k < 90 → parseFieldDescriptor (TX12 k).2.2.1 = some (tyX12 k) := by decide +kernel
abbrev cX12_init : ByteArray := prog_14_method_2_code
def yX12_init : MethodName := ⟨RX12, "<init>", "()V"⟩
abbrev cX12_feed : ByteArray := prog_14_method_3_code
def yX12_feed : MethodName := ⟨RX12, "feed", "(IIIII)I"⟩
abbrev cX12_put : ByteArray := prog_14_method_4_code
def yX12_put : MethodName := ⟨RX12, "put", "(I)V"⟩
abbrev cX12_back : ByteArray := prog_14_method_5_code
def yX12_back : MethodName := ⟨RX12, "back", "(I)I"⟩
abbrev cX12_byteAt : ByteArray := prog_14_method_6_code
def yX12_byteAt : MethodName := ⟨RX12, "byteAt", "(I)I"⟩
abbrev cX12_isDigit : ByteArray := prog_14_method_7_code
def yX12_isDigit : MethodName := ⟨RX12, "isDigit", "(I)Z"⟩
abbrev cX12_isLetter : ByteArray := prog_14_method_8_code
def yX12_isLetter : MethodName := ⟨RX12, "isLetter", "(I)Z"⟩
abbrev cX12_appends : ByteArray := prog_14_method_9_code
def yX12_appends : MethodName := ⟨RX12, "appends", "(JI)J"⟩
abbrev cX12_word : ByteArray := prog_14_method_10_code
def yX12_word : MethodName := ⟨RX12, "word", "(IIIIIII)J"⟩
abbrev cX12_token : ByteArray := prog_14_method_11_code
def yX12_token : MethodName := ⟨RX12, "token", "(IIIJ)V"⟩
abbrev cX12_cut : ByteArray := prog_14_method_12_code
def yX12_cut : MethodName := ⟨RX12, "cut", "()V"⟩
abbrev cX12_sign : ByteArray := prog_14_method_13_code
def yX12_sign : MethodName := ⟨RX12, "sign", "(III)I"⟩
abbrev cX12_is : ByteArray := prog_14_method_14_code
def yX12_is : MethodName := ⟨RX12, "is", "(I)Z"⟩
abbrev cX12_fail : ByteArray := prog_14_method_15_code
def yX12_fail : MethodName := ⟨RX12, "fail", "(I)V"⟩
abbrev cX12_wrong : ByteArray := prog_14_method_16_code
def yX12_wrong : MethodName := ⟨RX12, "wrong", "(II)V"⟩
abbrev cX12_goesOn : ByteArray := prog_14_method_17_code
def yX12_goesOn : MethodName := ⟨RX12, "goesOn", "()V"⟩
abbrev cX12_must : ByteArray := prog_14_method_18_code
def yX12_must : MethodName := ⟨RX12, "must", "(I)V"⟩
abbrev cX12_read : ByteArray := prog_14_method_19_code
def yX12_read : MethodName := ⟨RX12, "read", "()I"⟩
abbrev cX12_place : ByteArray := prog_14_method_20_code
def yX12_place : MethodName := ⟨RX12, "place", "()I"⟩
abbrev cX12_roomFor : ByteArray := prog_14_method_21_code
def yX12_roomFor : MethodName := ⟨RX12, "roomFor", "(II)V"⟩
abbrev cX12_tell : ByteArray := prog_14_method_22_code
def yX12_tell : MethodName := ⟨RX12, "tell", "()V"⟩
abbrev cX12_named : ByteArray := prog_14_method_23_code
def yX12_named : MethodName := ⟨RX12, "named", "()I"⟩
abbrev cX12_notes : ByteArray := prog_14_method_24_code
def yX12_notes : MethodName := ⟨RX12, "notes", "(III)V"⟩
abbrev cX12_known : ByteArray := prog_14_method_25_code
def yX12_known : MethodName := ⟨RX12, "known", "(I)I"⟩
abbrev cX12_bounded : ByteArray := prog_14_method_26_code
def yX12_bounded : MethodName := ⟨RX12, "bounded", "(II)I"⟩
abbrev cX12_tellSort : ByteArray := prog_14_method_27_code
def yX12_tellSort : MethodName := ⟨RX12, "tellSort", "()V"⟩
abbrev cX12_tellHouse : ByteArray := prog_14_method_28_code
def yX12_tellHouse : MethodName := ⟨RX12, "tellHouse", "()V"⟩
abbrev cX12_tellDoor : ByteArray := prog_14_method_29_code
def yX12_tellDoor : MethodName := ⟨RX12, "tellDoor", "()V"⟩
abbrev cX12_tellMan : ByteArray := prog_14_method_30_code
def yX12_tellMan : MethodName := ⟨RX12, "tellMan", "()V"⟩
abbrev cX12_tellCall : ByteArray := prog_14_method_31_code
def yX12_tellCall : MethodName := ⟨RX12, "tellCall", "()V"⟩
abbrev cX12_in : ByteArray := prog_14_method_32_code
def yX12_in : MethodName := ⟨RX12, "in", "(III)Z"⟩
abbrev cX12_where : ByteArray := prog_14_method_33_code
def yX12_where : MethodName := ⟨RX12, "where", "(I)I"⟩
abbrev cX12_hand : ByteArray := prog_14_method_34_code
def yX12_hand : MethodName := ⟨RX12, "hand", "(I)I"⟩
abbrev cX12_of : ByteArray := prog_14_method_35_code
def yX12_of : MethodName := ⟨RX12, "of", "(II)I"⟩
abbrev cX12_things : ByteArray := prog_14_method_36_code
def yX12_things : MethodName := ⟨RX12, "things", "(I)I"⟩
abbrev cX12_homeOf : ByteArray := prog_14_method_37_code
def yX12_homeOf : MethodName := ⟨RX12, "homeOf", "(I)I"⟩
abbrev cX12_worthOf : ByteArray := prog_14_method_38_code
def yX12_worthOf : MethodName := ⟨RX12, "worthOf", "(II)I"⟩
abbrev cX12_doorOf : ByteArray := prog_14_method_39_code
def yX12_doorOf : MethodName := ⟨RX12, "doorOf", "(II)I"⟩
abbrev cX12_handAtFirst : ByteArray := prog_14_method_40_code
def yX12_handAtFirst : MethodName := ⟨RX12, "handAtFirst", "(I)I"⟩
abbrev cX12_begins : ByteArray := prog_14_method_41_code
def yX12_begins : MethodName := ⟨RX12, "begins", "()V"⟩
abbrev cX12_isSort : ByteArray := prog_14_method_42_code
def yX12_isSort : MethodName := ⟨RX12, "isSort", "(I)Z"⟩
abbrev cX12_isHouse : ByteArray := prog_14_method_43_code
def yX12_isHouse : MethodName := ⟨RX12, "isHouse", "(I)Z"⟩
abbrev cX12_isMan : ByteArray := prog_14_method_44_code
def yX12_isMan : MethodName := ⟨RX12, "isMan", "(I)Z"⟩
abbrev cX12_leastOf : ByteArray := prog_14_method_45_code
def yX12_leastOf : MethodName := ⟨RX12, "leastOf", "(IIZ)I"⟩
abbrev cX12_mayLeave : ByteArray := prog_14_method_46_code
def yX12_mayLeave : MethodName := ⟨RX12, "mayLeave", "(III)Z"⟩
abbrev cX12_door : ByteArray := prog_14_method_47_code
def yX12_door : MethodName := ⟨RX12, "door", "(II)I"⟩
abbrev cX12_worth : ByteArray := prog_14_method_48_code
def yX12_worth : MethodName := ⟨RX12, "worth", "(II)I"⟩
abbrev cX12_table : ByteArray := prog_14_method_49_code
def yX12_table : MethodName := ⟨RX12, "table", "(II)I"⟩
abbrev cX12_man : ByteArray := prog_14_method_50_code
def yX12_man : MethodName := ⟨RX12, "man", "(II)I"⟩
abbrev cX12_has : ByteArray := prog_14_method_51_code
def yX12_has : MethodName := ⟨RX12, "has", "(II)I"⟩
abbrev cX12_may : ByteArray := prog_14_method_52_code
def yX12_may : MethodName := ⟨RX12, "may", "(III)I"⟩
abbrev cX12_keeps : ByteArray := prog_14_method_53_code
def yX12_keeps : MethodName := ⟨RX12, "keeps", "()V"⟩
abbrev cX12_go : ByteArray := prog_14_method_54_code
def yX12_go : MethodName := ⟨RX12, "go", "(III)I"⟩
abbrev cX12_buy : ByteArray := prog_14_method_55_code
def yX12_buy : MethodName := ⟨RX12, "buy", "(II)I"⟩
abbrev cX12_undo : ByteArray := prog_14_method_56_code
def yX12_undo : MethodName := ⟨RX12, "undo", "()Z"⟩
abbrev cX12_hands : ByteArray := prog_14_method_57_code
def yX12_hands : MethodName := ⟨RX12, "hands", "()I"⟩
abbrev cX12_sellsAt : ByteArray := prog_14_method_58_code
def yX12_sellsAt : MethodName := ⟨RX12, "sellsAt", "(II)Z"⟩
abbrev cX12_isThere : ByteArray := prog_14_method_59_code
def yX12_isThere : MethodName := ⟨RX12, "isThere", "(II)Z"⟩
abbrev cX12_costOf : ByteArray := prog_14_method_60_code
def yX12_costOf : MethodName := ⟨RX12, "costOf", "(III)J"⟩
abbrev cX12_byGoing : ByteArray := prog_14_method_61_code
def yX12_byGoing : MethodName := ⟨RX12, "byGoing", "(IIII)J"⟩
abbrev cX12_byBuying : ByteArray := prog_14_method_62_code
def yX12_byBuying : MethodName := ⟨RX12, "byBuying", "(III)J"⟩
abbrev cX12_leastFrom : ByteArray := prog_14_method_63_code
def yX12_leastFrom : MethodName := ⟨RX12, "leastFrom", "(II)J"⟩
abbrev cX12_fillWays : ByteArray := prog_14_method_64_code
def yX12_fillWays : MethodName := ⟨RX12, "fillWays", "()V"⟩
abbrev cX12_sets : ByteArray := prog_14_method_65_code
def yX12_sets : MethodName := ⟨RX12, "sets", "(IIIII)V"⟩
abbrev cX12_notesStep : ByteArray := prog_14_method_66_code
def yX12_notesStep : MethodName := ⟨RX12, "notesStep", "(I)V"⟩
abbrev cX12_takesStep : ByteArray := prog_14_method_67_code
def yX12_takesStep : MethodName := ⟨RX12, "takesStep", "()V"⟩
abbrev cX12_findsWay : ByteArray := prog_14_method_68_code
def yX12_findsWay : MethodName := ⟨RX12, "findsWay", "()Z"⟩
abbrev cX12_canAsk : ByteArray := prog_14_method_69_code
def yX12_canAsk : MethodName := ⟨RX12, "canAsk", "(IIII)Z"⟩
abbrev cX12_way : ByteArray := prog_14_method_70_code
def yX12_way : MethodName := ⟨RX12, "way", "(IIIII)I"⟩
abbrev cX12_step : ByteArray := prog_14_method_71_code
def yX12_step : MethodName := ⟨RX12, "step", "(IIIII)I"⟩
abbrev cX12_rid : ByteArray := prog_14_method_72_code
def yX12_rid : MethodName := ⟨RX12, "rid", "(IIII)I"⟩
abbrev cX12_get : ByteArray := prog_14_method_73_code
def yX12_get : MethodName := ⟨RX12, "get", "(II)I"⟩
abbrev cX12_comesTo : ByteArray := prog_14_method_74_code
def yX12_comesTo : MethodName := ⟨RX12, "comesTo", "(II)V"⟩
abbrev cX12_fillReach : ByteArray := prog_14_method_75_code
def yX12_fillReach : MethodName := ⟨RX12, "fillReach", "(I)V"⟩
abbrev cX12_mostAt : ByteArray := prog_14_method_76_code
def yX12_mostAt : MethodName := ⟨RX12, "mostAt", "(I)I"⟩
abbrev cX12_inReach : ByteArray := prog_14_method_77_code
def yX12_inReach : MethodName := ⟨RX12, "inReach", "(I)I"⟩
abbrev cX12_most : ByteArray := prog_14_method_78_code
def yX12_most : MethodName := ⟨RX12, "most", "(II)I"⟩
abbrev cX12_minutesTo : ByteArray := prog_14_method_79_code
def yX12_minutesTo : MethodName := ⟨RX12, "minutesTo", "(II)I"⟩
abbrev cX12_meet : ByteArray := prog_14_method_80_code
def yX12_meet : MethodName := ⟨RX12, "meet", "(III)I"⟩
abbrev cX12_richesOf : ByteArray := prog_14_method_81_code
def yX12_richesOf : MethodName := ⟨RX12, "richesOf", "(I)I"⟩
abbrev cX12_riches : ByteArray := prog_14_method_82_code
def yX12_riches : MethodName := ⟨RX12, "riches", "(I)I"⟩
abbrev cX12_goesHome : ByteArray := prog_14_method_83_code
def yX12_goesHome : MethodName := ⟨RX12, "goesHome", "(I)V"⟩
abbrev cX12_goesOnward : ByteArray := prog_14_method_84_code
def yX12_goesOnward : MethodName := ⟨RX12, "goesOnward", "(I)V"⟩
abbrev cX12_round : ByteArray := prog_14_method_85_code
def yX12_round : MethodName := ⟨RX12, "round", "(II)I"⟩
abbrev cX12_lists : ByteArray := prog_14_method_86_code
def yX12_lists : MethodName := ⟨RX12, "lists", "()V"⟩
abbrev cX12_pools : ByteArray := prog_14_method_87_code
def yX12_pools : MethodName := ⟨RX12, "pools", "(I)V"⟩
abbrev cX12_reaches : ByteArray := prog_14_method_88_code
def yX12_reaches : MethodName := ⟨RX12, "reaches", "(III)V"⟩
abbrev cX12_oneMore : ByteArray := prog_14_method_89_code
def yX12_oneMore : MethodName := ⟨RX12, "oneMore", "(I)Z"⟩
abbrev cX12_moves : ByteArray := prog_14_method_90_code
def yX12_moves : MethodName := ⟨RX12, "moves", "(II)V"⟩
abbrev cX12_carriesTo : ByteArray := prog_14_method_91_code
def yX12_carriesTo : MethodName := ⟨RX12, "carriesTo", "(II)I"⟩
abbrev cX12_carried : ByteArray := prog_14_method_92_code
def yX12_carried : MethodName := ⟨RX12, "carried", "(II)I"⟩
abbrev cX12_putsIn : ByteArray := prog_14_method_93_code
def yX12_putsIn : MethodName := ⟨RX12, "putsIn", "(III)V"⟩
abbrev cX12_helps : ByteArray := prog_14_method_94_code
def yX12_helps : MethodName := ⟨RX12, "helps", "(III)I"⟩
abbrev cX12_turned : ByteArray := prog_14_method_95_code
def yX12_turned : MethodName := ⟨RX12, "turned", "(II)I"⟩
abbrev cX12_mixed : ByteArray := prog_14_method_96_code
def yX12_mixed : MethodName := ⟨RX12, "mixed", "(II)I"⟩
abbrev cX12_lot : ByteArray := prog_14_method_97_code
def yX12_lot : MethodName := ⟨RX12, "lot", "(III)I"⟩
abbrev cX12_leaves : ByteArray := prog_14_method_98_code
def yX12_leaves : MethodName := ⟨RX12, "leaves", "(II)I"⟩
abbrev cX12_behind : ByteArray := prog_14_method_99_code
def yX12_behind : MethodName := ⟨RX12, "behind", "(II)I"⟩
abbrev cX12_doorsAt : ByteArray := prog_14_method_100_code
def yX12_doorsAt : MethodName := ⟨RX12, "doorsAt", "(I)I"⟩
abbrev cX12_year : ByteArray := prog_14_method_101_code
def yX12_year : MethodName := ⟨RX12, "year", "(III)I"⟩
abbrev cX12_rest : ByteArray := prog_14_method_102_code
def yX12_rest : MethodName := ⟨RX12, "rest", "(I)I"⟩
abbrev cX12_see : ByteArray := prog_14_method_103_code
def yX12_see : MethodName := ⟨RX12, "see", "(III)I"⟩
abbrev cX12_forget : ByteArray := prog_14_method_104_code
def yX12_forget : MethodName := ⟨RX12, "forget", "()I"⟩
abbrev cX12_knows : ByteArray := prog_14_method_105_code
def yX12_knows : MethodName := ⟨RX12, "knows", "(II)V"⟩
abbrev cX12_counts : ByteArray := prog_14_method_106_code
def yX12_counts : MethodName := ⟨RX12, "counts", "(II)V"⟩
abbrev cX12_isAllMet : ByteArray := prog_14_method_107_code
def yX12_isAllMet : MethodName := ⟨RX12, "isAllMet", "()Z"⟩
abbrev cX12_adds : ByteArray := prog_14_method_108_code
def yX12_adds : MethodName := ⟨RX12, "adds", "(I)V"⟩
abbrev cX12_fits : ByteArray := prog_14_method_109_code
def yX12_fits : MethodName := ⟨RX12, "fits", "(I)J"⟩
abbrev cX12_visitors : ByteArray := prog_14_method_110_code
def yX12_visitors : MethodName := ⟨RX12, "visitors", "(IIZ)I"⟩
abbrev cX12_hold : ByteArray := prog_14_method_111_code
def yX12_hold : MethodName := ⟨RX12, "hold", "(I)Z"⟩
abbrev cX12_restore : ByteArray := prog_14_method_112_code
def yX12_restore : MethodName := ⟨RX12, "restore", "(I)Z"⟩
abbrev cX12_count : ByteArray := prog_14_method_113_code
def yX12_count : MethodName := ⟨RX12, "count", "(I)I"⟩
def RJx145de : String := "java/io/Serializable"
def TJx145de : u_T := fun k => match k with
  | _ => ("", "", "", false)
def tyJx145de : Nat → FieldType := fun k => match k with
  | _ => .int
abbrev wsJx145de0 : List Cond := u_ws RJx145de TJx145de 0
theorem nmJx145de : ∀ a, a < 0 → ∀ b, b < 0 → a ≠ b → (TJx145de a).2.1 ≠ (TJx145de b).2.1 := by decide +kernel
theorem tyJx145de_ok : ∀ k, k < 0 → parseFieldDescriptor (TJx145de k).2.2.1 = some (tyJx145de k) := by decide +kernel
def RJx9f9b0 : String := "java/lang/CharSequence"
def TJx9f9b0 : u_T := fun k => match k with
  | _ => ("", "", "", false)
def tyJx9f9b0 : Nat → FieldType := fun k => match k with
  | _ => .int
abbrev wsJx9f9b00 : List Cond := u_ws RJx9f9b0 TJx9f9b0 0
theorem nmJx9f9b0 : ∀ a, a < 0 → ∀ b, b < 0 → a ≠ b → (TJx9f9b0 a).2.1 ≠ (TJx9f9b0 b).2.1 := by decide +kernel
theorem tyJx9f9b0_ok : ∀ k, k < 0 → parseFieldDescriptor (TJx9f9b0 k).2.2.1 = some (tyJx9f9b0 k) := by decide +kernel
def RJxb160c : String := "java/lang/Comparable"
def TJxb160c : u_T := fun k => match k with
  | _ => ("", "", "", false)
def tyJxb160c : Nat → FieldType := fun k => match k with
  | _ => .int
abbrev wsJxb160c0 : List Cond := u_ws RJxb160c TJxb160c 0
theorem nmJxb160c : ∀ a, a < 0 → ∀ b, b < 0 → a ≠ b → (TJxb160c a).2.1 ≠ (TJxb160c b).2.1 := by decide +kernel
theorem tyJxb160c_ok : ∀ k, k < 0 → parseFieldDescriptor (TJxb160c k).2.2.1 = some (tyJxb160c k) := by decide +kernel
def RJ6 : String := "java/lang/Integer"
def TJ6 : u_T := fun k => match k with
  | _ => ("", "", "", false)
def tyJ6 : Nat → FieldType := fun k => match k with
  | _ => .int
abbrev wsJ60 : List Cond := u_ws RJ6 TJ6 0
theorem nmJ6 : ∀ a, a < 0 → ∀ b, b < 0 → a ≠ b → (TJ6 a).2.1 ≠ (TJ6 b).2.1 := by decide +kernel
theorem tyJ6_ok : ∀ k, k < 0 → parseFieldDescriptor (TJ6 k).2.2.1 = some (tyJ6 k) := by decide +kernel
abbrev cJ6_bitCount_0f7a4 : ByteArray := prog_15_method_49_code
def yJ6_bitCount_0f7a4 : MethodName := ⟨RJ6, "bitCount", "(I)I"⟩
def RJ9 : String := "java/lang/Math"
def TJ9 : u_T := fun k => match k with
  | _ => ("", "", "", false)
def tyJ9 : Nat → FieldType := fun k => match k with
  | _ => .int
abbrev wsJ90 : List Cond := u_ws RJ9 TJ9 0
theorem nmJ9 : ∀ a, a < 0 → ∀ b, b < 0 → a ≠ b → (TJ9 a).2.1 ≠ (TJ9 b).2.1 := by decide +kernel
theorem tyJ9_ok : ∀ k, k < 0 → parseFieldDescriptor (TJ9 k).2.2.1 = some (tyJ9 k) := by decide +kernel
abbrev cJ9_max_7cf53 : ByteArray := prog_16_method_65_code
def yJ9_max_7cf53 : MethodName := ⟨RJ9, "max", "(II)I"⟩
abbrev cJ9_min_7cf53 : ByteArray := prog_16_method_69_code
def yJ9_min_7cf53 : MethodName := ⟨RJ9, "min", "(II)I"⟩
def RJ0 : String := "java/lang/String"
def TJ0 : u_T := fun k => match k with
  | _ => ("", "", "", false)
def tyJ0 : Nat → FieldType := fun k => match k with
  | _ => .int
abbrev wsJ00 : List Cond := u_ws RJ0 TJ0 0
theorem nmJ0 : ∀ a, a < 0 → ∀ b, b < 0 → a ≠ b → (TJ0 a).2.1 ≠ (TJ0 b).2.1 := by decide +kernel
theorem tyJ0_ok : ∀ k, k < 0 → parseFieldDescriptor (TJ0 k).2.2.1 = some (tyJ0 k) := by decide +kernel
abbrev cJ0_length_8abf5 : ByteArray := prog_17_method_54_code
def yJ0_length_8abf5 : MethodName := ⟨RJ0, "length", "()I"⟩
abbrev cJ0_charAt_5068e : ByteArray := prog_17_method_56_code
def yJ0_charAt_5068e : MethodName := ⟨RJ0, "charAt", "(I)C"⟩
abbrev cJ0_coder_7d493 : ByteArray := prog_17_method_152_code
def yJ0_coder_7d493 : MethodName := ⟨RJ0, "coder", "()B"⟩
abbrev cJ0_isLatin1_aae02 : ByteArray := prog_17_method_154_code
def yJ0_isLatin1_aae02 : MethodName := ⟨RJ0, "isLatin1", "()Z"⟩
abbrev cJ0_checkIndex_df160 : ByteArray := prog_17_method_155_code
def yJ0_checkIndex_df160 : MethodName := ⟨RJ0, "checkIndex", "(II)V"⟩
def RJ1 : String := "java/lang/StringLatin1"
def TJ1 : u_T := fun k => match k with
  | _ => ("", "", "", false)
def tyJ1 : Nat → FieldType := fun k => match k with
  | _ => .int
abbrev wsJ10 : List Cond := u_ws RJ1 TJ1 0
theorem nmJ1 : ∀ a, a < 0 → ∀ b, b < 0 → a ≠ b → (TJ1 a).2.1 ≠ (TJ1 b).2.1 := by decide +kernel
theorem tyJ1_ok : ∀ k, k < 0 → parseFieldDescriptor (TJ1 k).2.2.1 = some (tyJ1 k) := by decide +kernel
abbrev cJ1_charAt_3b067 : ByteArray := prog_18_method_2_code
def yJ1_charAt_3b067 : MethodName := ⟨RJ1, "charAt", "([BI)C"⟩
def RJ2 : String := "java/lang/StringUTF16"
def TJ2 : u_T := fun k => match k with
  | _ => ("", "", "", false)
def tyJ2 : Nat → FieldType := fun k => match k with
  | _ => .int
abbrev wsJ20 : List Cond := u_ws RJ2 TJ2 0
theorem nmJ2 : ∀ a, a < 0 → ∀ b, b < 0 → a ≠ b → (TJ2 a).2.1 ≠ (TJ2 b).2.1 := by decide +kernel
theorem tyJ2_ok : ∀ k, k < 0 → parseFieldDescriptor (TJ2 k).2.2.1 = some (tyJ2 k) := by decide +kernel
abbrev cJ2_getChar_3b067 : ByteArray := prog_19_method_5_code
def yJ2_getChar_3b067 : MethodName := ⟨RJ2, "getChar", "([BI)C"⟩
abbrev cJ2_length_9d52b : ByteArray := prog_19_method_6_code
def yJ2_length_9d52b : MethodName := ⟨RJ2, "length", "([B)I"⟩
abbrev cJ2_charAt_3b067 : ByteArray := prog_19_method_83_code
def yJ2_charAt_3b067 : MethodName := ⟨RJ2, "charAt", "([BI)C"⟩
abbrev cJ2_checkIndex_2214a : ByteArray := prog_19_method_91_code
def yJ2_checkIndex_2214a : MethodName := ⟨RJ2, "checkIndex", "(I[B)V"⟩
def RJ10 : String := "java/lang/System"
def TJ10 : u_T := fun k => match k with
  | _ => ("", "", "", false)
def tyJ10 : Nat → FieldType := fun k => match k with
  | _ => .int
abbrev wsJ100 : List Cond := u_ws RJ10 TJ10 0
theorem nmJ10 : ∀ a, a < 0 → ∀ b, b < 0 → a ≠ b → (TJ10 a).2.1 ≠ (TJ10 b).2.1 := by decide +kernel
theorem tyJ10_ok : ∀ k, k < 0 → parseFieldDescriptor (TJ10 k).2.2.1 = some (tyJ10 k) := by decide +kernel
def RJxfd54e : String := "java/lang/constant/Constable"
def TJxfd54e : u_T := fun k => match k with
  | _ => ("", "", "", false)
def tyJxfd54e : Nat → FieldType := fun k => match k with
  | _ => .int
abbrev wsJxfd54e0 : List Cond := u_ws RJxfd54e TJxfd54e 0
theorem nmJxfd54e : ∀ a, a < 0 → ∀ b, b < 0 → a ≠ b → (TJxfd54e a).2.1 ≠ (TJxfd54e b).2.1 := by decide +kernel
theorem tyJxfd54e_ok : ∀ k, k < 0 → parseFieldDescriptor (TJxfd54e k).2.2.1 = some (tyJxfd54e k) := by decide +kernel
def RJx3cf43 : String := "java/lang/constant/ConstantDesc"
def TJx3cf43 : u_T := fun k => match k with
  | _ => ("", "", "", false)
def tyJx3cf43 : Nat → FieldType := fun k => match k with
  | _ => .int
abbrev wsJx3cf430 : List Cond := u_ws RJx3cf43 TJx3cf43 0
theorem nmJx3cf43 : ∀ a, a < 0 → ∀ b, b < 0 → a ≠ b → (TJx3cf43 a).2.1 ≠ (TJx3cf43 b).2.1 := by decide +kernel
theorem tyJx3cf43_ok : ∀ k, k < 0 → parseFieldDescriptor (TJx3cf43 k).2.2.1 = some (tyJx3cf43 k) := by decide +kernel
def RJ7 : String := "java/util/Arrays"
def TJ7 : u_T := fun k => match k with
  | _ => ("", "", "", false)
def tyJ7 : Nat → FieldType := fun k => match k with
  | _ => .int
abbrev wsJ70 : List Cond := u_ws RJ7 TJ7 0
theorem nmJ7 : ∀ a, a < 0 → ∀ b, b < 0 → a ≠ b → (TJ7 a).2.1 ≠ (TJ7 b).2.1 := by decide +kernel
theorem tyJ7_ok : ∀ k, k < 0 → parseFieldDescriptor (TJ7 k).2.2.1 = some (tyJ7 k) := by decide +kernel
abbrev cJ7_fill_d0a16 : ByteArray := prog_21_method_101_code
def yJ7_fill_d0a16 : MethodName := ⟨RJ7, "fill", "([JJ)V"⟩
abbrev cJ7_fill_53178 : ByteArray := prog_21_method_103_code
def yJ7_fill_53178 : MethodName := ⟨RJ7, "fill", "([II)V"⟩
abbrev cJ7_fill_031fb : ByteArray := prog_21_method_109_code
def yJ7_fill_031fb : MethodName := ⟨RJ7, "fill", "([BB)V"⟩
def RJ3 : String := "jdk/internal/util/Preconditions"
def TJ3 : u_T := fun k => match k with
  | _ => ("", "", "", false)
def tyJ3 : Nat → FieldType := fun k => match k with
  | _ => .int
abbrev wsJ30 : List Cond := u_ws RJ3 TJ3 0
theorem nmJ3 : ∀ a, a < 0 → ∀ b, b < 0 → a ≠ b → (TJ3 a).2.1 ≠ (TJ3 b).2.1 := by decide +kernel
theorem tyJ3_ok : ∀ k, k < 0 → parseFieldDescriptor (TJ3 k).2.2.1 = some (tyJ3 k) := by decide +kernel
abbrev cJ3_checkIndex_8e157 : ByteArray := prog_22_method_11_code
def yJ3_checkIndex_8e157 : MethodName := ⟨RJ3, "checkIndex", "(IILjava/util/function/BiFunction;)I"⟩
def RL : String := "HallTablesLaw"
abbrev cL_law : ByteArray := code
def yL_law : MethodName := ⟨RL, "law", "([I)Z"⟩
abbrev vwCl : List vw_C := [(RX0, TX0, 7), (RX1, TX1, 13), (RX2, TX2, 4), (RX3, TX3, 5), (RX4, TX4, 7), (RX5, TX5, 3), (RX6, TX6, 12), (RX7, TX7, 18), (RX8, TX8, 6), (RX9, TX9, 8), (RX10, TX10, 18), (RX11, TX11, 11), (RX12, TX12, 90)]
theorem df_X0 : ∀ j, j < 7 → defaultValue (tyX0 j) = vp_V [.null, .int 0, .int 0, .int 0, .int 0, .null, .null] j := fun j h => match j, h with
  | 0, _ => rfl
  | 1, _ => rfl
  | 2, _ => rfl
  | 3, _ => rfl
  | 4, _ => rfl
  | 5, _ => rfl
  | 6, _ => rfl
  | k + 7, h => absurd h (by omega)
theorem df_X1 : ∀ j, j < 13 → defaultValue (tyX1 j) = vp_V [.int 0, .int 0, .int 0, .int 0, .null, .null, .null, .null, .null, .null, .null, .null, .null] j := fun j h => match j, h with
  | 0, _ => rfl
  | 1, _ => rfl
  | 2, _ => rfl
  | 3, _ => rfl
  | 4, _ => rfl
  | 5, _ => rfl
  | 6, _ => rfl
  | 7, _ => rfl
  | 8, _ => rfl
  | 9, _ => rfl
  | 10, _ => rfl
  | 11, _ => rfl
  | 12, _ => rfl
  | k + 13, h => absurd h (by omega)
theorem df_X2 : ∀ j, j < 4 → defaultValue (tyX2 j) = vp_V [.int 0, .null, .null, .null] j := fun j h => match j, h with
  | 0, _ => rfl
  | 1, _ => rfl
  | 2, _ => rfl
  | 3, _ => rfl
  | k + 4, h => absurd h (by omega)
theorem df_X3 : ∀ j, j < 5 → defaultValue (tyX3 j) = vp_V [.null, .null, .null, .int 0, .int 0] j := fun j h => match j, h with
  | 0, _ => rfl
  | 1, _ => rfl
  | 2, _ => rfl
  | 3, _ => rfl
  | 4, _ => rfl
  | k + 5, h => absurd h (by omega)
theorem df_X4 : ∀ j, j < 7 → defaultValue (tyX4 j) = vp_V [.int 0, .int 0, .null, .null, .null, .null, .null] j := fun j h => match j, h with
  | 0, _ => rfl
  | 1, _ => rfl
  | 2, _ => rfl
  | 3, _ => rfl
  | 4, _ => rfl
  | 5, _ => rfl
  | 6, _ => rfl
  | k + 7, h => absurd h (by omega)
theorem df_X5 : ∀ j, j < 3 → defaultValue (tyX5 j) = vp_V [.null, .null, .int 0] j := fun j h => match j, h with
  | 0, _ => rfl
  | 1, _ => rfl
  | 2, _ => rfl
  | k + 3, h => absurd h (by omega)
theorem df_X6 : ∀ j, j < 12 → defaultValue (tyX6 j) = vp_V [.int 0, .int 0, .int 0, .int 0, .int 0, .long 0, .null, .null, .null, .null, .null, .null] j := fun j h => match j, h with
  | 0, _ => rfl
  | 1, _ => rfl
  | 2, _ => rfl
  | 3, _ => rfl
  | 4, _ => rfl
  | 5, _ => rfl
  | 6, _ => rfl
  | 7, _ => rfl
  | 8, _ => rfl
  | 9, _ => rfl
  | 10, _ => rfl
  | 11, _ => rfl
  | k + 12, h => absurd h (by omega)
theorem df_X7 : ∀ j, j < 18 → defaultValue (tyX7 j) = vp_V [.int 0, .int 0, .int 0, .int 0, .int 0, .int 0, .null, .null, .null, .null, .null, .null, .null, .null, .null, .null, .null, .null] j := fun j h => match j, h with
  | 0, _ => rfl
  | 1, _ => rfl
  | 2, _ => rfl
  | 3, _ => rfl
  | 4, _ => rfl
  | 5, _ => rfl
  | 6, _ => rfl
  | 7, _ => rfl
  | 8, _ => rfl
  | 9, _ => rfl
  | 10, _ => rfl
  | 11, _ => rfl
  | 12, _ => rfl
  | 13, _ => rfl
  | 14, _ => rfl
  | 15, _ => rfl
  | 16, _ => rfl
  | 17, _ => rfl
  | k + 18, h => absurd h (by omega)
theorem df_X8 : ∀ j, j < 6 → defaultValue (tyX8 j) = vp_V [.int 0, .int 0, .null, .null, .null, .null] j := fun j h => match j, h with
  | 0, _ => rfl
  | 1, _ => rfl
  | 2, _ => rfl
  | 3, _ => rfl
  | 4, _ => rfl
  | 5, _ => rfl
  | k + 6, h => absurd h (by omega)
theorem df_X9 : ∀ j, j < 8 → defaultValue (tyX9 j) = vp_V [.int 0, .null, .null, .null, .null, .int 0, .null, .null] j := fun j h => match j, h with
  | 0, _ => rfl
  | 1, _ => rfl
  | 2, _ => rfl
  | 3, _ => rfl
  | 4, _ => rfl
  | 5, _ => rfl
  | 6, _ => rfl
  | 7, _ => rfl
  | k + 8, h => absurd h (by omega)
theorem df_X10 : ∀ j, j < 18 → defaultValue (tyX10 j) = vp_V [.null, .null, .null, .int 0, .int 0, .int 0, .int 0, .int 0, .int 0, .int 0, .long 0, .int 0, .int 0, .null, .null, .null, .null, .null] j := fun j h => match j, h with
  | 0, _ => rfl
  | 1, _ => rfl
  | 2, _ => rfl
  | 3, _ => rfl
  | 4, _ => rfl
  | 5, _ => rfl
  | 6, _ => rfl
  | 7, _ => rfl
  | 8, _ => rfl
  | 9, _ => rfl
  | 10, _ => rfl
  | 11, _ => rfl
  | 12, _ => rfl
  | 13, _ => rfl
  | 14, _ => rfl
  | 15, _ => rfl
  | 16, _ => rfl
  | 17, _ => rfl
  | k + 18, h => absurd h (by omega)
theorem df_X11 : ∀ j, j < 11 → defaultValue (tyX11 j) = vp_V [.null, .null, .null, .null, .null, .null, .null, .null, .null, .null, .null] j := fun j h => match j, h with
  | 0, _ => rfl
  | 1, _ => rfl
  | 2, _ => rfl
  | 3, _ => rfl
  | 4, _ => rfl
  | 5, _ => rfl
  | 6, _ => rfl
  | 7, _ => rfl
  | 8, _ => rfl
  | 9, _ => rfl
  | 10, _ => rfl
  | k + 11, h => absurd h (by omega)
theorem df_X12 : ∀ j, j < 90 → defaultValue (tyX12 j) = vp_V [.int 0, .null, .int 0, .null, .int 0, .null, .null, .null, .null, .null, .int 0, .int 0, .int 0, .int 0, .int 0, .int 0, .int 0, .int 0, .int 0, .int 0, .int 0, .null, .null, .null, .null, .null, .null, .null, .null, .null, .null, .null, .null, .null, .null, .null, .null, .null, .null, .null, .int 0, .null, .null, .int 0, .int 0, .int 0, .int 0, .int 0, .int 0, .null, .int 0, .int 0, .int 0, .int 0, .int 0, .null, .null, .int 0, .null, .null, .int 0, .null, .null, .null, .null, .null, .null, .null, .null, .null, .null, .null, .null, .int 0, .null, .null, .null, .null, .null, .int 0, .int 0, .null, .null, .null, .null, .long 0, .null, .null, .null, .null] j := fun j h => match j, h with
  | 0, _ => rfl
  | 1, _ => rfl
  | 2, _ => rfl
  | 3, _ => rfl
  | 4, _ => rfl
  | 5, _ => rfl
  | 6, _ => rfl
  | 7, _ => rfl
  | 8, _ => rfl
  | 9, _ => rfl
  | 10, _ => rfl
  | 11, _ => rfl
  | 12, _ => rfl
  | 13, _ => rfl
  | 14, _ => rfl
  | 15, _ => rfl
  | 16, _ => rfl
  | 17, _ => rfl
  | 18, _ => rfl
  | 19, _ => rfl
  | 20, _ => rfl
  | 21, _ => rfl
  | 22, _ => rfl
  | 23, _ => rfl
  | 24, _ => rfl
  | 25, _ => rfl
  | 26, _ => rfl
  | 27, _ => rfl
  | 28, _ => rfl
  | 29, _ => rfl
  | 30, _ => rfl
  | 31, _ => rfl
  | 32, _ => rfl
  | 33, _ => rfl
  | 34, _ => rfl
  | 35, _ => rfl
  | 36, _ => rfl
  | 37, _ => rfl
  | 38, _ => rfl
  | 39, _ => rfl
  | 40, _ => rfl
  | 41, _ => rfl
  | 42, _ => rfl
  | 43, _ => rfl
  | 44, _ => rfl
  | 45, _ => rfl
  | 46, _ => rfl
  | 47, _ => rfl
  | 48, _ => rfl
  | 49, _ => rfl
  | 50, _ => rfl
  | 51, _ => rfl
  | 52, _ => rfl
  | 53, _ => rfl
  | 54, _ => rfl
  | 55, _ => rfl
  | 56, _ => rfl
  | 57, _ => rfl
  | 58, _ => rfl
  | 59, _ => rfl
  | 60, _ => rfl
  | 61, _ => rfl
  | 62, _ => rfl
  | 63, _ => rfl
  | 64, _ => rfl
  | 65, _ => rfl
  | 66, _ => rfl
  | 67, _ => rfl
  | 68, _ => rfl
  | 69, _ => rfl
  | 70, _ => rfl
  | 71, _ => rfl
  | 72, _ => rfl
  | 73, _ => rfl
  | 74, _ => rfl
  | 75, _ => rfl
  | 76, _ => rfl
  | 77, _ => rfl
  | 78, _ => rfl
  | 79, _ => rfl
  | 80, _ => rfl
  | 81, _ => rfl
  | 82, _ => rfl
  | 83, _ => rfl
  | 84, _ => rfl
  | 85, _ => rfl
  | 86, _ => rfl
  | 87, _ => rfl
  | 88, _ => rfl
  | 89, _ => rfl
  | k + 90, h => absurd h (by omega)
def wsX7_isSort : List Cond := .code yX7_isSort cX7_isSort 2 (some .boolean) :: ([Cond.fieldLink RX7 49 "HallTables$Town" "sorts" "I"] ++ wsX70)
def wsX7_isHouse : List Cond := .code yX7_isHouse cX7_isHouse 2 (some .boolean) :: ([Cond.fieldLink RX7 53 "HallTables$Town" "houses" "I"] ++ wsX70)
def wsX7_isMan : List Cond := .code yX7_isMan cX7_isMan 2 (some .boolean) :: ([Cond.fieldLink RX7 59 "HallTables$Town" "men" "I"] ++ wsX70)
def wsX11_isWay : List Cond := .code yX11_isWay cX11_isWay 5 (some .boolean) :: ([Cond.fieldLink RX11 77 "HallTables" "town" "LHallTables$Town;", Cond.methodLink RX11 152 yX7_isMan, Cond.instanceMethod yX7_isMan, Cond.selects RX7 yX7_isMan yX7_isMan, Cond.initialized RX7, Cond.code yX7_isMan cX7_isMan 2 (some .boolean), Cond.fieldLink RX7 59 "HallTables$Town" "men" "I"] ++ wsX70 ++ wsX110)
def wsX11_door : List Cond := .code yX11_door cX11_door 3 (some .int) :: ([Cond.fieldLink RX11 77 "HallTables" "town" "LHallTables$Town;", Cond.methodLink RX11 129 yX7_isHouse, Cond.instanceMethod yX7_isHouse, Cond.selects RX7 yX7_isHouse yX7_isHouse, Cond.initialized RX7, Cond.code yX7_isHouse cX7_isHouse 2 (some .boolean), Cond.fieldLink RX7 53 "HallTables$Town" "houses" "I"] ++ wsX70 ++ wsX110)
def wsX11_worth : List Cond := .code yX11_worth cX11_worth 3 (some .int) :: ([Cond.fieldLink RX11 77 "HallTables" "town" "LHallTables$Town;", Cond.methodLink RX11 136 yX7_isSort, Cond.instanceMethod yX7_isSort, Cond.selects RX7 yX7_isSort yX7_isSort, Cond.initialized RX7, Cond.code yX7_isSort cX7_isSort 2 (some .boolean), Cond.fieldLink RX7 49 "HallTables$Town" "sorts" "I"] ++ wsX70 ++ wsX110)
def wsX11_table : List Cond := .code yX11_table cX11_table 3 (some .int) :: ([Cond.fieldLink RX11 77 "HallTables" "town" "LHallTables$Town;", Cond.methodLink RX11 129 yX7_isHouse, Cond.instanceMethod yX7_isHouse, Cond.selects RX7 yX7_isHouse yX7_isHouse, Cond.initialized RX7, Cond.code yX7_isHouse cX7_isHouse 2 (some .boolean), Cond.fieldLink RX7 53 "HallTables$Town" "houses" "I"] ++ wsX70 ++ wsX110)
def wsX11_man : List Cond := .code yX11_man cX11_man 3 (some .int) :: ([Cond.fieldLink RX11 77 "HallTables" "town" "LHallTables$Town;", Cond.methodLink RX11 152 yX7_isMan, Cond.instanceMethod yX7_isMan, Cond.selects RX7 yX7_isMan yX7_isMan, Cond.initialized RX7, Cond.code yX7_isMan cX7_isMan 2 (some .boolean), Cond.fieldLink RX7 59 "HallTables$Town" "men" "I"] ++ wsX70 ++ wsX110)
def wsX11_has : List Cond := .code yX11_has cX11_has 3 (some .int) :: ([Cond.fieldLink RX11 77 "HallTables" "town" "LHallTables$Town;", Cond.methodLink RX11 152 yX7_isMan, Cond.instanceMethod yX7_isMan, Cond.selects RX7 yX7_isMan yX7_isMan, Cond.initialized RX7, Cond.code yX7_isMan cX7_isMan 2 (some .boolean), Cond.fieldLink RX7 59 "HallTables$Town" "men" "I"] ++ wsX70 ++ wsX110)
def wsX11_may : List Cond := .code yX11_may cX11_may 4 (some .int) :: ([Cond.fieldLink RX11 77 "HallTables" "town" "LHallTables$Town;", Cond.methodLink RX11 152 yX7_isMan, Cond.instanceMethod yX7_isMan, Cond.selects RX7 yX7_isMan yX7_isMan, Cond.initialized RX7, Cond.code yX7_isMan cX7_isMan 2 (some .boolean), Cond.fieldLink RX7 59 "HallTables$Town" "men" "I"] ++ wsX70 ++ wsX110)
def wsX11_go : List Cond := .code yX11_go cX11_go 7 (some .int) :: ([Cond.fieldLink RX11 77 "HallTables" "town" "LHallTables$Town;", Cond.methodLink RX11 152 yX7_isMan, Cond.instanceMethod yX7_isMan, Cond.selects RX7 yX7_isMan yX7_isMan, Cond.initialized RX7, Cond.code yX7_isMan cX7_isMan 2 (some .boolean), Cond.fieldLink RX7 59 "HallTables$Town" "men" "I"] ++ wsX70 ++ wsX110)
def wsX11_buy : List Cond := .code yX11_buy cX11_buy 3 (some .int) :: ([Cond.fieldLink RX11 77 "HallTables" "town" "LHallTables$Town;", Cond.methodLink RX11 152 yX7_isMan, Cond.instanceMethod yX7_isMan, Cond.selects RX7 yX7_isMan yX7_isMan, Cond.initialized RX7, Cond.code yX7_isMan cX7_isMan 2 (some .boolean), Cond.fieldLink RX7 59 "HallTables$Town" "men" "I"] ++ wsX70 ++ wsX110)
def wsX11_way : List Cond := .code yX11_way cX11_way 6 (some .int) :: ([Cond.fieldLink RX11 77 "HallTables" "town" "LHallTables$Town;", Cond.methodLink RX11 204 yX11_isWay, Cond.instanceMethod yX11_isWay, Cond.selects RX11 yX11_isWay yX11_isWay, Cond.initialized RX11, Cond.code yX11_isWay cX11_isWay 5 (some .boolean), Cond.methodLink RX11 152 yX7_isMan, Cond.instanceMethod yX7_isMan, Cond.selects RX7 yX7_isMan yX7_isMan, Cond.initialized RX7, Cond.code yX7_isMan cX7_isMan 2 (some .boolean), Cond.fieldLink RX7 59 "HallTables$Town" "men" "I"] ++ wsX70 ++ wsX110)
def wsX11_step : List Cond := .code yX11_step cX11_step 6 (some .int) :: ([Cond.fieldLink RX11 77 "HallTables" "town" "LHallTables$Town;", Cond.methodLink RX11 204 yX11_isWay, Cond.instanceMethod yX11_isWay, Cond.selects RX11 yX11_isWay yX11_isWay, Cond.initialized RX11, Cond.code yX11_isWay cX11_isWay 5 (some .boolean), Cond.methodLink RX11 152 yX7_isMan, Cond.instanceMethod yX7_isMan, Cond.selects RX7 yX7_isMan yX7_isMan, Cond.initialized RX7, Cond.code yX7_isMan cX7_isMan 2 (some .boolean), Cond.fieldLink RX7 59 "HallTables$Town" "men" "I"] ++ wsX70 ++ wsX110)
def wsX11_rid : List Cond := .code yX11_rid cX11_rid 5 (some .int) :: ([Cond.fieldLink RX11 77 "HallTables" "town" "LHallTables$Town;", Cond.methodLink RX11 152 yX7_isMan, Cond.instanceMethod yX7_isMan, Cond.selects RX7 yX7_isMan yX7_isMan, Cond.initialized RX7, Cond.code yX7_isMan cX7_isMan 2 (some .boolean), Cond.fieldLink RX7 59 "HallTables$Town" "men" "I"] ++ wsX70 ++ wsX110)
def wsX11_get : List Cond := .code yX11_get cX11_get 3 (some .int) :: ([Cond.fieldLink RX11 77 "HallTables" "town" "LHallTables$Town;", Cond.methodLink RX11 152 yX7_isMan, Cond.instanceMethod yX7_isMan, Cond.selects RX7 yX7_isMan yX7_isMan, Cond.initialized RX7, Cond.code yX7_isMan cX7_isMan 2 (some .boolean), Cond.fieldLink RX7 59 "HallTables$Town" "men" "I"] ++ wsX70 ++ wsX110)
def wsX11_inReach : List Cond := .code yX11_inReach cX11_inReach 2 (some .int) :: ([Cond.fieldLink RX11 77 "HallTables" "town" "LHallTables$Town;", Cond.methodLink RX11 152 yX7_isMan, Cond.instanceMethod yX7_isMan, Cond.selects RX7 yX7_isMan yX7_isMan, Cond.initialized RX7, Cond.code yX7_isMan cX7_isMan 2 (some .boolean), Cond.fieldLink RX7 59 "HallTables$Town" "men" "I"] ++ wsX70 ++ wsX110)
def wsX11_most : List Cond := .code yX11_most cX11_most 3 (some .int) :: ([Cond.fieldLink RX11 77 "HallTables" "town" "LHallTables$Town;", Cond.methodLink RX11 152 yX7_isMan, Cond.instanceMethod yX7_isMan, Cond.selects RX7 yX7_isMan yX7_isMan, Cond.initialized RX7, Cond.code yX7_isMan cX7_isMan 2 (some .boolean), Cond.fieldLink RX7 59 "HallTables$Town" "men" "I"] ++ wsX70 ++ wsX110)
def wsX11_meet : List Cond := .code yX11_meet cX11_meet 7 (some .int) :: ([Cond.fieldLink RX11 77 "HallTables" "town" "LHallTables$Town;", Cond.methodLink RX11 152 yX7_isMan, Cond.instanceMethod yX7_isMan, Cond.selects RX7 yX7_isMan yX7_isMan, Cond.initialized RX7, Cond.code yX7_isMan cX7_isMan 2 (some .boolean), Cond.fieldLink RX7 59 "HallTables$Town" "men" "I"] ++ wsX70 ++ wsX110)
def wsX11_round : List Cond := .code yX11_round cX11_round 3 (some .int) :: ([Cond.fieldLink RX11 77 "HallTables" "town" "LHallTables$Town;", Cond.methodLink RX11 152 yX7_isMan, Cond.instanceMethod yX7_isMan, Cond.selects RX7 yX7_isMan yX7_isMan, Cond.initialized RX7, Cond.code yX7_isMan cX7_isMan 2 (some .boolean), Cond.fieldLink RX7 59 "HallTables$Town" "men" "I"] ++ wsX70 ++ wsX110)
def wsX11_carried : List Cond := .code yX11_carried cX11_carried 3 (some .int) :: ([Cond.fieldLink RX11 77 "HallTables" "town" "LHallTables$Town;", Cond.methodLink RX11 136 yX7_isSort, Cond.instanceMethod yX7_isSort, Cond.selects RX7 yX7_isSort yX7_isSort, Cond.initialized RX7, Cond.code yX7_isSort cX7_isSort 2 (some .boolean), Cond.fieldLink RX7 49 "HallTables$Town" "sorts" "I"] ++ wsX70 ++ wsX110)
def wsX11_helps : List Cond := .code yX11_helps cX11_helps 4 (some .int) :: ([Cond.fieldLink RX11 77 "HallTables" "town" "LHallTables$Town;", Cond.methodLink RX11 136 yX7_isSort, Cond.instanceMethod yX7_isSort, Cond.selects RX7 yX7_isSort yX7_isSort, Cond.initialized RX7, Cond.code yX7_isSort cX7_isSort 2 (some .boolean), Cond.fieldLink RX7 49 "HallTables$Town" "sorts" "I"] ++ wsX70 ++ wsX110)
def wsX11_turned : List Cond := .code yX11_turned cX11_turned 3 (some .int) :: ([Cond.fieldLink RX11 77 "HallTables" "town" "LHallTables$Town;", Cond.methodLink RX11 136 yX7_isSort, Cond.instanceMethod yX7_isSort, Cond.selects RX7 yX7_isSort yX7_isSort, Cond.initialized RX7, Cond.code yX7_isSort cX7_isSort 2 (some .boolean), Cond.fieldLink RX7 49 "HallTables$Town" "sorts" "I"] ++ wsX70 ++ wsX110)
def wsX11_see : List Cond := .code yX11_see cX11_see 4 (some .int) :: ([Cond.fieldLink RX11 77 "HallTables" "town" "LHallTables$Town;", Cond.methodLink RX11 129 yX7_isHouse, Cond.instanceMethod yX7_isHouse, Cond.selects RX7 yX7_isHouse yX7_isHouse, Cond.initialized RX7, Cond.code yX7_isHouse cX7_isHouse 2 (some .boolean), Cond.fieldLink RX7 53 "HallTables$Town" "houses" "I"] ++ wsX70 ++ wsX110)
def wsX11_visitors : List Cond := .code yX11_visitors cX11_visitors 10 (some .int) :: ([Cond.fieldLink RX11 77 "HallTables" "town" "LHallTables$Town;", Cond.methodLink RX11 129 yX7_isHouse, Cond.instanceMethod yX7_isHouse, Cond.selects RX7 yX7_isHouse yX7_isHouse, Cond.initialized RX7, Cond.code yX7_isHouse cX7_isHouse 2 (some .boolean), Cond.fieldLink RX7 53 "HallTables$Town" "houses" "I"] ++ wsX70 ++ wsX110)
def wsX11_riches : List Cond := .code yX11_riches cX11_riches 6 (some .int) :: ([Cond.fieldLink RX11 77 "HallTables" "town" "LHallTables$Town;", Cond.fieldLink RX11 245 "HallTables$Town" "houses" "I", Cond.methodLink RX11 129 yX7_isHouse, Cond.instanceMethod yX7_isHouse, Cond.selects RX7 yX7_isHouse yX7_isHouse, Cond.initialized RX7, Cond.code yX7_isHouse cX7_isHouse 2 (some .boolean), Cond.fieldLink RX7 53 "HallTables$Town" "houses" "I"] ++ wsX70 ++ wsX110)
def wsX12_isSort : List Cond := .code yX12_isSort cX12_isSort 2 (some .boolean) :: ([Cond.fieldLink RX12 49 "HallTablesModel" "sorts" "[I", Cond.fieldLink RX12 266 "HallTablesModel" "live" "I", Cond.methodLink RX12 333 yX12_in, Cond.static yX12_in, Cond.initialized RX12, Cond.code yX12_in cX12_in 3 (some .boolean)] ++ wsX120)
def wsX12_in : List Cond := .code yX12_in cX12_in 3 (some .boolean) :: ([])
def wsX12_isHouse : List Cond := .code yX12_isHouse cX12_isHouse 2 (some .boolean) :: ([Cond.fieldLink RX12 55 "HallTablesModel" "houses" "[I", Cond.fieldLink RX12 266 "HallTablesModel" "live" "I", Cond.methodLink RX12 333 yX12_in, Cond.static yX12_in, Cond.initialized RX12, Cond.code yX12_in cX12_in 3 (some .boolean)] ++ wsX120)
def wsX12_isMan : List Cond := .code yX12_isMan cX12_isMan 2 (some .boolean) :: ([Cond.fieldLink RX12 74 "HallTablesModel" "men" "[I", Cond.fieldLink RX12 266 "HallTablesModel" "live" "I", Cond.methodLink RX12 333 yX12_in, Cond.static yX12_in, Cond.initialized RX12, Cond.code yX12_in cX12_in 3 (some .boolean)] ++ wsX120)
def wsX12_canAsk : List Cond := .code yX12_canAsk cX12_canAsk 5 (some .boolean) :: ([Cond.methodLink RX12 356 yX12_isMan, Cond.instanceMethod yX12_isMan, Cond.selects RX12 yX12_isMan yX12_isMan, Cond.initialized RX12, Cond.code yX12_isMan cX12_isMan 2 (some .boolean), Cond.fieldLink RX12 74 "HallTablesModel" "men" "[I", Cond.fieldLink RX12 266 "HallTablesModel" "live" "I", Cond.methodLink RX12 333 yX12_in, Cond.static yX12_in, Cond.code yX12_in cX12_in 3 (some .boolean)] ++ wsX120)
def wsX12_door : List Cond := .code yX12_door cX12_door 3 (some .int) :: ([Cond.methodLink RX12 347 yX12_isHouse, Cond.instanceMethod yX12_isHouse, Cond.selects RX12 yX12_isHouse yX12_isHouse, Cond.initialized RX12, Cond.code yX12_isHouse cX12_isHouse 2 (some .boolean), Cond.fieldLink RX12 55 "HallTablesModel" "houses" "[I", Cond.fieldLink RX12 266 "HallTablesModel" "live" "I", Cond.methodLink RX12 333 yX12_in, Cond.static yX12_in, Cond.code yX12_in cX12_in 3 (some .boolean)] ++ wsX120)
def wsX12_worth : List Cond := .code yX12_worth cX12_worth 3 (some .int) :: ([Cond.fieldLink RX12 266 "HallTablesModel" "live" "I", Cond.methodLink RX12 353 yX12_isSort, Cond.instanceMethod yX12_isSort, Cond.selects RX12 yX12_isSort yX12_isSort, Cond.initialized RX12, Cond.code yX12_isSort cX12_isSort 2 (some .boolean), Cond.fieldLink RX12 49 "HallTablesModel" "sorts" "[I", Cond.methodLink RX12 333 yX12_in, Cond.static yX12_in, Cond.code yX12_in cX12_in 3 (some .boolean)] ++ wsX120)
def wsX12_table : List Cond := .code yX12_table cX12_table 3 (some .int) :: ([Cond.methodLink RX12 347 yX12_isHouse, Cond.instanceMethod yX12_isHouse, Cond.selects RX12 yX12_isHouse yX12_isHouse, Cond.initialized RX12, Cond.code yX12_isHouse cX12_isHouse 2 (some .boolean), Cond.fieldLink RX12 55 "HallTablesModel" "houses" "[I", Cond.fieldLink RX12 266 "HallTablesModel" "live" "I", Cond.methodLink RX12 333 yX12_in, Cond.static yX12_in, Cond.code yX12_in cX12_in 3 (some .boolean)] ++ wsX120)
def wsX12_man : List Cond := .code yX12_man cX12_man 3 (some .int) :: ([Cond.methodLink RX12 356 yX12_isMan, Cond.instanceMethod yX12_isMan, Cond.selects RX12 yX12_isMan yX12_isMan, Cond.initialized RX12, Cond.code yX12_isMan cX12_isMan 2 (some .boolean), Cond.fieldLink RX12 74 "HallTablesModel" "men" "[I", Cond.fieldLink RX12 266 "HallTablesModel" "live" "I", Cond.methodLink RX12 333 yX12_in, Cond.static yX12_in, Cond.code yX12_in cX12_in 3 (some .boolean)] ++ wsX120)
def wsX12_has : List Cond := .code yX12_has cX12_has 3 (some .int) :: ([Cond.methodLink RX12 356 yX12_isMan, Cond.instanceMethod yX12_isMan, Cond.selects RX12 yX12_isMan yX12_isMan, Cond.initialized RX12, Cond.code yX12_isMan cX12_isMan 2 (some .boolean), Cond.fieldLink RX12 74 "HallTablesModel" "men" "[I", Cond.fieldLink RX12 266 "HallTablesModel" "live" "I", Cond.methodLink RX12 333 yX12_in, Cond.static yX12_in, Cond.code yX12_in cX12_in 3 (some .boolean)] ++ wsX120)
def wsX12_may : List Cond := .code yX12_may cX12_may 4 (some .int) :: ([Cond.methodLink RX12 356 yX12_isMan, Cond.instanceMethod yX12_isMan, Cond.selects RX12 yX12_isMan yX12_isMan, Cond.initialized RX12, Cond.code yX12_isMan cX12_isMan 2 (some .boolean), Cond.fieldLink RX12 74 "HallTablesModel" "men" "[I", Cond.fieldLink RX12 266 "HallTablesModel" "live" "I", Cond.methodLink RX12 333 yX12_in, Cond.static yX12_in, Cond.code yX12_in cX12_in 3 (some .boolean)] ++ wsX120)
def wsX12_go : List Cond := .code yX12_go cX12_go 6 (some .int) :: ([Cond.methodLink RX12 356 yX12_isMan, Cond.instanceMethod yX12_isMan, Cond.selects RX12 yX12_isMan yX12_isMan, Cond.initialized RX12, Cond.code yX12_isMan cX12_isMan 2 (some .boolean), Cond.fieldLink RX12 74 "HallTablesModel" "men" "[I", Cond.fieldLink RX12 266 "HallTablesModel" "live" "I", Cond.methodLink RX12 333 yX12_in, Cond.static yX12_in, Cond.code yX12_in cX12_in 3 (some .boolean)] ++ wsX120)
def wsX12_buy : List Cond := .code yX12_buy cX12_buy 3 (some .int) :: ([Cond.fieldLink RX12 266 "HallTablesModel" "live" "I", Cond.methodLink RX12 356 yX12_isMan, Cond.instanceMethod yX12_isMan, Cond.selects RX12 yX12_isMan yX12_isMan, Cond.initialized RX12, Cond.code yX12_isMan cX12_isMan 2 (some .boolean), Cond.fieldLink RX12 74 "HallTablesModel" "men" "[I", Cond.methodLink RX12 333 yX12_in, Cond.static yX12_in, Cond.code yX12_in cX12_in 3 (some .boolean)] ++ wsX120)
def wsX12_way : List Cond := .code yX12_way cX12_way 6 (some .int) :: ([Cond.methodLink RX12 445 yX12_canAsk, Cond.instanceMethod yX12_canAsk, Cond.selects RX12 yX12_canAsk yX12_canAsk, Cond.initialized RX12, Cond.code yX12_canAsk cX12_canAsk 5 (some .boolean), Cond.methodLink RX12 356 yX12_isMan, Cond.instanceMethod yX12_isMan, Cond.selects RX12 yX12_isMan yX12_isMan, Cond.code yX12_isMan cX12_isMan 2 (some .boolean), Cond.fieldLink RX12 74 "HallTablesModel" "men" "[I", Cond.fieldLink RX12 266 "HallTablesModel" "live" "I", Cond.methodLink RX12 333 yX12_in, Cond.static yX12_in, Cond.code yX12_in cX12_in 3 (some .boolean)] ++ wsX120)
def wsX12_step : List Cond := .code yX12_step cX12_step 6 (some .int) :: ([Cond.methodLink RX12 445 yX12_canAsk, Cond.instanceMethod yX12_canAsk, Cond.selects RX12 yX12_canAsk yX12_canAsk, Cond.initialized RX12, Cond.code yX12_canAsk cX12_canAsk 5 (some .boolean), Cond.methodLink RX12 356 yX12_isMan, Cond.instanceMethod yX12_isMan, Cond.selects RX12 yX12_isMan yX12_isMan, Cond.code yX12_isMan cX12_isMan 2 (some .boolean), Cond.fieldLink RX12 74 "HallTablesModel" "men" "[I", Cond.fieldLink RX12 266 "HallTablesModel" "live" "I", Cond.methodLink RX12 333 yX12_in, Cond.static yX12_in, Cond.code yX12_in cX12_in 3 (some .boolean)] ++ wsX120)
def wsX12_rid : List Cond := .code yX12_rid cX12_rid 5 (some .int) :: ([Cond.methodLink RX12 356 yX12_isMan, Cond.instanceMethod yX12_isMan, Cond.selects RX12 yX12_isMan yX12_isMan, Cond.initialized RX12, Cond.code yX12_isMan cX12_isMan 2 (some .boolean), Cond.fieldLink RX12 74 "HallTablesModel" "men" "[I", Cond.fieldLink RX12 266 "HallTablesModel" "live" "I", Cond.methodLink RX12 333 yX12_in, Cond.static yX12_in, Cond.code yX12_in cX12_in 3 (some .boolean)] ++ wsX120)
def wsX12_get : List Cond := .code yX12_get cX12_get 3 (some .int) :: ([Cond.methodLink RX12 356 yX12_isMan, Cond.instanceMethod yX12_isMan, Cond.selects RX12 yX12_isMan yX12_isMan, Cond.initialized RX12, Cond.code yX12_isMan cX12_isMan 2 (some .boolean), Cond.fieldLink RX12 74 "HallTablesModel" "men" "[I", Cond.fieldLink RX12 266 "HallTablesModel" "live" "I", Cond.methodLink RX12 333 yX12_in, Cond.static yX12_in, Cond.code yX12_in cX12_in 3 (some .boolean)] ++ wsX120)
def wsX12_inReach : List Cond := .code yX12_inReach cX12_inReach 4 (some .int) :: ([Cond.fieldLink RX12 266 "HallTablesModel" "live" "I", Cond.methodLink RX12 356 yX12_isMan, Cond.instanceMethod yX12_isMan, Cond.selects RX12 yX12_isMan yX12_isMan, Cond.initialized RX12, Cond.code yX12_isMan cX12_isMan 2 (some .boolean), Cond.fieldLink RX12 74 "HallTablesModel" "men" "[I", Cond.methodLink RX12 333 yX12_in, Cond.static yX12_in, Cond.code yX12_in cX12_in 3 (some .boolean)] ++ wsX120)
def wsX12_most : List Cond := .code yX12_most cX12_most 3 (some .int) :: ([Cond.methodLink RX12 356 yX12_isMan, Cond.instanceMethod yX12_isMan, Cond.selects RX12 yX12_isMan yX12_isMan, Cond.initialized RX12, Cond.code yX12_isMan cX12_isMan 2 (some .boolean), Cond.fieldLink RX12 74 "HallTablesModel" "men" "[I", Cond.fieldLink RX12 266 "HallTablesModel" "live" "I", Cond.methodLink RX12 333 yX12_in, Cond.static yX12_in, Cond.code yX12_in cX12_in 3 (some .boolean)] ++ wsX120)
def wsX12_meet : List Cond := .code yX12_meet cX12_meet 9 (some .int) :: ([Cond.fieldLink RX12 266 "HallTablesModel" "live" "I", Cond.methodLink RX12 356 yX12_isMan, Cond.instanceMethod yX12_isMan, Cond.selects RX12 yX12_isMan yX12_isMan, Cond.initialized RX12, Cond.code yX12_isMan cX12_isMan 2 (some .boolean), Cond.fieldLink RX12 74 "HallTablesModel" "men" "[I", Cond.methodLink RX12 333 yX12_in, Cond.static yX12_in, Cond.code yX12_in cX12_in 3 (some .boolean)] ++ wsX120)
def wsX12_round : List Cond := .code yX12_round cX12_round 7 (some .int) :: ([Cond.fieldLink RX12 266 "HallTablesModel" "live" "I", Cond.methodLink RX12 356 yX12_isMan, Cond.instanceMethod yX12_isMan, Cond.selects RX12 yX12_isMan yX12_isMan, Cond.initialized RX12, Cond.code yX12_isMan cX12_isMan 2 (some .boolean), Cond.fieldLink RX12 74 "HallTablesModel" "men" "[I", Cond.methodLink RX12 333 yX12_in, Cond.static yX12_in, Cond.code yX12_in cX12_in 3 (some .boolean)] ++ wsX120)
def wsX12_carried : List Cond := .code yX12_carried cX12_carried 3 (some .int) :: ([Cond.methodLink RX12 353 yX12_isSort, Cond.instanceMethod yX12_isSort, Cond.selects RX12 yX12_isSort yX12_isSort, Cond.initialized RX12, Cond.code yX12_isSort cX12_isSort 2 (some .boolean), Cond.fieldLink RX12 49 "HallTablesModel" "sorts" "[I", Cond.fieldLink RX12 266 "HallTablesModel" "live" "I", Cond.methodLink RX12 333 yX12_in, Cond.static yX12_in, Cond.code yX12_in cX12_in 3 (some .boolean)] ++ wsX120)
def wsX12_helps : List Cond := .code yX12_helps cX12_helps 10 (some .int) :: ([Cond.fieldLink RX12 266 "HallTablesModel" "live" "I", Cond.methodLink RX12 353 yX12_isSort, Cond.instanceMethod yX12_isSort, Cond.selects RX12 yX12_isSort yX12_isSort, Cond.initialized RX12, Cond.code yX12_isSort cX12_isSort 2 (some .boolean), Cond.fieldLink RX12 49 "HallTablesModel" "sorts" "[I", Cond.methodLink RX12 333 yX12_in, Cond.static yX12_in, Cond.code yX12_in cX12_in 3 (some .boolean)] ++ wsX120)
def wsX12_turned : List Cond := .code yX12_turned cX12_turned 8 (some .int) :: ([Cond.fieldLink RX12 266 "HallTablesModel" "live" "I", Cond.methodLink RX12 353 yX12_isSort, Cond.instanceMethod yX12_isSort, Cond.selects RX12 yX12_isSort yX12_isSort, Cond.initialized RX12, Cond.code yX12_isSort cX12_isSort 2 (some .boolean), Cond.fieldLink RX12 49 "HallTablesModel" "sorts" "[I", Cond.methodLink RX12 333 yX12_in, Cond.static yX12_in, Cond.code yX12_in cX12_in 3 (some .boolean)] ++ wsX120)
def wsX12_visitors : List Cond := .code yX12_visitors cX12_visitors 6 (some .int) :: ([Cond.fieldLink RX12 266 "HallTablesModel" "live" "I", Cond.methodLink RX12 347 yX12_isHouse, Cond.instanceMethod yX12_isHouse, Cond.selects RX12 yX12_isHouse yX12_isHouse, Cond.initialized RX12, Cond.code yX12_isHouse cX12_isHouse 2 (some .boolean), Cond.fieldLink RX12 55 "HallTablesModel" "houses" "[I", Cond.methodLink RX12 333 yX12_in, Cond.static yX12_in, Cond.code yX12_in cX12_in 3 (some .boolean)] ++ wsX120)
def wsX12_riches : List Cond := .code yX12_riches cX12_riches 4 (some .int) :: ([Cond.fieldLink RX12 55 "HallTablesModel" "houses" "[I", Cond.fieldLink RX12 266 "HallTablesModel" "live" "I", Cond.methodLink RX12 347 yX12_isHouse, Cond.instanceMethod yX12_isHouse, Cond.selects RX12 yX12_isHouse yX12_isHouse, Cond.initialized RX12, Cond.code yX12_isHouse cX12_isHouse 2 (some .boolean), Cond.methodLink RX12 333 yX12_in, Cond.static yX12_in, Cond.code yX12_in cX12_in 3 (some .boolean)] ++ wsX120)
def wsX6_hasRoomFor : List Cond := .code yX6_hasRoomFor cX6_hasRoomFor 2 (some .boolean) :: ([Cond.fieldLink RX6 64 "HallTables$Text" "length" "I"] ++ wsX60)
def wsX6_append : List Cond := .code yX6_append cX6_append 3 none :: ([Cond.fieldLink RX6 64 "HallTables$Text" "length" "I", Cond.fieldLink RX6 15 "HallTables$Text" "bytes" "[B"] ++ wsX60)
def wsX11_feed : List Cond := .code yX11_feed cX11_feed 6 (some .int) :: ([Cond.fieldLink RX11 20 "HallTables" "text" "LHallTables$Text;", Cond.fieldLink RX11 91 "HallTables$Text" "length" "I", Cond.methodLink RX11 81 yX6_hasRoomFor, Cond.instanceMethod yX6_hasRoomFor, Cond.selects RX6 yX6_hasRoomFor yX6_hasRoomFor, Cond.initialized RX6, Cond.code yX6_hasRoomFor cX6_hasRoomFor 2 (some .boolean), Cond.fieldLink RX6 64 "HallTables$Text" "length" "I", Cond.methodLink RX11 87 yX6_append, Cond.instanceMethod yX6_append, Cond.selects RX6 yX6_append yX6_append, Cond.code yX6_append cX6_append 3 none, Cond.fieldLink RX6 15 "HallTables$Text" "bytes" "[B"] ++ wsX60 ++ wsX110)
def wsX11_back : List Cond := .code yX11_back cX11_back 2 (some .int) :: ([Cond.fieldLink RX11 20 "HallTables" "text" "LHallTables$Text;", Cond.fieldLink RX11 91 "HallTables$Text" "length" "I"] ++ wsX60 ++ wsX110)
def wsX11_place : List Cond := .code yX11_place cX11_place 1 (some .int) :: ([Cond.fieldLink RX11 20 "HallTables" "text" "LHallTables$Text;", Cond.fieldLink RX11 126 "HallTables$Text" "faultPlace" "I"] ++ wsX60 ++ wsX110)
def wsX8_takeLast : List Cond := .code yX8_takeLast cX8_takeLast 1 (some .int) :: ([Cond.fieldLink RX8 24 "HallTables$Track" "count" "I"] ++ wsX80)
def wsX11_undo : List Cond := .code yX11_undo cX11_undo 2 (some .boolean) :: ([Cond.fieldLink RX11 35 "HallTables" "track" "LHallTables$Track;", Cond.methodLink RX11 196 yX8_takeLast, Cond.instanceMethod yX8_takeLast, Cond.selects RX8 yX8_takeLast yX8_takeLast, Cond.initialized RX8, Cond.code yX8_takeLast cX8_takeLast 1 (some .int), Cond.fieldLink RX8 24 "HallTables$Track" "count" "I"] ++ wsX80 ++ wsX110)
def wsX9_clear : List Cond := .code yX9_clear cX9_clear 1 none :: ([Cond.fieldLink RX9 31 "HallTables$Visits" "seen" "I"] ++ wsX90)
def wsX11_forget : List Cond := .code yX11_forget cX11_forget 2 (some .int) :: ([Cond.fieldLink RX11 70 "HallTables" "visits" "LHallTables$Visits;", Cond.fieldLink RX11 301 "HallTables$Visits" "seen" "I", Cond.methodLink RX11 118 yX9_clear, Cond.instanceMethod yX9_clear, Cond.selects RX9 yX9_clear yX9_clear, Cond.initialized RX9, Cond.code yX9_clear cX9_clear 1 none, Cond.fieldLink RX9 31 "HallTables$Visits" "seen" "I"] ++ wsX90 ++ wsX110)
def wsX9_isKnown : List Cond := .code yX9_isKnown cX9_isKnown 2 (some .boolean) :: ([Cond.fieldLink RX9 31 "HallTables$Visits" "seen" "I"] ++ wsX90)
def wsX9_know : List Cond := .code yX9_know cX9_know 5 (some .boolean) :: ([Cond.fieldLink RX9 18 "HallTables$Visits" "known" "[I", Cond.fieldLink RX9 47 "HallTables$Visits" "parts" "I", Cond.methodLink RX9 50 Lib.Math.max.name, Cond.static Lib.Math.max.name, Cond.initialized "java/lang/Math", Cond.code Lib.Math.max.name Lib.Math.max.code 2 (some .int), Cond.fieldLink RX9 55 "HallTables$Town" "men" "I", Cond.fieldLink RX9 21 "HallTables$Visits" "weight" "[I", Cond.methodLink RX9 41 yJ7_fill_53178, Cond.static yJ7_fill_53178, Cond.initialized RJ7, Cond.code yJ7_fill_53178 cJ7_fill_53178 4 none] ++ wsX70 ++ wsX90)
def wsJ7_fill_53178 : List Cond := .code yJ7_fill_53178 cJ7_fill_53178 4 none :: ([])
def wsX9_ways : List Cond := .code yX9_ways cX9_ways 6 (some .long) :: ([Cond.fieldLink RX9 24 "HallTables$Visits" "here" "[J", Cond.fieldLink RX9 55 "HallTables$Town" "men" "I", Cond.fieldLink RX9 47 "HallTables$Visits" "parts" "I", Cond.methodLink RX9 58 yJ7_fill_d0a16, Cond.static yJ7_fill_d0a16, Cond.initialized RJ7, Cond.code yJ7_fill_d0a16 cJ7_fill_d0a16 5 none] ++ wsX70 ++ wsX90)
def wsJ7_fill_d0a16 : List Cond := .code yJ7_fill_d0a16 cJ7_fill_d0a16 5 none :: ([])
def wsX11_fits : List Cond := .code yX11_fits cX11_fits 2 (some .long) :: ([Cond.fieldLink RX11 70 "HallTables" "visits" "LHallTables$Visits;", Cond.constantLong RX11 307 (-1), Cond.fieldLink RX11 77 "HallTables" "town" "LHallTables$Town;", Cond.methodLink RX11 304 yX9_isKnown, Cond.instanceMethod yX9_isKnown, Cond.selects RX9 yX9_isKnown yX9_isKnown, Cond.initialized RX9, Cond.code yX9_isKnown cX9_isKnown 2 (some .boolean), Cond.fieldLink RX9 31 "HallTables$Visits" "seen" "I", Cond.methodLink RX11 309 yX9_know, Cond.instanceMethod yX9_know, Cond.selects RX9 yX9_know yX9_know, Cond.code yX9_know cX9_know 5 (some .boolean), Cond.fieldLink RX9 18 "HallTables$Visits" "known" "[I", Cond.fieldLink RX9 47 "HallTables$Visits" "parts" "I", Cond.methodLink RX9 50 Lib.Math.max.name, Cond.static Lib.Math.max.name, Cond.initialized "java/lang/Math", Cond.code Lib.Math.max.name Lib.Math.max.code 2 (some .int), Cond.fieldLink RX9 55 "HallTables$Town" "men" "I", Cond.fieldLink RX9 21 "HallTables$Visits" "weight" "[I", Cond.methodLink RX9 41 yJ7_fill_53178, Cond.static yJ7_fill_53178, Cond.initialized RJ7, Cond.code yJ7_fill_53178 cJ7_fill_53178 4 none, Cond.methodLink RX11 313 yX9_ways, Cond.instanceMethod yX9_ways, Cond.selects RX9 yX9_ways yX9_ways, Cond.code yX9_ways cX9_ways 6 (some .long), Cond.fieldLink RX9 24 "HallTables$Visits" "here" "[J", Cond.methodLink RX9 58 yJ7_fill_d0a16, Cond.static yJ7_fill_d0a16, Cond.code yJ7_fill_d0a16 cJ7_fill_d0a16 5 none] ++ wsX70 ++ wsX90 ++ wsX110)
def wsX7_clear : List Cond := .code yX7_clear cX7_clear 1 none :: ([Cond.fieldLink RX7 49 "HallTables$Town" "sorts" "I", Cond.fieldLink RX7 53 "HallTables$Town" "houses" "I", Cond.fieldLink RX7 56 "HallTables$Town" "doors" "I", Cond.fieldLink RX7 59 "HallTables$Town" "men" "I", Cond.fieldLink RX7 62 "HallTables$Town" "calls" "I", Cond.fieldLink RX7 65 "HallTables$Town" "law" "I", Cond.fieldLink RX7 28 "HallTables$Town" "minutes" "[I", Cond.fieldLink RX7 31 "HallTables$Town" "sells" "[I", Cond.fieldLink RX7 34 "HallTables$Town" "table" "[I", Cond.methodLink RX7 68 yJ7_fill_53178, Cond.static yJ7_fill_53178, Cond.initialized RJ7, Cond.code yJ7_fill_53178 cJ7_fill_53178 4 none] ++ wsX70)
def wsX5_tellAll : List Cond := .code yX5_tellAll cX5_tellAll 3 none :: ([Cond.fieldLink RX5 21 "HallTables$Teller" "town" "LHallTables$Town;", Cond.fieldLink RX5 28 "HallTables$Teller" "at" "I", Cond.fieldLink RX5 12 "HallTables$Teller" "text" "LHallTables$Text;", Cond.fieldLink RX5 32 "HallTables$Text" "tokens" "I", Cond.methodLink RX5 25 yX7_clear, Cond.instanceMethod yX7_clear, Cond.selects RX7 yX7_clear yX7_clear, Cond.initialized RX7, Cond.code yX7_clear cX7_clear 1 none, Cond.fieldLink RX7 49 "HallTables$Town" "sorts" "I", Cond.fieldLink RX7 53 "HallTables$Town" "houses" "I", Cond.fieldLink RX7 56 "HallTables$Town" "doors" "I", Cond.fieldLink RX7 59 "HallTables$Town" "men" "I", Cond.fieldLink RX7 62 "HallTables$Town" "calls" "I", Cond.fieldLink RX7 65 "HallTables$Town" "law" "I", Cond.fieldLink RX7 28 "HallTables$Town" "minutes" "[I", Cond.fieldLink RX7 31 "HallTables$Town" "sells" "[I", Cond.fieldLink RX7 34 "HallTables$Town" "table" "[I", Cond.methodLink RX7 68 yJ7_fill_53178, Cond.static yJ7_fill_53178, Cond.initialized RJ7, Cond.code yJ7_fill_53178 cJ7_fill_53178 4 none] ++ wsX50 ++ wsX60 ++ wsX70)
def wsX5_exchange : List Cond := .code yX5_exchange cX5_exchange 3 (some (.object "HallTables$Town")) :: ([Cond.fieldLink RX5 21 "HallTables$Teller" "town" "LHallTables$Town;"] ++ wsX50)
def wsX4_begin : List Cond := .code yX4_begin cX4_begin 2 none :: ([Cond.fieldLink RX4 27 "HallTables$Town" "men" "I", Cond.fieldLink RX4 33 "HallTables$Stand" "men" "I", Cond.fieldLink RX4 34 "HallTables$Town" "home" "[I", Cond.fieldLink RX4 9 "HallTables$Stand" "at" "[I", Cond.methodLink RX4 37 arraycopyName, Cond.native arraycopyName, Cond.static arraycopyName, Cond.initialized "java/lang/System", Cond.fieldLink RX4 43 "HallTables$Town" "hand" "[I", Cond.fieldLink RX4 15 "HallTables$Stand" "hand" "[I", Cond.fieldLink RX4 44 "HallTables$Town" "table" "[I", Cond.fieldLink RX4 24 "HallTables$Stand" "table" "[I", Cond.fieldLink RX4 18 "HallTables$Stand" "minutes" "[I", Cond.fieldLink RX4 21 "HallTables$Stand" "loss" "[I", Cond.methodLink RX4 45 yJ7_fill_53178, Cond.static yJ7_fill_53178, Cond.initialized RJ7, Cond.code yJ7_fill_53178 cJ7_fill_53178 4 none] ++ wsX40 ++ wsX70)
def wsX4_copyOf : List Cond := .code yX4_copyOf cX4_copyOf 2 none :: ([Cond.fieldLink RX4 33 "HallTables$Stand" "men" "I", Cond.fieldLink RX4 9 "HallTables$Stand" "at" "[I", Cond.methodLink RX4 37 arraycopyName, Cond.native arraycopyName, Cond.static arraycopyName, Cond.initialized "java/lang/System", Cond.fieldLink RX4 15 "HallTables$Stand" "hand" "[I", Cond.fieldLink RX4 24 "HallTables$Stand" "table" "[I", Cond.fieldLink RX4 18 "HallTables$Stand" "minutes" "[I", Cond.fieldLink RX4 21 "HallTables$Stand" "loss" "[I"] ++ wsX40)
def wsX8_clear : List Cond := .code yX8_clear cX8_clear 1 none :: ([Cond.fieldLink RX8 24 "HallTables$Track" "count" "I"] ++ wsX80)
def wsX10_forgetLast : List Cond := .code yX10_forgetLast cX10_forgetLast 1 none :: ([Cond.fieldLink RX10 47 "HallTables$Ways" "ready" "Z"] ++ wsX100)
def wsX11_moveIn : List Cond := .code yX11_moveIn cX11_moveIn 2 none :: ([Cond.fieldLink RX11 10 "HallTables" "teller" "LHallTables$Teller;", Cond.fieldLink RX11 77 "HallTables" "town" "LHallTables$Town;", Cond.fieldLink RX11 24 "HallTables" "now" "LHallTables$Stand;", Cond.fieldLink RX11 35 "HallTables" "track" "LHallTables$Track;", Cond.fieldLink RX11 70 "HallTables" "visits" "LHallTables$Visits;", Cond.fieldLink RX11 42 "HallTables" "ways" "LHallTables$Ways;", Cond.fieldLink RX11 28 "HallTables" "slots" "[LHallTables$Stand;", Cond.fieldLink RX11 122 "HallTables$Stand" "holds" "Z", Cond.methodLink RX11 107 yX5_exchange, Cond.instanceMethod yX5_exchange, Cond.selects RX5 yX5_exchange yX5_exchange, Cond.initialized RX5, Cond.code yX5_exchange cX5_exchange 3 (some (.object "HallTables$Town")), Cond.fieldLink RX5 21 "HallTables$Teller" "town" "LHallTables$Town;", Cond.methodLink RX11 111 yX4_begin, Cond.instanceMethod yX4_begin, Cond.selects RX4 yX4_begin yX4_begin, Cond.initialized RX4, Cond.code yX4_begin cX4_begin 2 none, Cond.fieldLink RX4 27 "HallTables$Town" "men" "I", Cond.fieldLink RX4 33 "HallTables$Stand" "men" "I", Cond.fieldLink RX4 34 "HallTables$Town" "home" "[I", Cond.fieldLink RX4 9 "HallTables$Stand" "at" "[I", Cond.methodLink RX4 37 arraycopyName, Cond.native arraycopyName, Cond.static arraycopyName, Cond.initialized "java/lang/System", Cond.fieldLink RX4 43 "HallTables$Town" "hand" "[I", Cond.fieldLink RX4 15 "HallTables$Stand" "hand" "[I", Cond.fieldLink RX4 44 "HallTables$Town" "table" "[I", Cond.fieldLink RX4 24 "HallTables$Stand" "table" "[I", Cond.fieldLink RX4 18 "HallTables$Stand" "minutes" "[I", Cond.fieldLink RX4 21 "HallTables$Stand" "loss" "[I", Cond.methodLink RX4 45 yJ7_fill_53178, Cond.static yJ7_fill_53178, Cond.initialized RJ7, Cond.code yJ7_fill_53178 cJ7_fill_53178 4 none, Cond.methodLink RX11 115 yX8_clear, Cond.instanceMethod yX8_clear, Cond.selects RX8 yX8_clear yX8_clear, Cond.initialized RX8, Cond.code yX8_clear cX8_clear 1 none, Cond.fieldLink RX8 24 "HallTables$Track" "count" "I", Cond.methodLink RX11 118 yX9_clear, Cond.instanceMethod yX9_clear, Cond.selects RX9 yX9_clear yX9_clear, Cond.initialized RX9, Cond.code yX9_clear cX9_clear 1 none, Cond.fieldLink RX9 31 "HallTables$Visits" "seen" "I", Cond.methodLink RX11 119 yX10_forgetLast, Cond.instanceMethod yX10_forgetLast, Cond.selects RX10 yX10_forgetLast yX10_forgetLast, Cond.initialized RX10, Cond.code yX10_forgetLast cX10_forgetLast 1 none, Cond.fieldLink RX10 47 "HallTables$Ways" "ready" "Z"] ++ wsX40 ++ wsX50 ++ wsX70 ++ wsX80 ++ wsX90 ++ wsX100 ++ wsX110)
def wsX6_note : List Cond := .code yX6_note cX6_note 3 none :: ([Cond.fieldLink RX6 70 "HallTables$Text" "fault" "I", Cond.fieldLink RX6 9 "HallTables$Text" "faultPlace" "I"] ++ wsX60)
def wsX6_pastBlanks : List Cond := .code yX6_pastBlanks cX6_pastBlanks 4 (some .int) :: ([Cond.fieldLink RX6 64 "HallTables$Text" "length" "I"] ++ wsX60)
def wsX6_check : List Cond := .code yX6_check cX6_check 7 none :: ([Cond.fieldLink RX6 67 "HallTables$Text" "tokens" "I", Cond.fieldLink RX6 30 "HallTables$Text" "told" "[I", Cond.fieldLink RX6 64 "HallTables$Text" "length" "I", Cond.methodLink RX6 73 yX6_note, Cond.instanceMethod yX6_note, Cond.selects RX6 yX6_note yX6_note, Cond.initialized RX6, Cond.code yX6_note cX6_note 3 none, Cond.fieldLink RX6 70 "HallTables$Text" "fault" "I", Cond.fieldLink RX6 9 "HallTables$Text" "faultPlace" "I", Cond.methodLink RX6 77 yJ7_fill_53178, Cond.static yJ7_fill_53178, Cond.initialized RJ7, Cond.code yJ7_fill_53178 cJ7_fill_53178 4 none, Cond.methodLink RX6 83 yX6_pastBlanks, Cond.instanceMethod yX6_pastBlanks, Cond.selects RX6 yX6_pastBlanks yX6_pastBlanks, Cond.code yX6_pastBlanks cX6_pastBlanks 4 (some .int)] ++ wsX60)
def wsX11_read : List Cond := .code yX11_read cX11_read 1 (some .int) :: ([Cond.fieldLink RX11 20 "HallTables" "text" "LHallTables$Text;", Cond.fieldLink RX11 98 "HallTables$Text" "fault" "I", Cond.fieldLink RX11 10 "HallTables" "teller" "LHallTables$Teller;", Cond.fieldLink RX11 91 "HallTables$Text" "length" "I", Cond.methodLink RX11 95 yX6_check, Cond.instanceMethod yX6_check, Cond.selects RX6 yX6_check yX6_check, Cond.initialized RX6, Cond.code yX6_check cX6_check 7 none, Cond.fieldLink RX6 67 "HallTables$Text" "tokens" "I", Cond.fieldLink RX6 30 "HallTables$Text" "told" "[I", Cond.fieldLink RX6 64 "HallTables$Text" "length" "I", Cond.methodLink RX6 73 yX6_note, Cond.instanceMethod yX6_note, Cond.selects RX6 yX6_note yX6_note, Cond.code yX6_note cX6_note 3 none, Cond.fieldLink RX6 70 "HallTables$Text" "fault" "I", Cond.fieldLink RX6 9 "HallTables$Text" "faultPlace" "I", Cond.methodLink RX6 77 yJ7_fill_53178, Cond.static yJ7_fill_53178, Cond.initialized RJ7, Cond.code yJ7_fill_53178 cJ7_fill_53178 4 none, Cond.methodLink RX6 83 yX6_pastBlanks, Cond.instanceMethod yX6_pastBlanks, Cond.selects RX6 yX6_pastBlanks yX6_pastBlanks, Cond.code yX6_pastBlanks cX6_pastBlanks 4 (some .int), Cond.methodLink RX11 101 yX5_tellAll, Cond.instanceMethod yX5_tellAll, Cond.selects RX5 yX5_tellAll yX5_tellAll, Cond.initialized RX5, Cond.code yX5_tellAll cX5_tellAll 3 none, Cond.fieldLink RX5 21 "HallTables$Teller" "town" "LHallTables$Town;", Cond.fieldLink RX5 28 "HallTables$Teller" "at" "I", Cond.fieldLink RX5 12 "HallTables$Teller" "text" "LHallTables$Text;", Cond.fieldLink RX5 32 "HallTables$Text" "tokens" "I", Cond.methodLink RX5 25 yX7_clear, Cond.instanceMethod yX7_clear, Cond.selects RX7 yX7_clear yX7_clear, Cond.initialized RX7, Cond.code yX7_clear cX7_clear 1 none, Cond.fieldLink RX7 49 "HallTables$Town" "sorts" "I", Cond.fieldLink RX7 53 "HallTables$Town" "houses" "I", Cond.fieldLink RX7 56 "HallTables$Town" "doors" "I", Cond.fieldLink RX7 59 "HallTables$Town" "men" "I", Cond.fieldLink RX7 62 "HallTables$Town" "calls" "I", Cond.fieldLink RX7 65 "HallTables$Town" "law" "I", Cond.fieldLink RX7 28 "HallTables$Town" "minutes" "[I", Cond.fieldLink RX7 31 "HallTables$Town" "sells" "[I", Cond.fieldLink RX7 34 "HallTables$Town" "table" "[I", Cond.methodLink RX7 68 yJ7_fill_53178, Cond.methodLink RX11 104 yX11_moveIn, Cond.instanceMethod yX11_moveIn, Cond.selects RX11 yX11_moveIn yX11_moveIn, Cond.initialized RX11, Cond.code yX11_moveIn cX11_moveIn 2 none, Cond.fieldLink RX11 77 "HallTables" "town" "LHallTables$Town;", Cond.fieldLink RX11 24 "HallTables" "now" "LHallTables$Stand;", Cond.fieldLink RX11 35 "HallTables" "track" "LHallTables$Track;", Cond.fieldLink RX11 70 "HallTables" "visits" "LHallTables$Visits;", Cond.fieldLink RX11 42 "HallTables" "ways" "LHallTables$Ways;", Cond.fieldLink RX11 28 "HallTables" "slots" "[LHallTables$Stand;", Cond.fieldLink RX11 122 "HallTables$Stand" "holds" "Z", Cond.methodLink RX11 107 yX5_exchange, Cond.instanceMethod yX5_exchange, Cond.selects RX5 yX5_exchange yX5_exchange, Cond.code yX5_exchange cX5_exchange 3 (some (.object "HallTables$Town")), Cond.methodLink RX11 111 yX4_begin, Cond.instanceMethod yX4_begin, Cond.selects RX4 yX4_begin yX4_begin, Cond.initialized RX4, Cond.code yX4_begin cX4_begin 2 none, Cond.fieldLink RX4 27 "HallTables$Town" "men" "I", Cond.fieldLink RX4 33 "HallTables$Stand" "men" "I", Cond.fieldLink RX4 34 "HallTables$Town" "home" "[I", Cond.fieldLink RX4 9 "HallTables$Stand" "at" "[I", Cond.methodLink RX4 37 arraycopyName, Cond.native arraycopyName, Cond.static arraycopyName, Cond.initialized "java/lang/System", Cond.fieldLink RX4 43 "HallTables$Town" "hand" "[I", Cond.fieldLink RX4 15 "HallTables$Stand" "hand" "[I", Cond.fieldLink RX4 44 "HallTables$Town" "table" "[I", Cond.fieldLink RX4 24 "HallTables$Stand" "table" "[I", Cond.fieldLink RX4 18 "HallTables$Stand" "minutes" "[I", Cond.fieldLink RX4 21 "HallTables$Stand" "loss" "[I", Cond.methodLink RX4 45 yJ7_fill_53178, Cond.methodLink RX11 115 yX8_clear, Cond.instanceMethod yX8_clear, Cond.selects RX8 yX8_clear yX8_clear, Cond.initialized RX8, Cond.code yX8_clear cX8_clear 1 none, Cond.fieldLink RX8 24 "HallTables$Track" "count" "I", Cond.methodLink RX11 118 yX9_clear, Cond.instanceMethod yX9_clear, Cond.selects RX9 yX9_clear yX9_clear, Cond.initialized RX9, Cond.code yX9_clear cX9_clear 1 none, Cond.fieldLink RX9 31 "HallTables$Visits" "seen" "I", Cond.methodLink RX11 119 yX10_forgetLast, Cond.instanceMethod yX10_forgetLast, Cond.selects RX10 yX10_forgetLast yX10_forgetLast, Cond.initialized RX10, Cond.code yX10_forgetLast cX10_forgetLast 1 none, Cond.fieldLink RX10 47 "HallTables$Ways" "ready" "Z"] ++ wsX40 ++ wsX50 ++ wsX60 ++ wsX70 ++ wsX80 ++ wsX90 ++ wsX100 ++ wsX110)
def wsX11_hold : List Cond := .code yX11_hold cX11_hold 2 (some .boolean) :: ([Cond.fieldLink RX11 28 "HallTables" "slots" "[LHallTables$Stand;", Cond.fieldLink RX11 24 "HallTables" "now" "LHallTables$Stand;", Cond.fieldLink RX11 122 "HallTables$Stand" "holds" "Z", Cond.methodLink RX11 319 yX4_copyOf, Cond.instanceMethod yX4_copyOf, Cond.selects RX4 yX4_copyOf yX4_copyOf, Cond.initialized RX4, Cond.code yX4_copyOf cX4_copyOf 2 none, Cond.fieldLink RX4 33 "HallTables$Stand" "men" "I", Cond.fieldLink RX4 9 "HallTables$Stand" "at" "[I", Cond.methodLink RX4 37 arraycopyName, Cond.native arraycopyName, Cond.static arraycopyName, Cond.initialized "java/lang/System", Cond.fieldLink RX4 15 "HallTables$Stand" "hand" "[I", Cond.fieldLink RX4 24 "HallTables$Stand" "table" "[I", Cond.fieldLink RX4 18 "HallTables$Stand" "minutes" "[I", Cond.fieldLink RX4 21 "HallTables$Stand" "loss" "[I"] ++ wsX40 ++ wsX110)
def wsX11_restore : List Cond := .code yX11_restore cX11_restore 2 (some .boolean) :: ([Cond.fieldLink RX11 28 "HallTables" "slots" "[LHallTables$Stand;", Cond.fieldLink RX11 122 "HallTables$Stand" "holds" "Z"] ++ wsX40 ++ wsX110)
def wsX4_thingsOnTables : List Cond := .code yX4_thingsOnTables cX4_thingsOnTables 3 (some .int) :: ([Cond.fieldLink RX4 24 "HallTables$Stand" "table" "[I"] ++ wsX40)
def wsX4_thingsCarried : List Cond := .code yX4_thingsCarried cX4_thingsCarried 3 (some .int) :: ([Cond.fieldLink RX4 33 "HallTables$Stand" "men" "I"] ++ wsX40)
def wsX4_menAtHome : List Cond := .code yX4_menAtHome cX4_menAtHome 4 (some .int) :: ([Cond.fieldLink RX4 33 "HallTables$Stand" "men" "I"] ++ wsX40)
def wsX11_slotsHeld : List Cond := .code yX11_slotsHeld cX11_slotsHeld 3 (some .int) :: ([Cond.fieldLink RX11 28 "HallTables" "slots" "[LHallTables$Stand;", Cond.fieldLink RX11 122 "HallTables$Stand" "holds" "Z"] ++ wsX40 ++ wsX110)
def wsX11_count : List Cond := .code yX11_count cX11_count 2 (some .int) :: ([Cond.fieldLink RX11 77 "HallTables" "town" "LHallTables$Town;", Cond.fieldLink RX11 251 "HallTables$Town" "sorts" "I", Cond.fieldLink RX11 245 "HallTables$Town" "houses" "I", Cond.fieldLink RX11 323 "HallTables$Town" "doors" "I", Cond.fieldLink RX11 316 "HallTables$Town" "men" "I", Cond.fieldLink RX11 326 "HallTables$Town" "calls" "I", Cond.fieldLink RX11 329 "HallTables$Town" "law" "I", Cond.fieldLink RX11 20 "HallTables" "text" "LHallTables$Text;", Cond.fieldLink RX11 91 "HallTables$Text" "length" "I", Cond.fieldLink RX11 35 "HallTables" "track" "LHallTables$Track;", Cond.fieldLink RX11 332 "HallTables$Track" "count" "I", Cond.fieldLink RX11 70 "HallTables" "visits" "LHallTables$Visits;", Cond.fieldLink RX11 301 "HallTables$Visits" "seen" "I", Cond.fieldLink RX11 24 "HallTables" "now" "LHallTables$Stand;", Cond.methodLink RX11 335 yX11_slotsHeld, Cond.instanceMethod yX11_slotsHeld, Cond.selects RX11 yX11_slotsHeld yX11_slotsHeld, Cond.initialized RX11, Cond.code yX11_slotsHeld cX11_slotsHeld 3 (some .int), Cond.fieldLink RX11 28 "HallTables" "slots" "[LHallTables$Stand;", Cond.fieldLink RX11 122 "HallTables$Stand" "holds" "Z", Cond.methodLink RX11 338 yX4_thingsOnTables, Cond.instanceMethod yX4_thingsOnTables, Cond.selects RX4 yX4_thingsOnTables yX4_thingsOnTables, Cond.initialized RX4, Cond.code yX4_thingsOnTables cX4_thingsOnTables 3 (some .int), Cond.fieldLink RX4 24 "HallTables$Stand" "table" "[I", Cond.methodLink RX11 284 yX4_thingsCarried, Cond.instanceMethod yX4_thingsCarried, Cond.selects RX4 yX4_thingsCarried yX4_thingsCarried, Cond.code yX4_thingsCarried cX4_thingsCarried 3 (some .int), Cond.fieldLink RX4 33 "HallTables$Stand" "men" "I"] ++ wsX40 ++ wsX60 ++ wsX70 ++ wsX80 ++ wsX90 ++ wsX110)
def wsX0_live : List Cond := .code yX0_live cX0_live 9 none :: ([Cond.fieldLink RX0 12 "HallTables$Chance" "stand" "LHallTables$Stand;", Cond.fieldLink RX0 34 "HallTables$Chance" "steps" "I", Cond.fieldLink RX0 38 "HallTables$Chance" "loss" "I", Cond.fieldLink RX0 41 "HallTables$Town" "men" "I", Cond.methodLink RX0 30 yX4_copyOf, Cond.instanceMethod yX4_copyOf, Cond.selects RX4 yX4_copyOf yX4_copyOf, Cond.initialized RX4, Cond.code yX4_copyOf cX4_copyOf 2 none, Cond.fieldLink RX4 33 "HallTables$Stand" "men" "I", Cond.fieldLink RX4 9 "HallTables$Stand" "at" "[I", Cond.methodLink RX4 37 arraycopyName, Cond.native arraycopyName, Cond.static arraycopyName, Cond.initialized "java/lang/System", Cond.fieldLink RX4 15 "HallTables$Stand" "hand" "[I", Cond.fieldLink RX4 24 "HallTables$Stand" "table" "[I", Cond.fieldLink RX4 18 "HallTables$Stand" "minutes" "[I", Cond.fieldLink RX4 21 "HallTables$Stand" "loss" "[I"] ++ wsX00 ++ wsX40 ++ wsX70)
def wsX11_year : List Cond := .code yX11_year cX11_year 4 (some .int) :: ([Cond.fieldLink RX11 63 "HallTables" "chance" "LHallTables$Chance;", Cond.fieldLink RX11 77 "HallTables" "town" "LHallTables$Town;", Cond.fieldLink RX11 24 "HallTables" "now" "LHallTables$Stand;", Cond.fieldLink RX11 276 "HallTables$Chance" "steps" "I", Cond.fieldLink RX11 279 "HallTables$Chance" "loss" "I", Cond.fieldLink RX11 281 "HallTables$Chance" "stand" "LHallTables$Stand;", Cond.methodLink RX11 272 yX0_live, Cond.instanceMethod yX0_live, Cond.selects RX0 yX0_live yX0_live, Cond.initialized RX0, Cond.code yX0_live cX0_live 9 none, Cond.fieldLink RX0 12 "HallTables$Chance" "stand" "LHallTables$Stand;", Cond.fieldLink RX0 34 "HallTables$Chance" "steps" "I", Cond.fieldLink RX0 38 "HallTables$Chance" "loss" "I", Cond.fieldLink RX0 41 "HallTables$Town" "men" "I", Cond.methodLink RX0 30 yX4_copyOf, Cond.instanceMethod yX4_copyOf, Cond.selects RX4 yX4_copyOf yX4_copyOf, Cond.initialized RX4, Cond.code yX4_copyOf cX4_copyOf 2 none, Cond.fieldLink RX4 33 "HallTables$Stand" "men" "I", Cond.fieldLink RX4 9 "HallTables$Stand" "at" "[I", Cond.methodLink RX4 37 arraycopyName, Cond.native arraycopyName, Cond.static arraycopyName, Cond.initialized "java/lang/System", Cond.fieldLink RX4 15 "HallTables$Stand" "hand" "[I", Cond.fieldLink RX4 24 "HallTables$Stand" "table" "[I", Cond.fieldLink RX4 18 "HallTables$Stand" "minutes" "[I", Cond.fieldLink RX4 21 "HallTables$Stand" "loss" "[I", Cond.methodLink RX11 284 yX4_thingsCarried, Cond.instanceMethod yX4_thingsCarried, Cond.selects RX4 yX4_thingsCarried yX4_thingsCarried, Cond.code yX4_thingsCarried cX4_thingsCarried 3 (some .int), Cond.methodLink RX11 287 yX4_menAtHome, Cond.instanceMethod yX4_menAtHome, Cond.selects RX4 yX4_menAtHome yX4_menAtHome, Cond.code yX4_menAtHome cX4_menAtHome 4 (some .int)] ++ wsX00 ++ wsX40 ++ wsX70 ++ wsX110)
def wsX0_payAll : List Cond := .code yX0_payAll cX0_payAll 3 none :: ([Cond.fieldLink RX0 12 "HallTables$Chance" "stand" "LHallTables$Stand;", Cond.fieldLink RX0 34 "HallTables$Chance" "steps" "I", Cond.fieldLink RX0 38 "HallTables$Chance" "loss" "I", Cond.fieldLink RX0 91 "HallTables$Chance" "dropped" "I", Cond.fieldLink RX0 94 "HallTables$Chance" "owed" "I", Cond.fieldLink RX0 97 "HallTables$Town" "calls" "I", Cond.methodLink RX0 87 yX4_begin, Cond.instanceMethod yX4_begin, Cond.selects RX4 yX4_begin yX4_begin, Cond.initialized RX4, Cond.code yX4_begin cX4_begin 2 none, Cond.fieldLink RX4 27 "HallTables$Town" "men" "I", Cond.fieldLink RX4 33 "HallTables$Stand" "men" "I", Cond.fieldLink RX4 34 "HallTables$Town" "home" "[I", Cond.fieldLink RX4 9 "HallTables$Stand" "at" "[I", Cond.methodLink RX4 37 arraycopyName, Cond.native arraycopyName, Cond.static arraycopyName, Cond.initialized "java/lang/System", Cond.fieldLink RX4 43 "HallTables$Town" "hand" "[I", Cond.fieldLink RX4 15 "HallTables$Stand" "hand" "[I", Cond.fieldLink RX4 44 "HallTables$Town" "table" "[I", Cond.fieldLink RX4 24 "HallTables$Stand" "table" "[I", Cond.fieldLink RX4 18 "HallTables$Stand" "minutes" "[I", Cond.fieldLink RX4 21 "HallTables$Stand" "loss" "[I", Cond.methodLink RX4 45 yJ7_fill_53178, Cond.static yJ7_fill_53178, Cond.initialized RJ7, Cond.code yJ7_fill_53178 cJ7_fill_53178 4 none] ++ wsX00 ++ wsX40 ++ wsX70)
def wsX11_rest : List Cond := .code yX11_rest cX11_rest 2 (some .int) :: ([Cond.fieldLink RX11 63 "HallTables" "chance" "LHallTables$Chance;", Cond.fieldLink RX11 77 "HallTables" "town" "LHallTables$Town;", Cond.fieldLink RX11 276 "HallTables$Chance" "steps" "I", Cond.fieldLink RX11 294 "HallTables$Chance" "dropped" "I", Cond.fieldLink RX11 281 "HallTables$Chance" "stand" "LHallTables$Stand;", Cond.methodLink RX11 291 yX0_payAll, Cond.instanceMethod yX0_payAll, Cond.selects RX0 yX0_payAll yX0_payAll, Cond.initialized RX0, Cond.code yX0_payAll cX0_payAll 3 none, Cond.fieldLink RX0 12 "HallTables$Chance" "stand" "LHallTables$Stand;", Cond.fieldLink RX0 34 "HallTables$Chance" "steps" "I", Cond.fieldLink RX0 38 "HallTables$Chance" "loss" "I", Cond.fieldLink RX0 91 "HallTables$Chance" "dropped" "I", Cond.fieldLink RX0 94 "HallTables$Chance" "owed" "I", Cond.fieldLink RX0 97 "HallTables$Town" "calls" "I", Cond.methodLink RX0 87 yX4_begin, Cond.instanceMethod yX4_begin, Cond.selects RX4 yX4_begin yX4_begin, Cond.initialized RX4, Cond.code yX4_begin cX4_begin 2 none, Cond.fieldLink RX4 27 "HallTables$Town" "men" "I", Cond.fieldLink RX4 33 "HallTables$Stand" "men" "I", Cond.fieldLink RX4 34 "HallTables$Town" "home" "[I", Cond.fieldLink RX4 9 "HallTables$Stand" "at" "[I", Cond.methodLink RX4 37 arraycopyName, Cond.native arraycopyName, Cond.static arraycopyName, Cond.initialized "java/lang/System", Cond.fieldLink RX4 43 "HallTables$Town" "hand" "[I", Cond.fieldLink RX4 15 "HallTables$Stand" "hand" "[I", Cond.fieldLink RX4 44 "HallTables$Town" "table" "[I", Cond.fieldLink RX4 24 "HallTables$Stand" "table" "[I", Cond.fieldLink RX4 18 "HallTables$Stand" "minutes" "[I", Cond.fieldLink RX4 21 "HallTables$Stand" "loss" "[I", Cond.methodLink RX4 45 yJ7_fill_53178, Cond.static yJ7_fill_53178, Cond.initialized RJ7, Cond.code yJ7_fill_53178 cJ7_fill_53178 4 none, Cond.methodLink RX11 284 yX4_thingsCarried, Cond.instanceMethod yX4_thingsCarried, Cond.selects RX4 yX4_thingsCarried yX4_thingsCarried, Cond.code yX4_thingsCarried cX4_thingsCarried 3 (some .int)] ++ wsX00 ++ wsX40 ++ wsX70 ++ wsX110)
def wsX12_put : List Cond := .code yX12_put cX12_put 3 none :: ([Cond.fieldLink RX12 13 "HallTablesModel" "tape" "[B", Cond.fieldLink RX12 202 "HallTablesModel" "taped" "I"] ++ wsX120)
def wsX12_feed : List Cond := .code yX12_feed cX12_feed 6 (some .int) :: ([Cond.fieldLink RX12 202 "HallTablesModel" "taped" "I", Cond.methodLink RX12 205 yX12_put, Cond.instanceMethod yX12_put, Cond.selects RX12 yX12_put yX12_put, Cond.initialized RX12, Cond.code yX12_put cX12_put 3 none, Cond.fieldLink RX12 13 "HallTablesModel" "tape" "[B"] ++ wsX120)
def wsX12_back : List Cond := .code yX12_back cX12_back 2 (some .int) :: ([Cond.fieldLink RX12 202 "HallTablesModel" "taped" "I"] ++ wsX120)
def wsX12_place : List Cond := .code yX12_place cX12_place 1 (some .int) :: ([Cond.fieldLink RX12 37 "HallTablesModel" "place" "I"] ++ wsX120)
def wsX12_undo : List Cond := .code yX12_undo cX12_undo 2 (some .boolean) :: ([Cond.fieldLink RX12 281 "HallTablesModel" "undos" "I"] ++ wsX120)
def wsX12_forget : List Cond := .code yX12_forget cX12_forget 2 (some .int) :: ([Cond.fieldLink RX12 284 "HallTablesModel" "seen" "I"] ++ wsX120)
def wsX12_see : List Cond := .code yX12_see cX12_see 4 (some .int) :: ([Cond.fieldLink RX12 284 "HallTablesModel" "seen" "I", Cond.methodLink RX12 347 yX12_isHouse, Cond.instanceMethod yX12_isHouse, Cond.selects RX12 yX12_isHouse yX12_isHouse, Cond.initialized RX12, Cond.code yX12_isHouse cX12_isHouse 2 (some .boolean), Cond.fieldLink RX12 55 "HallTablesModel" "houses" "[I", Cond.fieldLink RX12 266 "HallTablesModel" "live" "I", Cond.methodLink RX12 333 yX12_in, Cond.static yX12_in, Cond.code yX12_in cX12_in 3 (some .boolean)] ++ wsX120)
def wsX12_byteAt : List Cond := .code yX12_byteAt cX12_byteAt 2 (some .int) :: ([Cond.fieldLink RX12 209 "HallTablesModel" "size" "I"] ++ wsX120)
def wsX12_token : List Cond := .code yX12_token cX12_token 6 none :: ([Cond.fieldLink RX12 20 "HallTablesModel" "tKind" "[I", Cond.fieldLink RX12 214 "HallTablesModel" "tokens" "I", Cond.fieldLink RX12 24 "HallTablesModel" "tPlace" "[I", Cond.fieldLink RX12 27 "HallTablesModel" "tValue" "[I", Cond.fieldLink RX12 30 "HallTablesModel" "tName" "[J"] ++ wsX120)
def wsX12_cut : List Cond := .code yX12_cut cX12_cut 8 none :: ([Cond.fieldLink RX12 214 "HallTablesModel" "tokens" "I", Cond.fieldLink RX12 209 "HallTablesModel" "size" "I", Cond.methodLink RX12 217 yX12_byteAt, Cond.instanceMethod yX12_byteAt, Cond.selects RX12 yX12_byteAt yX12_byteAt, Cond.initialized RX12, Cond.code yX12_byteAt cX12_byteAt 2 (some .int), Cond.methodLink RX12 221 yX12_token, Cond.instanceMethod yX12_token, Cond.selects RX12 yX12_token yX12_token, Cond.code yX12_token cX12_token 6 none, Cond.fieldLink RX12 20 "HallTablesModel" "tKind" "[I", Cond.fieldLink RX12 24 "HallTablesModel" "tPlace" "[I", Cond.fieldLink RX12 27 "HallTablesModel" "tValue" "[I", Cond.fieldLink RX12 30 "HallTablesModel" "tName" "[J"] ++ wsX120)
def wsX12_is : List Cond := .code yX12_is cX12_is 2 (some .boolean) :: ([Cond.fieldLink RX12 236 "HallTablesModel" "fault" "I", Cond.fieldLink RX12 20 "HallTablesModel" "tKind" "[I", Cond.fieldLink RX12 239 "HallTablesModel" "t" "I"] ++ wsX120)
def wsX12_begins : List Cond := .code yX12_begins cX12_begins 2 none :: ([Cond.fieldLink RX12 95 "HallTablesModel" "now" "[I", Cond.fieldLink RX12 61 "HallTablesModel" "hallHas" "[I", Cond.fieldLink RX12 266 "HallTablesModel" "live" "I", Cond.fieldLink RX12 74 "HallTablesModel" "men" "[I"] ++ wsX120)
def wsX12_read : List Cond := .code yX12_read cX12_read 2 (some .int) :: ([Cond.fieldLink RX12 202 "HallTablesModel" "taped" "I", Cond.fieldLink RX12 209 "HallTablesModel" "size" "I", Cond.fieldLink RX12 239 "HallTablesModel" "t" "I", Cond.fieldLink RX12 263 "HallTablesModel" "open" "I", Cond.fieldLink RX12 236 "HallTablesModel" "fault" "I", Cond.fieldLink RX12 245 "HallTablesModel" "worst" "I", Cond.fieldLink RX12 266 "HallTablesModel" "live" "I", Cond.fieldLink RX12 269 "HallTablesModel" "side" "I", Cond.fieldLink RX12 272 "HallTablesModel" "names" "I", Cond.fieldLink RX12 49 "HallTablesModel" "sorts" "[I", Cond.fieldLink RX12 55 "HallTablesModel" "houses" "[I", Cond.fieldLink RX12 68 "HallTablesModel" "doors" "[I", Cond.fieldLink RX12 74 "HallTablesModel" "men" "[I", Cond.fieldLink RX12 83 "HallTablesModel" "laws" "[I", Cond.fieldLink RX12 86 "HallTablesModel" "calls" "[I", Cond.fieldLink RX12 58 "HallTablesModel" "worthAt" "[I", Cond.fieldLink RX12 61 "HallTablesModel" "hallHas" "[I", Cond.fieldLink RX12 64 "HallTablesModel" "sells" "[Z", Cond.fieldLink RX12 71 "HallTablesModel" "minutes" "[I", Cond.fieldLink RX12 37 "HallTablesModel" "place" "I", Cond.fieldLink RX12 281 "HallTablesModel" "undos" "I", Cond.fieldLink RX12 284 "HallTablesModel" "seen" "I", Cond.fieldLink RX12 188 "HallTablesModel" "isHeld" "[Z", Cond.methodLink RX12 260 yX12_cut, Cond.instanceMethod yX12_cut, Cond.selects RX12 yX12_cut yX12_cut, Cond.initialized RX12, Cond.code yX12_cut cX12_cut 8 none, Cond.fieldLink RX12 214 "HallTablesModel" "tokens" "I", Cond.methodLink RX12 217 yX12_byteAt, Cond.instanceMethod yX12_byteAt, Cond.selects RX12 yX12_byteAt yX12_byteAt, Cond.code yX12_byteAt cX12_byteAt 2 (some .int), Cond.methodLink RX12 221 yX12_token, Cond.instanceMethod yX12_token, Cond.selects RX12 yX12_token yX12_token, Cond.code yX12_token cX12_token 6 none, Cond.fieldLink RX12 20 "HallTablesModel" "tKind" "[I", Cond.fieldLink RX12 24 "HallTablesModel" "tPlace" "[I", Cond.fieldLink RX12 27 "HallTablesModel" "tValue" "[I", Cond.fieldLink RX12 30 "HallTablesModel" "tName" "[J", Cond.methodLink RX12 254 yX12_is, Cond.instanceMethod yX12_is, Cond.selects RX12 yX12_is yX12_is, Cond.code yX12_is cX12_is 2 (some .boolean), Cond.methodLink RX12 278 yX12_begins, Cond.instanceMethod yX12_begins, Cond.selects RX12 yX12_begins yX12_begins, Cond.code yX12_begins cX12_begins 2 none, Cond.fieldLink RX12 95 "HallTablesModel" "now" "[I"] ++ wsX120)
def wsX12_knows : List Cond := .code yX12_knows cX12_knows 8 none :: ([Cond.fieldLink RX12 164 "HallTablesModel" "need" "[I", Cond.fieldLink RX12 522 "HallTablesModel" "kinds" "I", Cond.fieldLink RX12 525 "HallTablesModel" "needAll" "I", Cond.fieldLink RX12 74 "HallTablesModel" "men" "[I", Cond.fieldLink RX12 266 "HallTablesModel" "live" "I"] ++ wsX120)
def wsX12_isAllMet : List Cond := .code yX12_isAllMet cX12_isAllMet 2 (some .boolean) :: ([Cond.fieldLink RX12 185 "HallTablesModel" "met" "[I", Cond.fieldLink RX12 74 "HallTablesModel" "men" "[I", Cond.fieldLink RX12 266 "HallTablesModel" "live" "I", Cond.fieldLink RX12 522 "HallTablesModel" "kinds" "I"] ++ wsX120)
def wsX12_adds : List Cond := .code yX12_adds cX12_adds 5 none :: ([Cond.fieldLink RX12 74 "HallTablesModel" "men" "[I", Cond.fieldLink RX12 266 "HallTablesModel" "live" "I", Cond.fieldLink RX12 531 "HallTablesModel" "fitAll" "J"] ++ wsX120)
def wsX12_counts : List Cond := .code yX12_counts cX12_counts 5 none :: ([Cond.fieldLink RX12 531 "HallTablesModel" "fitAll" "J", Cond.fieldLink RX12 182 "HallTablesModel" "fitThere" "[J", Cond.fieldLink RX12 179 "HallTablesModel" "chosen" "[I", Cond.fieldLink RX12 525 "HallTablesModel" "needAll" "I", Cond.fieldLink RX12 74 "HallTablesModel" "men" "[I", Cond.fieldLink RX12 266 "HallTablesModel" "live" "I", Cond.fieldLink RX12 522 "HallTablesModel" "kinds" "I", Cond.methodLink RX12 528 yX12_knows, Cond.instanceMethod yX12_knows, Cond.selects RX12 yX12_knows yX12_knows, Cond.initialized RX12, Cond.code yX12_knows cX12_knows 8 none, Cond.fieldLink RX12 164 "HallTablesModel" "need" "[I", Cond.methodLink RX12 535 yX12_isAllMet, Cond.instanceMethod yX12_isAllMet, Cond.selects RX12 yX12_isAllMet yX12_isAllMet, Cond.code yX12_isAllMet cX12_isAllMet 2 (some .boolean), Cond.fieldLink RX12 185 "HallTablesModel" "met" "[I", Cond.methodLink RX12 538 yX12_adds, Cond.instanceMethod yX12_adds, Cond.selects RX12 yX12_adds yX12_adds, Cond.code yX12_adds cX12_adds 5 none] ++ wsX120)
def wsX12_fits : List Cond := .code yX12_fits cX12_fits 2 (some .long) :: ([Cond.fieldLink RX12 284 "HallTablesModel" "seen" "I", Cond.constantLong RX12 541 (-1), Cond.fieldLink RX12 531 "HallTablesModel" "fitAll" "J", Cond.methodLink RX12 333 yX12_in, Cond.static yX12_in, Cond.initialized RX12, Cond.code yX12_in cX12_in 3 (some .boolean), Cond.methodLink RX12 543 yX12_counts, Cond.instanceMethod yX12_counts, Cond.selects RX12 yX12_counts yX12_counts, Cond.code yX12_counts cX12_counts 5 none, Cond.fieldLink RX12 182 "HallTablesModel" "fitThere" "[J", Cond.fieldLink RX12 179 "HallTablesModel" "chosen" "[I", Cond.fieldLink RX12 525 "HallTablesModel" "needAll" "I", Cond.fieldLink RX12 74 "HallTablesModel" "men" "[I", Cond.fieldLink RX12 266 "HallTablesModel" "live" "I", Cond.fieldLink RX12 522 "HallTablesModel" "kinds" "I", Cond.methodLink RX12 528 yX12_knows, Cond.instanceMethod yX12_knows, Cond.selects RX12 yX12_knows yX12_knows, Cond.code yX12_knows cX12_knows 8 none, Cond.fieldLink RX12 164 "HallTablesModel" "need" "[I", Cond.methodLink RX12 535 yX12_isAllMet, Cond.instanceMethod yX12_isAllMet, Cond.selects RX12 yX12_isAllMet yX12_isAllMet, Cond.code yX12_isAllMet cX12_isAllMet 2 (some .boolean), Cond.fieldLink RX12 185 "HallTablesModel" "met" "[I", Cond.methodLink RX12 538 yX12_adds, Cond.instanceMethod yX12_adds, Cond.selects RX12 yX12_adds yX12_adds, Cond.code yX12_adds cX12_adds 5 none] ++ wsX120)
def wsX12_hold : List Cond := .code yX12_hold cX12_hold 3 (some .boolean) :: ([Cond.fieldLink RX12 188 "HallTablesModel" "isHeld" "[Z", Cond.fieldLink RX12 191 "HallTablesModel" "held" "[I", Cond.fieldLink RX12 95 "HallTablesModel" "now" "[I", Cond.methodLink RX12 333 yX12_in, Cond.static yX12_in, Cond.initialized RX12, Cond.code yX12_in cX12_in 3 (some .boolean)] ++ wsX120)
def wsX12_restore : List Cond := .code yX12_restore cX12_restore 3 (some .boolean) :: ([Cond.fieldLink RX12 188 "HallTablesModel" "isHeld" "[Z", Cond.methodLink RX12 333 yX12_in, Cond.static yX12_in, Cond.initialized RX12, Cond.code yX12_in cX12_in 3 (some .boolean)] ++ wsX120)
def wsX12_count : List Cond := .code yX12_count cX12_count 4 (some .int) :: ([Cond.fieldLink RX12 49 "HallTablesModel" "sorts" "[I", Cond.fieldLink RX12 266 "HallTablesModel" "live" "I", Cond.fieldLink RX12 55 "HallTablesModel" "houses" "[I", Cond.fieldLink RX12 68 "HallTablesModel" "doors" "[I", Cond.fieldLink RX12 74 "HallTablesModel" "men" "[I", Cond.fieldLink RX12 86 "HallTablesModel" "calls" "[I", Cond.fieldLink RX12 83 "HallTablesModel" "laws" "[I", Cond.fieldLink RX12 202 "HallTablesModel" "taped" "I", Cond.fieldLink RX12 281 "HallTablesModel" "undos" "I", Cond.fieldLink RX12 284 "HallTablesModel" "seen" "I", Cond.fieldLink RX12 188 "HallTablesModel" "isHeld" "[Z", Cond.fieldLink RX12 95 "HallTablesModel" "now" "[I"] ++ wsX120)
def wsX12_year : List Cond := .code yX12_year cX12_year 10 (some .int) :: ([Cond.fieldLink RX12 74 "HallTablesModel" "men" "[I", Cond.fieldLink RX12 266 "HallTablesModel" "live" "I", Cond.methodLink RX12 333 yX12_in, Cond.static yX12_in, Cond.initialized RX12, Cond.code yX12_in cX12_in 3 (some .boolean)] ++ wsX120)
def wsX12_rest : List Cond := .code yX12_rest cX12_rest 10 (some .int) :: ([Cond.fieldLink RX12 86 "HallTablesModel" "calls" "[I", Cond.fieldLink RX12 266 "HallTablesModel" "live" "I", Cond.fieldLink RX12 74 "HallTablesModel" "men" "[I", Cond.methodLink RX12 333 yX12_in, Cond.static yX12_in, Cond.initialized RX12, Cond.code yX12_in cX12_in 3 (some .boolean)] ++ wsX120)
def wsJ0_checkIndex_df160 : List Cond := .code yJ0_checkIndex_df160 cJ0_checkIndex_df160 2 none :: ([Cond.fieldLink RJ0 1053 "jdk/internal/util/Preconditions" "SIOOBE_FORMATTER" "Ljava/util/function/BiFunction;", Cond.methodLink RJ0 1059 yJ3_checkIndex_8e157, Cond.static yJ3_checkIndex_8e157, Cond.initialized RJ3, Cond.code yJ3_checkIndex_8e157 cJ3_checkIndex_8e157 3 (some .int)])
def wsJ3_checkIndex_8e157 : List Cond := .code yJ3_checkIndex_8e157 cJ3_checkIndex_8e157 3 (some .int) :: ([])
def wsJ1_charAt_3b067 : List Cond := .code yJ1_charAt_3b067 cJ1_charAt_3b067 2 (some .char) :: ([Cond.methodLink RJ1 9 yJ0_checkIndex_df160, Cond.static yJ0_checkIndex_df160, Cond.initialized RJ0, Cond.code yJ0_checkIndex_df160 cJ0_checkIndex_df160 2 none, Cond.fieldLink RJ0 1053 "jdk/internal/util/Preconditions" "SIOOBE_FORMATTER" "Ljava/util/function/BiFunction;", Cond.methodLink RJ0 1059 yJ3_checkIndex_8e157, Cond.static yJ3_checkIndex_8e157, Cond.initialized RJ3, Cond.code yJ3_checkIndex_8e157 cJ3_checkIndex_8e157 3 (some .int)])
def wsJ0_isLatin1_aae02 : List Cond := .code yJ0_isLatin1_aae02 cJ0_isLatin1_aae02 1 (some .boolean) :: ([Cond.fieldLink RJ0 38 "java/lang/String" "COMPACT_STRINGS" "Z", Cond.fieldLink RJ0 15 "java/lang/String" "coder" "B"])
def wsJ0_coder_7d493 : List Cond := .code yJ0_coder_7d493 cJ0_coder_7d493 1 (some .byte) :: ([Cond.fieldLink RJ0 38 "java/lang/String" "COMPACT_STRINGS" "Z", Cond.fieldLink RJ0 15 "java/lang/String" "coder" "B"])
def wsJ0_length_8abf5 : List Cond := .code yJ0_length_8abf5 cJ0_length_8abf5 1 (some .int) :: ([Cond.fieldLink RJ0 9 "java/lang/String" "value" "[B", Cond.methodLink RJ0 335 yJ0_coder_7d493, Cond.instanceMethod yJ0_coder_7d493, Cond.selects RJ0 yJ0_coder_7d493 yJ0_coder_7d493, Cond.initialized RJ0, Cond.code yJ0_coder_7d493 cJ0_coder_7d493 1 (some .byte), Cond.fieldLink RJ0 38 "java/lang/String" "COMPACT_STRINGS" "Z", Cond.fieldLink RJ0 15 "java/lang/String" "coder" "B"])
def wsJ0_charAt_5068e : List Cond := .code yJ0_charAt_5068e cJ0_charAt_5068e 2 (some .char) :: ([Cond.fieldLink RJ0 9 "java/lang/String" "value" "[B", Cond.methodLink RJ0 492 yJ0_isLatin1_aae02, Cond.instanceMethod yJ0_isLatin1_aae02, Cond.selects RJ0 yJ0_isLatin1_aae02 yJ0_isLatin1_aae02, Cond.initialized RJ0, Cond.code yJ0_isLatin1_aae02 cJ0_isLatin1_aae02 1 (some .boolean), Cond.fieldLink RJ0 38 "java/lang/String" "COMPACT_STRINGS" "Z", Cond.fieldLink RJ0 15 "java/lang/String" "coder" "B", Cond.methodLink RJ0 495 yJ1_charAt_3b067, Cond.static yJ1_charAt_3b067, Cond.initialized RJ1, Cond.code yJ1_charAt_3b067 cJ1_charAt_3b067 2 (some .char), Cond.methodLink RJ1 9 yJ0_checkIndex_df160, Cond.static yJ0_checkIndex_df160, Cond.code yJ0_checkIndex_df160 cJ0_checkIndex_df160 2 none, Cond.fieldLink RJ0 1053 "jdk/internal/util/Preconditions" "SIOOBE_FORMATTER" "Ljava/util/function/BiFunction;", Cond.methodLink RJ0 1059 yJ3_checkIndex_8e157, Cond.static yJ3_checkIndex_8e157, Cond.initialized RJ3, Cond.code yJ3_checkIndex_8e157 cJ3_checkIndex_8e157 3 (some .int)])
def wsX6_codeWith : List Cond := .code yX6_codeWith cX6_codeWith 3 (some .long) :: ([Cond.constantLong RX6 159 (27)])
def wsX6_code : List Cond := .code yX6_code cX6_code 4 (some .long) :: ([Cond.methodLink RX6 114 yJ0_length_8abf5, Cond.instanceMethod yJ0_length_8abf5, Cond.selects RJ0 yJ0_length_8abf5 yJ0_length_8abf5, Cond.initialized RJ0, Cond.code yJ0_length_8abf5 cJ0_length_8abf5 1 (some .int), Cond.fieldLink RJ0 9 "java/lang/String" "value" "[B", Cond.methodLink RJ0 335 yJ0_coder_7d493, Cond.instanceMethod yJ0_coder_7d493, Cond.selects RJ0 yJ0_coder_7d493 yJ0_coder_7d493, Cond.code yJ0_coder_7d493 cJ0_coder_7d493 1 (some .byte), Cond.fieldLink RJ0 38 "java/lang/String" "COMPACT_STRINGS" "Z", Cond.fieldLink RJ0 15 "java/lang/String" "coder" "B", Cond.methodLink RX6 119 yJ0_charAt_5068e, Cond.instanceMethod yJ0_charAt_5068e, Cond.selects RJ0 yJ0_charAt_5068e yJ0_charAt_5068e, Cond.code yJ0_charAt_5068e cJ0_charAt_5068e 2 (some .char), Cond.methodLink RJ0 492 yJ0_isLatin1_aae02, Cond.instanceMethod yJ0_isLatin1_aae02, Cond.selects RJ0 yJ0_isLatin1_aae02 yJ0_isLatin1_aae02, Cond.code yJ0_isLatin1_aae02 cJ0_isLatin1_aae02 1 (some .boolean), Cond.methodLink RJ0 495 yJ1_charAt_3b067, Cond.static yJ1_charAt_3b067, Cond.initialized RJ1, Cond.code yJ1_charAt_3b067 cJ1_charAt_3b067 2 (some .char), Cond.methodLink RJ1 9 yJ0_checkIndex_df160, Cond.static yJ0_checkIndex_df160, Cond.code yJ0_checkIndex_df160 cJ0_checkIndex_df160 2 none, Cond.fieldLink RJ0 1053 "jdk/internal/util/Preconditions" "SIOOBE_FORMATTER" "Ljava/util/function/BiFunction;", Cond.methodLink RJ0 1059 yJ3_checkIndex_8e157, Cond.static yJ3_checkIndex_8e157, Cond.initialized RJ3, Cond.code yJ3_checkIndex_8e157 cJ3_checkIndex_8e157 3 (some .int), Cond.methodLink RX6 153 yX6_codeWith, Cond.static yX6_codeWith, Cond.initialized RX6, Cond.code yX6_codeWith cX6_codeWith 3 (some .long), Cond.constantLong RX6 159 (27)])
def wsX7_init : List Cond := .code yX7_init cX7_init 1 none :: ([Cond.methodLink RX7 3 objectInit, Cond.instanceMethod objectInit, Cond.code objectInit ⟨#[0xb1]⟩ 1 none, Cond.arrayClass .long, Cond.fieldLink RX7 9 "HallTables$Town" "sortNames" "[J", Cond.fieldLink RX7 15 "HallTables$Town" "houseNames" "[J", Cond.fieldLink RX7 18 "HallTables$Town" "manNames" "[J", Cond.arrayClass .int, Cond.fieldLink RX7 21 "HallTables$Town" "plainWorth" "[I", Cond.fieldLink RX7 25 "HallTables$Town" "worth" "[I", Cond.fieldLink RX7 28 "HallTables$Town" "minutes" "[I", Cond.fieldLink RX7 31 "HallTables$Town" "sells" "[I", Cond.fieldLink RX7 34 "HallTables$Town" "table" "[I", Cond.fieldLink RX7 37 "HallTables$Town" "home" "[I", Cond.fieldLink RX7 40 "HallTables$Town" "hand" "[I", Cond.fieldLink RX7 43 "HallTables$Town" "callMan" "[I", Cond.fieldLink RX7 46 "HallTables$Town" "callHouse" "[I"] ++ wsX70)
def wsX4_init : List Cond := .code yX4_init cX4_init 1 none :: ([Cond.methodLink RX4 3 objectInit, Cond.instanceMethod objectInit, Cond.code objectInit ⟨#[0xb1]⟩ 1 none, Cond.arrayClass .int, Cond.fieldLink RX4 9 "HallTables$Stand" "at" "[I", Cond.fieldLink RX4 15 "HallTables$Stand" "hand" "[I", Cond.fieldLink RX4 18 "HallTables$Stand" "minutes" "[I", Cond.fieldLink RX4 21 "HallTables$Stand" "loss" "[I", Cond.fieldLink RX4 24 "HallTables$Stand" "table" "[I"] ++ wsX40)
def wsX8_init : List Cond := .code yX8_init cX8_init 1 none :: ([Cond.methodLink RX8 3 objectInit, Cond.instanceMethod objectInit, Cond.code objectInit ⟨#[0xb1]⟩ 1 none, Cond.arrayClass .int, Cond.fieldLink RX8 11 "HallTables$Track" "man" "[I", Cond.fieldLink RX8 15 "HallTables$Track" "from" "[I", Cond.fieldLink RX8 18 "HallTables$Track" "sort" "[I", Cond.fieldLink RX8 21 "HallTables$Track" "minutes" "[I"] ++ wsX80)
def wsX9_init : List Cond := .code yX9_init cX9_init 1 none :: ([Cond.methodLink RX9 3 objectInit, Cond.instanceMethod objectInit, Cond.code objectInit ⟨#[0xb1]⟩ 1 none, Cond.arrayClass .int, Cond.fieldLink RX9 11 "HallTables$Visits" "seenCell" "[I", Cond.fieldLink RX9 15 "HallTables$Visits" "seenMany" "[I", Cond.fieldLink RX9 18 "HallTables$Visits" "known" "[I", Cond.fieldLink RX9 21 "HallTables$Visits" "weight" "[I", Cond.arrayClass .long, Cond.fieldLink RX9 24 "HallTables$Visits" "here" "[J", Cond.fieldLink RX9 28 "HallTables$Visits" "after" "[J"] ++ wsX90)
def wsX1_init : List Cond := .code yX1_init cX1_init 1 none :: ([Cond.methodLink RX1 3 objectInit, Cond.instanceMethod objectInit, Cond.code objectInit ⟨#[0xb1]⟩ 1 none, Cond.arrayClass .int, Cond.fieldLink RX1 9 "HallTables$Day" "stock" "[I", Cond.fieldLink RX1 15 "HallTables$Day" "unsent" "[I", Cond.fieldLink RX1 18 "HallTables$Day" "from" "[I", Cond.fieldLink RX1 21 "HallTables$Day" "to" "[I", Cond.fieldLink RX1 24 "HallTables$Day" "carries" "[I", Cond.fieldLink RX1 27 "HallTables$Day" "stay" "[I", Cond.fieldLink RX1 30 "HallTables$Day" "queue" "[I", Cond.fieldLink RX1 33 "HallTables$Day" "cameFrom" "[I", Cond.fieldLink RX1 36 "HallTables$Day" "leadsOn" "[I"] ++ wsX10)
def wsX2_init : List Cond := .code yX2_init cX2_init 1 none :: ([Cond.methodLink RX2 3 objectInit, Cond.instanceMethod objectInit, Cond.code objectInit ⟨#[0xb1]⟩ 1 none, Cond.arrayClass .long, Cond.fieldLink RX2 11 "HallTables$Heap" "key" "[J", Cond.arrayClass .int, Cond.fieldLink RX2 17 "HallTables$Heap" "item" "[I", Cond.fieldLink RX2 21 "HallTables$Heap" "spot" "[I"] ++ wsX20)
def wsX3_init : List Cond := .code yX3_init cX3_init 1 none :: ([Cond.methodLink RX3 3 objectInit, Cond.instanceMethod objectInit, Cond.code objectInit ⟨#[0xb1]⟩ 1 none, Cond.arrayClass .int, Cond.fieldLink RX3 9 "HallTables$Rounds" "here" "[I", Cond.fieldLink RX3 15 "HallTables$Rounds" "next" "[I", Cond.classLink RX3 18 RX7, Cond.instantiable RX7 18, Cond.initialized RX7, Cond.fieldLink RX3 21 "HallTables$Rounds" "town" "LHallTables$Town;", Cond.instanceMethod yX7_init, Cond.code yX7_init cX7_init 1 none, Cond.methodLink RX7 3 objectInit, Cond.arrayClass .long, Cond.fieldLink RX7 9 "HallTables$Town" "sortNames" "[J", Cond.fieldLink RX7 15 "HallTables$Town" "houseNames" "[J", Cond.fieldLink RX7 18 "HallTables$Town" "manNames" "[J", Cond.fieldLink RX7 21 "HallTables$Town" "plainWorth" "[I", Cond.fieldLink RX7 25 "HallTables$Town" "worth" "[I", Cond.fieldLink RX7 28 "HallTables$Town" "minutes" "[I", Cond.fieldLink RX7 31 "HallTables$Town" "sells" "[I", Cond.fieldLink RX7 34 "HallTables$Town" "table" "[I", Cond.fieldLink RX7 37 "HallTables$Town" "home" "[I", Cond.fieldLink RX7 40 "HallTables$Town" "hand" "[I", Cond.fieldLink RX7 43 "HallTables$Town" "callMan" "[I", Cond.fieldLink RX7 46 "HallTables$Town" "callHouse" "[I"] ++ wsX30 ++ wsX70)
def wsX0_init : List Cond := .code yX0_init cX0_init 1 none :: ([Cond.methodLink RX0 3 objectInit, Cond.instanceMethod objectInit, Cond.code objectInit ⟨#[0xb1]⟩ 1 none, Cond.classLink RX0 9 RX4, Cond.instantiable RX4 7, Cond.initialized RX4, Cond.fieldLink RX0 12 "HallTables$Chance" "stand" "LHallTables$Stand;", Cond.arrayClass .int, Cond.fieldLink RX0 18 "HallTables$Chance" "owedMan" "[I", Cond.fieldLink RX0 22 "HallTables$Chance" "owedHouse" "[I", Cond.instanceMethod yX4_init, Cond.code yX4_init cX4_init 1 none, Cond.methodLink RX4 3 objectInit, Cond.fieldLink RX4 9 "HallTables$Stand" "at" "[I", Cond.fieldLink RX4 15 "HallTables$Stand" "hand" "[I", Cond.fieldLink RX4 18 "HallTables$Stand" "minutes" "[I", Cond.fieldLink RX4 21 "HallTables$Stand" "loss" "[I", Cond.fieldLink RX4 24 "HallTables$Stand" "table" "[I"] ++ wsX00 ++ wsX40)
def wsX10_init : List Cond := .code yX10_init cX10_init 1 none :: ([Cond.methodLink RX10 5 objectInit, Cond.instanceMethod objectInit, Cond.code objectInit ⟨#[0xb1]⟩ 1 none, Cond.arrayClass .int, Cond.fieldLink RX10 11 "HallTables$Ways" "sums" "[I", Cond.fieldLink RX10 15 "HallTables$Ways" "together" "[I", Cond.classLink RX10 18 RX7, Cond.instantiable RX7 18, Cond.initialized RX7, Cond.fieldLink RX10 21 "HallTables$Ways" "town" "LHallTables$Town;", Cond.fieldLink RX10 25 "HallTables$Ways" "codes" "[I", Cond.classLink RX10 28 RX2, Cond.instantiable RX2 4, Cond.initialized RX2, Cond.fieldLink RX10 31 "HallTables$Ways" "heap" "LHallTables$Heap;", Cond.fieldLink RX10 35 "HallTables$Heap" "key" "[J", Cond.fieldLink RX10 39 "HallTables$Ways" "key" "[J", Cond.fieldLink RX10 40 "HallTables$Ways" "order" "[I", Cond.arrayClass .byte, Cond.fieldLink RX10 43 "HallTables$Ways" "good" "[B", Cond.instanceMethod yX7_init, Cond.code yX7_init cX7_init 1 none, Cond.methodLink RX7 3 objectInit, Cond.arrayClass .long, Cond.fieldLink RX7 9 "HallTables$Town" "sortNames" "[J", Cond.fieldLink RX7 15 "HallTables$Town" "houseNames" "[J", Cond.fieldLink RX7 18 "HallTables$Town" "manNames" "[J", Cond.fieldLink RX7 21 "HallTables$Town" "plainWorth" "[I", Cond.fieldLink RX7 25 "HallTables$Town" "worth" "[I", Cond.fieldLink RX7 28 "HallTables$Town" "minutes" "[I", Cond.fieldLink RX7 31 "HallTables$Town" "sells" "[I", Cond.fieldLink RX7 34 "HallTables$Town" "table" "[I", Cond.fieldLink RX7 37 "HallTables$Town" "home" "[I", Cond.fieldLink RX7 40 "HallTables$Town" "hand" "[I", Cond.fieldLink RX7 43 "HallTables$Town" "callMan" "[I", Cond.fieldLink RX7 46 "HallTables$Town" "callHouse" "[I", Cond.instanceMethod yX2_init, Cond.code yX2_init cX2_init 1 none, Cond.methodLink RX2 3 objectInit, Cond.fieldLink RX2 11 "HallTables$Heap" "key" "[J", Cond.fieldLink RX2 17 "HallTables$Heap" "item" "[I", Cond.fieldLink RX2 21 "HallTables$Heap" "spot" "[I"] ++ wsX20 ++ wsX70 ++ wsX100)
def wsX6_init : List Cond := .code yX6_init cX6_init 1 none :: ([Cond.methodLink RX6 3 objectInit, Cond.instanceMethod objectInit, Cond.code objectInit ⟨#[0xb1]⟩ 1 none, Cond.fieldLink RX6 9 "HallTables$Text" "faultPlace" "I", Cond.arrayClass .byte, Cond.fieldLink RX6 15 "HallTables$Text" "bytes" "[B", Cond.arrayClass .int, Cond.fieldLink RX6 19 "HallTables$Text" "kinds" "[I", Cond.arrayClass .long, Cond.fieldLink RX6 23 "HallTables$Text" "values" "[J", Cond.fieldLink RX6 27 "HallTables$Text" "places" "[I", Cond.fieldLink RX6 30 "HallTables$Text" "told" "[I", Cond.fieldLink RX6 61 "HallTables$Text" "words" "[J", Cond.methodLink RX6 35 yX6_code, Cond.static yX6_code, Cond.initialized RX6, Cond.code yX6_code cX6_code 4 (some .long), Cond.methodLink RX6 114 yJ0_length_8abf5, Cond.instanceMethod yJ0_length_8abf5, Cond.selects RJ0 yJ0_length_8abf5 yJ0_length_8abf5, Cond.initialized RJ0, Cond.code yJ0_length_8abf5 cJ0_length_8abf5 1 (some .int), Cond.fieldLink RJ0 9 "java/lang/String" "value" "[B", Cond.methodLink RJ0 335 yJ0_coder_7d493, Cond.instanceMethod yJ0_coder_7d493, Cond.selects RJ0 yJ0_coder_7d493 yJ0_coder_7d493, Cond.code yJ0_coder_7d493 cJ0_coder_7d493 1 (some .byte), Cond.fieldLink RJ0 38 "java/lang/String" "COMPACT_STRINGS" "Z", Cond.fieldLink RJ0 15 "java/lang/String" "coder" "B", Cond.methodLink RX6 119 yJ0_charAt_5068e, Cond.instanceMethod yJ0_charAt_5068e, Cond.selects RJ0 yJ0_charAt_5068e yJ0_charAt_5068e, Cond.code yJ0_charAt_5068e cJ0_charAt_5068e 2 (some .char), Cond.methodLink RJ0 492 yJ0_isLatin1_aae02, Cond.instanceMethod yJ0_isLatin1_aae02, Cond.selects RJ0 yJ0_isLatin1_aae02 yJ0_isLatin1_aae02, Cond.code yJ0_isLatin1_aae02 cJ0_isLatin1_aae02 1 (some .boolean), Cond.methodLink RJ0 495 yJ1_charAt_3b067, Cond.static yJ1_charAt_3b067, Cond.initialized RJ1, Cond.code yJ1_charAt_3b067 cJ1_charAt_3b067 2 (some .char), Cond.methodLink RJ1 9 yJ0_checkIndex_df160, Cond.static yJ0_checkIndex_df160, Cond.code yJ0_checkIndex_df160 cJ0_checkIndex_df160 2 none, Cond.fieldLink RJ0 1053 "jdk/internal/util/Preconditions" "SIOOBE_FORMATTER" "Ljava/util/function/BiFunction;", Cond.methodLink RJ0 1059 yJ3_checkIndex_8e157, Cond.static yJ3_checkIndex_8e157, Cond.initialized RJ3, Cond.code yJ3_checkIndex_8e157 cJ3_checkIndex_8e157 3 (some .int), Cond.methodLink RX6 153 yX6_codeWith, Cond.static yX6_codeWith, Cond.code yX6_codeWith cX6_codeWith 3 (some .long), Cond.constantLong RX6 159 (27)] ++ wsX60)
def wsX5_init : List Cond := .code yX5_init cX5_init 1 none :: ([Cond.methodLink RX5 3 objectInit, Cond.instanceMethod objectInit, Cond.code objectInit ⟨#[0xb1]⟩ 1 none, Cond.classLink RX5 9 RX6, Cond.instantiable RX6 12, Cond.initialized RX6, Cond.fieldLink RX5 12 "HallTables$Teller" "text" "LHallTables$Text;", Cond.classLink RX5 18 RX7, Cond.instantiable RX7 18, Cond.initialized RX7, Cond.fieldLink RX5 21 "HallTables$Teller" "town" "LHallTables$Town;", Cond.instanceMethod yX6_init, Cond.code yX6_init cX6_init 1 none, Cond.methodLink RX6 3 objectInit, Cond.fieldLink RX6 9 "HallTables$Text" "faultPlace" "I", Cond.arrayClass .byte, Cond.fieldLink RX6 15 "HallTables$Text" "bytes" "[B", Cond.arrayClass .int, Cond.fieldLink RX6 19 "HallTables$Text" "kinds" "[I", Cond.arrayClass .long, Cond.fieldLink RX6 23 "HallTables$Text" "values" "[J", Cond.fieldLink RX6 27 "HallTables$Text" "places" "[I", Cond.fieldLink RX6 30 "HallTables$Text" "told" "[I", Cond.fieldLink RX6 61 "HallTables$Text" "words" "[J", Cond.methodLink RX6 35 yX6_code, Cond.static yX6_code, Cond.code yX6_code cX6_code 4 (some .long), Cond.methodLink RX6 114 yJ0_length_8abf5, Cond.instanceMethod yJ0_length_8abf5, Cond.selects RJ0 yJ0_length_8abf5 yJ0_length_8abf5, Cond.initialized RJ0, Cond.code yJ0_length_8abf5 cJ0_length_8abf5 1 (some .int), Cond.fieldLink RJ0 9 "java/lang/String" "value" "[B", Cond.methodLink RJ0 335 yJ0_coder_7d493, Cond.instanceMethod yJ0_coder_7d493, Cond.selects RJ0 yJ0_coder_7d493 yJ0_coder_7d493, Cond.code yJ0_coder_7d493 cJ0_coder_7d493 1 (some .byte), Cond.fieldLink RJ0 38 "java/lang/String" "COMPACT_STRINGS" "Z", Cond.fieldLink RJ0 15 "java/lang/String" "coder" "B", Cond.methodLink RX6 119 yJ0_charAt_5068e, Cond.instanceMethod yJ0_charAt_5068e, Cond.selects RJ0 yJ0_charAt_5068e yJ0_charAt_5068e, Cond.code yJ0_charAt_5068e cJ0_charAt_5068e 2 (some .char), Cond.methodLink RJ0 492 yJ0_isLatin1_aae02, Cond.instanceMethod yJ0_isLatin1_aae02, Cond.selects RJ0 yJ0_isLatin1_aae02 yJ0_isLatin1_aae02, Cond.code yJ0_isLatin1_aae02 cJ0_isLatin1_aae02 1 (some .boolean), Cond.methodLink RJ0 495 yJ1_charAt_3b067, Cond.static yJ1_charAt_3b067, Cond.initialized RJ1, Cond.code yJ1_charAt_3b067 cJ1_charAt_3b067 2 (some .char), Cond.methodLink RJ1 9 yJ0_checkIndex_df160, Cond.static yJ0_checkIndex_df160, Cond.code yJ0_checkIndex_df160 cJ0_checkIndex_df160 2 none, Cond.fieldLink RJ0 1053 "jdk/internal/util/Preconditions" "SIOOBE_FORMATTER" "Ljava/util/function/BiFunction;", Cond.methodLink RJ0 1059 yJ3_checkIndex_8e157, Cond.static yJ3_checkIndex_8e157, Cond.initialized RJ3, Cond.code yJ3_checkIndex_8e157 cJ3_checkIndex_8e157 3 (some .int), Cond.methodLink RX6 153 yX6_codeWith, Cond.static yX6_codeWith, Cond.code yX6_codeWith cX6_codeWith 3 (some .long), Cond.constantLong RX6 159 (27), Cond.instanceMethod yX7_init, Cond.code yX7_init cX7_init 1 none, Cond.methodLink RX7 3 objectInit, Cond.fieldLink RX7 9 "HallTables$Town" "sortNames" "[J", Cond.fieldLink RX7 15 "HallTables$Town" "houseNames" "[J", Cond.fieldLink RX7 18 "HallTables$Town" "manNames" "[J", Cond.fieldLink RX7 21 "HallTables$Town" "plainWorth" "[I", Cond.fieldLink RX7 25 "HallTables$Town" "worth" "[I", Cond.fieldLink RX7 28 "HallTables$Town" "minutes" "[I", Cond.fieldLink RX7 31 "HallTables$Town" "sells" "[I", Cond.fieldLink RX7 34 "HallTables$Town" "table" "[I", Cond.fieldLink RX7 37 "HallTables$Town" "home" "[I", Cond.fieldLink RX7 40 "HallTables$Town" "hand" "[I", Cond.fieldLink RX7 43 "HallTables$Town" "callMan" "[I", Cond.fieldLink RX7 46 "HallTables$Town" "callHouse" "[I"] ++ wsX50 ++ wsX60 ++ wsX70)
def wsX11_init : List Cond := .code yX11_init cX11_init 2 none :: ([Cond.methodLink RX11 1 objectInit, Cond.instanceMethod objectInit, Cond.code objectInit ⟨#[0xb1]⟩ 1 none, Cond.classLink RX11 7 RX5, Cond.instantiable RX5 3, Cond.initialized RX5, Cond.fieldLink RX11 10 "HallTables" "teller" "LHallTables$Teller;", Cond.fieldLink RX11 16 "HallTables$Teller" "text" "LHallTables$Text;", Cond.fieldLink RX11 20 "HallTables" "text" "LHallTables$Text;", Cond.classLink RX11 21 RX4, Cond.instantiable RX4 7, Cond.initialized RX4, Cond.fieldLink RX11 24 "HallTables" "now" "LHallTables$Stand;", Cond.fieldLink RX11 28 "HallTables" "slots" "[LHallTables$Stand;", Cond.classLink RX11 32 RX8, Cond.instantiable RX8 6, Cond.initialized RX8, Cond.fieldLink RX11 35 "HallTables" "track" "LHallTables$Track;", Cond.classLink RX11 39 RX10, Cond.instantiable RX10 18, Cond.initialized RX10, Cond.fieldLink RX11 42 "HallTables" "ways" "LHallTables$Ways;", Cond.classLink RX11 46 RX3, Cond.instantiable RX3 5, Cond.initialized RX3, Cond.fieldLink RX11 49 "HallTables" "rounds" "LHallTables$Rounds;", Cond.classLink RX11 53 RX1, Cond.instantiable RX1 13, Cond.initialized RX1, Cond.fieldLink RX11 56 "HallTables" "day" "LHallTables$Day;", Cond.classLink RX11 60 RX0, Cond.instantiable RX0 7, Cond.initialized RX0, Cond.fieldLink RX11 63 "HallTables" "chance" "LHallTables$Chance;", Cond.classLink RX11 67 RX9, Cond.instantiable RX9 8, Cond.initialized RX9, Cond.fieldLink RX11 70 "HallTables" "visits" "LHallTables$Visits;", Cond.classLink RX11 74 RX7, Cond.instantiable RX7 18, Cond.initialized RX7, Cond.fieldLink RX11 77 "HallTables" "town" "LHallTables$Town;", Cond.instanceMethod yX5_init, Cond.code yX5_init cX5_init 1 none, Cond.methodLink RX5 3 objectInit, Cond.classLink RX5 9 RX6, Cond.instantiable RX6 12, Cond.initialized RX6, Cond.fieldLink RX5 12 "HallTables$Teller" "text" "LHallTables$Text;", Cond.classLink RX5 18 RX7, Cond.fieldLink RX5 21 "HallTables$Teller" "town" "LHallTables$Town;", Cond.instanceMethod yX6_init, Cond.code yX6_init cX6_init 1 none, Cond.methodLink RX6 3 objectInit, Cond.fieldLink RX6 9 "HallTables$Text" "faultPlace" "I", Cond.arrayClass .byte, Cond.fieldLink RX6 15 "HallTables$Text" "bytes" "[B", Cond.arrayClass .int, Cond.fieldLink RX6 19 "HallTables$Text" "kinds" "[I", Cond.arrayClass .long, Cond.fieldLink RX6 23 "HallTables$Text" "values" "[J", Cond.fieldLink RX6 27 "HallTables$Text" "places" "[I", Cond.fieldLink RX6 30 "HallTables$Text" "told" "[I", Cond.fieldLink RX6 61 "HallTables$Text" "words" "[J", Cond.methodLink RX6 35 yX6_code, Cond.static yX6_code, Cond.code yX6_code cX6_code 4 (some .long), Cond.methodLink RX6 114 yJ0_length_8abf5, Cond.instanceMethod yJ0_length_8abf5, Cond.selects RJ0 yJ0_length_8abf5 yJ0_length_8abf5, Cond.initialized RJ0, Cond.code yJ0_length_8abf5 cJ0_length_8abf5 1 (some .int), Cond.fieldLink RJ0 9 "java/lang/String" "value" "[B", Cond.methodLink RJ0 335 yJ0_coder_7d493, Cond.instanceMethod yJ0_coder_7d493, Cond.selects RJ0 yJ0_coder_7d493 yJ0_coder_7d493, Cond.code yJ0_coder_7d493 cJ0_coder_7d493 1 (some .byte), Cond.fieldLink RJ0 38 "java/lang/String" "COMPACT_STRINGS" "Z", Cond.fieldLink RJ0 15 "java/lang/String" "coder" "B", Cond.methodLink RX6 119 yJ0_charAt_5068e, Cond.instanceMethod yJ0_charAt_5068e, Cond.selects RJ0 yJ0_charAt_5068e yJ0_charAt_5068e, Cond.code yJ0_charAt_5068e cJ0_charAt_5068e 2 (some .char), Cond.methodLink RJ0 492 yJ0_isLatin1_aae02, Cond.instanceMethod yJ0_isLatin1_aae02, Cond.selects RJ0 yJ0_isLatin1_aae02 yJ0_isLatin1_aae02, Cond.code yJ0_isLatin1_aae02 cJ0_isLatin1_aae02 1 (some .boolean), Cond.methodLink RJ0 495 yJ1_charAt_3b067, Cond.static yJ1_charAt_3b067, Cond.initialized RJ1, Cond.code yJ1_charAt_3b067 cJ1_charAt_3b067 2 (some .char), Cond.methodLink RJ1 9 yJ0_checkIndex_df160, Cond.static yJ0_checkIndex_df160, Cond.code yJ0_checkIndex_df160 cJ0_checkIndex_df160 2 none, Cond.fieldLink RJ0 1053 "jdk/internal/util/Preconditions" "SIOOBE_FORMATTER" "Ljava/util/function/BiFunction;", Cond.methodLink RJ0 1059 yJ3_checkIndex_8e157, Cond.static yJ3_checkIndex_8e157, Cond.initialized RJ3, Cond.code yJ3_checkIndex_8e157 cJ3_checkIndex_8e157 3 (some .int), Cond.methodLink RX6 153 yX6_codeWith, Cond.static yX6_codeWith, Cond.code yX6_codeWith cX6_codeWith 3 (some .long), Cond.constantLong RX6 159 (27), Cond.instanceMethod yX7_init, Cond.code yX7_init cX7_init 1 none, Cond.methodLink RX7 3 objectInit, Cond.fieldLink RX7 9 "HallTables$Town" "sortNames" "[J", Cond.fieldLink RX7 15 "HallTables$Town" "houseNames" "[J", Cond.fieldLink RX7 18 "HallTables$Town" "manNames" "[J", Cond.fieldLink RX7 21 "HallTables$Town" "plainWorth" "[I", Cond.fieldLink RX7 25 "HallTables$Town" "worth" "[I", Cond.fieldLink RX7 28 "HallTables$Town" "minutes" "[I", Cond.fieldLink RX7 31 "HallTables$Town" "sells" "[I", Cond.fieldLink RX7 34 "HallTables$Town" "table" "[I", Cond.fieldLink RX7 37 "HallTables$Town" "home" "[I", Cond.fieldLink RX7 40 "HallTables$Town" "hand" "[I", Cond.fieldLink RX7 43 "HallTables$Town" "callMan" "[I", Cond.fieldLink RX7 46 "HallTables$Town" "callHouse" "[I", Cond.instanceMethod yX4_init, Cond.code yX4_init cX4_init 1 none, Cond.methodLink RX4 3 objectInit, Cond.fieldLink RX4 9 "HallTables$Stand" "at" "[I", Cond.fieldLink RX4 15 "HallTables$Stand" "hand" "[I", Cond.fieldLink RX4 18 "HallTables$Stand" "minutes" "[I", Cond.fieldLink RX4 21 "HallTables$Stand" "loss" "[I", Cond.fieldLink RX4 24 "HallTables$Stand" "table" "[I", Cond.instanceMethod yX8_init, Cond.code yX8_init cX8_init 1 none, Cond.methodLink RX8 3 objectInit, Cond.fieldLink RX8 11 "HallTables$Track" "man" "[I", Cond.fieldLink RX8 15 "HallTables$Track" "from" "[I", Cond.fieldLink RX8 18 "HallTables$Track" "sort" "[I", Cond.fieldLink RX8 21 "HallTables$Track" "minutes" "[I", Cond.instanceMethod yX10_init, Cond.code yX10_init cX10_init 1 none, Cond.methodLink RX10 5 objectInit, Cond.fieldLink RX10 11 "HallTables$Ways" "sums" "[I", Cond.fieldLink RX10 15 "HallTables$Ways" "together" "[I", Cond.classLink RX10 18 RX7, Cond.fieldLink RX10 21 "HallTables$Ways" "town" "LHallTables$Town;", Cond.fieldLink RX10 25 "HallTables$Ways" "codes" "[I", Cond.classLink RX10 28 RX2, Cond.instantiable RX2 4, Cond.initialized RX2, Cond.fieldLink RX10 31 "HallTables$Ways" "heap" "LHallTables$Heap;", Cond.fieldLink RX10 35 "HallTables$Heap" "key" "[J", Cond.fieldLink RX10 39 "HallTables$Ways" "key" "[J", Cond.fieldLink RX10 40 "HallTables$Ways" "order" "[I", Cond.fieldLink RX10 43 "HallTables$Ways" "good" "[B", Cond.instanceMethod yX2_init, Cond.code yX2_init cX2_init 1 none, Cond.methodLink RX2 3 objectInit, Cond.fieldLink RX2 11 "HallTables$Heap" "key" "[J", Cond.fieldLink RX2 17 "HallTables$Heap" "item" "[I", Cond.fieldLink RX2 21 "HallTables$Heap" "spot" "[I", Cond.instanceMethod yX3_init, Cond.code yX3_init cX3_init 1 none, Cond.methodLink RX3 3 objectInit, Cond.fieldLink RX3 9 "HallTables$Rounds" "here" "[I", Cond.fieldLink RX3 15 "HallTables$Rounds" "next" "[I", Cond.classLink RX3 18 RX7, Cond.fieldLink RX3 21 "HallTables$Rounds" "town" "LHallTables$Town;", Cond.instanceMethod yX1_init, Cond.code yX1_init cX1_init 1 none, Cond.methodLink RX1 3 objectInit, Cond.fieldLink RX1 9 "HallTables$Day" "stock" "[I", Cond.fieldLink RX1 15 "HallTables$Day" "unsent" "[I", Cond.fieldLink RX1 18 "HallTables$Day" "from" "[I", Cond.fieldLink RX1 21 "HallTables$Day" "to" "[I", Cond.fieldLink RX1 24 "HallTables$Day" "carries" "[I", Cond.fieldLink RX1 27 "HallTables$Day" "stay" "[I", Cond.fieldLink RX1 30 "HallTables$Day" "queue" "[I", Cond.fieldLink RX1 33 "HallTables$Day" "cameFrom" "[I", Cond.fieldLink RX1 36 "HallTables$Day" "leadsOn" "[I", Cond.instanceMethod yX0_init, Cond.code yX0_init cX0_init 1 none, Cond.methodLink RX0 3 objectInit, Cond.classLink RX0 9 RX4, Cond.fieldLink RX0 12 "HallTables$Chance" "stand" "LHallTables$Stand;", Cond.fieldLink RX0 18 "HallTables$Chance" "owedMan" "[I", Cond.fieldLink RX0 22 "HallTables$Chance" "owedHouse" "[I", Cond.instanceMethod yX9_init, Cond.code yX9_init cX9_init 1 none, Cond.methodLink RX9 3 objectInit, Cond.fieldLink RX9 11 "HallTables$Visits" "seenCell" "[I", Cond.fieldLink RX9 15 "HallTables$Visits" "seenMany" "[I", Cond.fieldLink RX9 18 "HallTables$Visits" "known" "[I", Cond.fieldLink RX9 21 "HallTables$Visits" "weight" "[I", Cond.fieldLink RX9 24 "HallTables$Visits" "here" "[J", Cond.fieldLink RX9 28 "HallTables$Visits" "after" "[J"] ++ wsX00 ++ wsX10 ++ wsX20 ++ wsX30 ++ wsX40 ++ wsX50 ++ wsX60 ++ wsX70 ++ wsX80 ++ wsX90 ++ wsX100 ++ wsX110)
def wsX12_appends : List Cond := .code yX12_appends cX12_appends 3 (some .long) :: ([Cond.constantLong RX12 212 (27)])
def wsX12_word : List Cond := .code yX12_word cX12_word 7 (some .long) :: ([Cond.methodLink RX12 198 yX12_appends, Cond.static yX12_appends, Cond.initialized RX12, Cond.code yX12_appends cX12_appends 3 (some .long), Cond.constantLong RX12 212 (27)])
def wsX12_init : List Cond := .code yX12_init cX12_init 1 none :: ([Cond.methodLink RX12 7 objectInit, Cond.instanceMethod objectInit, Cond.code objectInit ⟨#[0xb1]⟩ 1 none, Cond.arrayClass .byte, Cond.fieldLink RX12 13 "HallTablesModel" "tape" "[B", Cond.fieldLink RX12 17 "HallTablesModel" "text" "[B", Cond.arrayClass .int, Cond.fieldLink RX12 20 "HallTablesModel" "tKind" "[I", Cond.fieldLink RX12 24 "HallTablesModel" "tPlace" "[I", Cond.fieldLink RX12 27 "HallTablesModel" "tValue" "[I", Cond.arrayClass .long, Cond.fieldLink RX12 30 "HallTablesModel" "tName" "[J", Cond.fieldLink RX12 34 "HallTablesModel" "keys" "[J", Cond.fieldLink RX12 37 "HallTablesModel" "place" "I", Cond.fieldLink RX12 40 "HallTablesModel" "nameOf" "[J", Cond.fieldLink RX12 43 "HallTablesModel" "nameSort" "[I", Cond.fieldLink RX12 46 "HallTablesModel" "nameAt" "[I", Cond.fieldLink RX12 49 "HallTablesModel" "sorts" "[I", Cond.fieldLink RX12 52 "HallTablesModel" "plainWorth" "[I", Cond.fieldLink RX12 55 "HallTablesModel" "houses" "[I", Cond.fieldLink RX12 58 "HallTablesModel" "worthAt" "[I", Cond.fieldLink RX12 61 "HallTablesModel" "hallHas" "[I", Cond.arrayClass .boolean, Cond.fieldLink RX12 64 "HallTablesModel" "sells" "[Z", Cond.fieldLink RX12 68 "HallTablesModel" "doors" "[I", Cond.fieldLink RX12 71 "HallTablesModel" "minutes" "[I", Cond.fieldLink RX12 74 "HallTablesModel" "men" "[I", Cond.fieldLink RX12 77 "HallTablesModel" "home" "[I", Cond.fieldLink RX12 80 "HallTablesModel" "carries" "[I", Cond.fieldLink RX12 83 "HallTablesModel" "laws" "[I", Cond.fieldLink RX12 86 "HallTablesModel" "calls" "[I", Cond.fieldLink RX12 89 "HallTablesModel" "callMan" "[I", Cond.fieldLink RX12 92 "HallTablesModel" "callHouse" "[I", Cond.fieldLink RX12 95 "HallTablesModel" "now" "[I", Cond.fieldLink RX12 98 "HallTablesModel" "history" "[I", Cond.fieldLink RX12 101 "HallTablesModel" "best" "[J", Cond.fieldLink RX12 104 "HallTablesModel" "stepCode" "[I", Cond.fieldLink RX12 107 "HallTablesModel" "comes" "[Z", Cond.fieldLink RX12 110 "HallTablesModel" "pile" "[I", Cond.fieldLink RX12 113 "HallTablesModel" "gone" "[I", Cond.fieldLink RX12 116 "HallTablesModel" "goneThen" "[I", Cond.fieldLink RX12 119 "HallTablesModel" "listMan" "[I", Cond.fieldLink RX12 122 "HallTablesModel" "listHouse" "[I", Cond.fieldLink RX12 125 "HallTablesModel" "isUsed" "[Z", Cond.fieldLink RX12 128 "HallTablesModel" "waits" "[I", Cond.fieldLink RX12 131 "HallTablesModel" "cameFrom" "[I", Cond.fieldLink RX12 134 "HallTablesModel" "row" "[I", Cond.fieldLink RX12 137 "HallTablesModel" "pool" "[I", Cond.fieldLink RX12 140 "HallTablesModel" "taken" "[I", Cond.fieldLink RX12 143 "HallTablesModel" "place0" "[I", Cond.fieldLink RX12 146 "HallTablesModel" "holding" "[I", Cond.fieldLink RX12 149 "HallTablesModel" "owedMan" "[I", Cond.fieldLink RX12 152 "HallTablesModel" "owedHouse" "[I", Cond.fieldLink RX12 155 "HallTablesModel" "seenHouse" "[I", Cond.fieldLink RX12 158 "HallTablesModel" "seenSort" "[I", Cond.fieldLink RX12 161 "HallTablesModel" "seenMany" "[I", Cond.fieldLink RX12 164 "HallTablesModel" "need" "[I", Cond.fieldLink RX12 167 "HallTablesModel" "kindAt" "[I", Cond.fieldLink RX12 170 "HallTablesModel" "free" "[J", Cond.fieldLink RX12 173 "HallTablesModel" "freeThere" "[J", Cond.fieldLink RX12 176 "HallTablesModel" "canLeave" "[Z", Cond.fieldLink RX12 179 "HallTablesModel" "chosen" "[I", Cond.fieldLink RX12 182 "HallTablesModel" "fitThere" "[J", Cond.fieldLink RX12 185 "HallTablesModel" "met" "[I", Cond.fieldLink RX12 188 "HallTablesModel" "isHeld" "[Z", Cond.fieldLink RX12 191 "HallTablesModel" "held" "[I", Cond.methodLink RX12 194 yX12_word, Cond.static yX12_word, Cond.initialized RX12, Cond.code yX12_word cX12_word 7 (some .long), Cond.methodLink RX12 198 yX12_appends, Cond.static yX12_appends, Cond.code yX12_appends cX12_appends 3 (some .long), Cond.constantLong RX12 212 (27)] ++ wsX120)
theorem dJ0_charAt_5068e_0 : decode cJ0_charAt_5068e 0 = .ok (.aload_n 0, 1) := by decide +kernel
theorem dJ0_charAt_5068e_1 : decode cJ0_charAt_5068e 1 = .ok (.invokevirtual 492, 3) := by decide +kernel
theorem dJ0_charAt_5068e_4 : decode cJ0_charAt_5068e 4 = .ok (.ifCond .eq 12, 3) := by decide +kernel
theorem dJ0_charAt_5068e_7 : decode cJ0_charAt_5068e 7 = .ok (.aload_n 0, 1) := by decide +kernel
theorem dJ0_charAt_5068e_8 : decode cJ0_charAt_5068e 8 = .ok (.getfield 9, 3) := by decide +kernel
theorem dJ0_charAt_5068e_11 : decode cJ0_charAt_5068e 11 = .ok (.iload_n 1, 1) := by decide +kernel
theorem dJ0_charAt_5068e_12 : decode cJ0_charAt_5068e 12 = .ok (.invokestatic 495, 3) := by decide +kernel
theorem dJ0_charAt_5068e_15 : decode cJ0_charAt_5068e 15 = .ok (.ireturn, 1) := by decide +kernel
theorem dJ0_checkIndex_df160_0 : decode cJ0_checkIndex_df160 0 = .ok (.iload_n 0, 1) := by decide +kernel
theorem dJ0_checkIndex_df160_1 : decode cJ0_checkIndex_df160 1 = .ok (.iload_n 1, 1) := by decide +kernel
theorem dJ0_checkIndex_df160_2 : decode cJ0_checkIndex_df160 2 = .ok (.getstatic 1053, 3) := by decide +kernel
theorem dJ0_checkIndex_df160_5 : decode cJ0_checkIndex_df160 5 = .ok (.invokestatic 1059, 3) := by decide +kernel
theorem dJ0_checkIndex_df160_8 : decode cJ0_checkIndex_df160 8 = .ok (.pop, 1) := by decide +kernel
theorem dJ0_checkIndex_df160_9 : decode cJ0_checkIndex_df160 9 = .ok (.return_, 1) := by decide +kernel
theorem dJ0_coder_7d493_0 : decode cJ0_coder_7d493 0 = .ok (.getstatic 38, 3) := by decide +kernel
theorem dJ0_coder_7d493_3 : decode cJ0_coder_7d493 3 = .ok (.ifCond .eq 10, 3) := by decide +kernel
theorem dJ0_coder_7d493_6 : decode cJ0_coder_7d493 6 = .ok (.aload_n 0, 1) := by decide +kernel
theorem dJ0_coder_7d493_7 : decode cJ0_coder_7d493 7 = .ok (.getfield 15, 3) := by decide +kernel
theorem dJ0_coder_7d493_10 : decode cJ0_coder_7d493 10 = .ok (.goto 4, 3) := by decide +kernel
theorem dJ0_coder_7d493_14 : decode cJ0_coder_7d493 14 = .ok (.ireturn, 1) := by decide +kernel
theorem dJ0_isLatin1_aae02_0 : decode cJ0_isLatin1_aae02 0 = .ok (.getstatic 38, 3) := by decide +kernel
theorem dJ0_isLatin1_aae02_3 : decode cJ0_isLatin1_aae02 3 = .ok (.ifCond .eq 14, 3) := by decide +kernel
theorem dJ0_isLatin1_aae02_6 : decode cJ0_isLatin1_aae02 6 = .ok (.aload_n 0, 1) := by decide +kernel
theorem dJ0_isLatin1_aae02_7 : decode cJ0_isLatin1_aae02 7 = .ok (.getfield 15, 3) := by decide +kernel
theorem dJ0_isLatin1_aae02_10 : decode cJ0_isLatin1_aae02 10 = .ok (.ifCond .ne 7, 3) := by decide +kernel
theorem dJ0_isLatin1_aae02_13 : decode cJ0_isLatin1_aae02 13 = .ok (.iconst 1, 1) := by decide +kernel
theorem dJ0_isLatin1_aae02_14 : decode cJ0_isLatin1_aae02 14 = .ok (.goto 4, 3) := by decide +kernel
theorem dJ0_isLatin1_aae02_18 : decode cJ0_isLatin1_aae02 18 = .ok (.ireturn, 1) := by decide +kernel
theorem dJ0_length_8abf5_0 : decode cJ0_length_8abf5 0 = .ok (.aload_n 0, 1) := by decide +kernel
theorem dJ0_length_8abf5_1 : decode cJ0_length_8abf5 1 = .ok (.getfield 9, 3) := by decide +kernel
theorem dJ0_length_8abf5_4 : decode cJ0_length_8abf5 4 = .ok (.arraylength, 1) := by decide +kernel
theorem dJ0_length_8abf5_5 : decode cJ0_length_8abf5 5 = .ok (.aload_n 0, 1) := by decide +kernel
theorem dJ0_length_8abf5_6 : decode cJ0_length_8abf5 6 = .ok (.invokevirtual 335, 3) := by decide +kernel
theorem dJ0_length_8abf5_9 : decode cJ0_length_8abf5 9 = .ok (.ishr, 1) := by decide +kernel
theorem dJ0_length_8abf5_10 : decode cJ0_length_8abf5 10 = .ok (.ireturn, 1) := by decide +kernel
theorem dJ1_charAt_3b067_0 : decode cJ1_charAt_3b067 0 = .ok (.iload_n 1, 1) := by decide +kernel
theorem dJ1_charAt_3b067_1 : decode cJ1_charAt_3b067 1 = .ok (.aload_n 0, 1) := by decide +kernel
theorem dJ1_charAt_3b067_2 : decode cJ1_charAt_3b067 2 = .ok (.arraylength, 1) := by decide +kernel
theorem dJ1_charAt_3b067_3 : decode cJ1_charAt_3b067 3 = .ok (.invokestatic 9, 3) := by decide +kernel
theorem dJ1_charAt_3b067_6 : decode cJ1_charAt_3b067 6 = .ok (.aload_n 0, 1) := by decide +kernel
theorem dJ1_charAt_3b067_7 : decode cJ1_charAt_3b067 7 = .ok (.iload_n 1, 1) := by decide +kernel
theorem dJ1_charAt_3b067_8 : decode cJ1_charAt_3b067 8 = .ok (.baload, 1) := by decide +kernel
theorem dJ1_charAt_3b067_9 : decode cJ1_charAt_3b067 9 = .ok (.sipush 255, 3) := by decide +kernel
theorem dJ1_charAt_3b067_12 : decode cJ1_charAt_3b067 12 = .ok (.iand, 1) := by decide +kernel
theorem dJ1_charAt_3b067_13 : decode cJ1_charAt_3b067 13 = .ok (.i2c, 1) := by decide +kernel
theorem dJ1_charAt_3b067_14 : decode cJ1_charAt_3b067 14 = .ok (.ireturn, 1) := by decide +kernel
theorem dJ3_checkIndex_8e157_0 : decode cJ3_checkIndex_8e157 0 = .ok (.iload_n 0, 1) := by decide +kernel
theorem dJ3_checkIndex_8e157_1 : decode cJ3_checkIndex_8e157 1 = .ok (.ifCond .lt 8, 3) := by decide +kernel
theorem dJ3_checkIndex_8e157_4 : decode cJ3_checkIndex_8e157 4 = .ok (.iload_n 0, 1) := by decide +kernel
theorem dJ3_checkIndex_8e157_5 : decode cJ3_checkIndex_8e157 5 = .ok (.iload_n 1, 1) := by decide +kernel
theorem dJ3_checkIndex_8e157_6 : decode cJ3_checkIndex_8e157 6 = .ok (.if_icmp .lt 10, 3) := by decide +kernel
theorem dJ3_checkIndex_8e157_16 : decode cJ3_checkIndex_8e157 16 = .ok (.iload_n 0, 1) := by decide +kernel
theorem dJ3_checkIndex_8e157_17 : decode cJ3_checkIndex_8e157 17 = .ok (.ireturn, 1) := by decide +kernel
theorem dJ7_fill_53178_0 : decode cJ7_fill_53178 0 = .ok (.iconst 0, 1) := by decide +kernel
theorem dJ7_fill_53178_1 : decode cJ7_fill_53178 1 = .ok (.istore_n 2, 1) := by decide +kernel
theorem dJ7_fill_53178_2 : decode cJ7_fill_53178 2 = .ok (.aload_n 0, 1) := by decide +kernel
theorem dJ7_fill_53178_3 : decode cJ7_fill_53178 3 = .ok (.arraylength, 1) := by decide +kernel
theorem dJ7_fill_53178_4 : decode cJ7_fill_53178 4 = .ok (.istore_n 3, 1) := by decide +kernel
theorem dJ7_fill_53178_5 : decode cJ7_fill_53178 5 = .ok (.iload_n 2, 1) := by decide +kernel
theorem dJ7_fill_53178_6 : decode cJ7_fill_53178 6 = .ok (.iload_n 3, 1) := by decide +kernel
theorem dJ7_fill_53178_7 : decode cJ7_fill_53178 7 = .ok (.if_icmp .ge 13, 3) := by decide +kernel
theorem dJ7_fill_53178_10 : decode cJ7_fill_53178 10 = .ok (.aload_n 0, 1) := by decide +kernel
theorem dJ7_fill_53178_11 : decode cJ7_fill_53178 11 = .ok (.iload_n 2, 1) := by decide +kernel
theorem dJ7_fill_53178_12 : decode cJ7_fill_53178 12 = .ok (.iload_n 1, 1) := by decide +kernel
theorem dJ7_fill_53178_13 : decode cJ7_fill_53178 13 = .ok (.iastore, 1) := by decide +kernel
theorem dJ7_fill_53178_14 : decode cJ7_fill_53178 14 = .ok (.iinc 2 1, 3) := by decide +kernel
theorem dJ7_fill_53178_17 : decode cJ7_fill_53178 17 = .ok (.goto (-12), 3) := by decide +kernel
theorem dJ7_fill_53178_20 : decode cJ7_fill_53178 20 = .ok (.return_, 1) := by decide +kernel
theorem dJ7_fill_d0a16_0 : decode cJ7_fill_d0a16 0 = .ok (.iconst 0, 1) := by decide +kernel
theorem dJ7_fill_d0a16_1 : decode cJ7_fill_d0a16 1 = .ok (.istore_n 3, 1) := by decide +kernel
theorem dJ7_fill_d0a16_2 : decode cJ7_fill_d0a16 2 = .ok (.aload_n 0, 1) := by decide +kernel
theorem dJ7_fill_d0a16_3 : decode cJ7_fill_d0a16 3 = .ok (.arraylength, 1) := by decide +kernel
theorem dJ7_fill_d0a16_4 : decode cJ7_fill_d0a16 4 = .ok (.istore 4, 2) := by decide +kernel
theorem dJ7_fill_d0a16_6 : decode cJ7_fill_d0a16 6 = .ok (.iload_n 3, 1) := by decide +kernel
theorem dJ7_fill_d0a16_7 : decode cJ7_fill_d0a16 7 = .ok (.iload 4, 2) := by decide +kernel
theorem dJ7_fill_d0a16_9 : decode cJ7_fill_d0a16 9 = .ok (.if_icmp .ge 13, 3) := by decide +kernel
theorem dJ7_fill_d0a16_12 : decode cJ7_fill_d0a16 12 = .ok (.aload_n 0, 1) := by decide +kernel
theorem dJ7_fill_d0a16_13 : decode cJ7_fill_d0a16 13 = .ok (.iload_n 3, 1) := by decide +kernel
theorem dJ7_fill_d0a16_14 : decode cJ7_fill_d0a16 14 = .ok (.lload_n 1, 1) := by decide +kernel
theorem dJ7_fill_d0a16_15 : decode cJ7_fill_d0a16 15 = .ok (.lastore, 1) := by decide +kernel
theorem dJ7_fill_d0a16_16 : decode cJ7_fill_d0a16 16 = .ok (.iinc 3 1, 3) := by decide +kernel
theorem dJ7_fill_d0a16_19 : decode cJ7_fill_d0a16 19 = .ok (.goto (-13), 3) := by decide +kernel
theorem dJ7_fill_d0a16_22 : decode cJ7_fill_d0a16 22 = .ok (.return_, 1) := by decide +kernel
theorem dX0_init_0 : decode cX0_init 0 = .ok (.aload_n 0, 1) := by decide +kernel
theorem dX0_init_1 : decode cX0_init 1 = .ok (.invokespecial 3, 3) := by decide +kernel
theorem dX0_init_4 : decode cX0_init 4 = .ok (.aload_n 0, 1) := by decide +kernel
theorem dX0_init_5 : decode cX0_init 5 = .ok (.new 9, 3) := by decide +kernel
theorem dX0_init_8 : decode cX0_init 8 = .ok (.dup, 1) := by decide +kernel
theorem dX0_init_9 : decode cX0_init 9 = .ok (.invokespecial 11, 3) := by decide +kernel
theorem dX0_init_12 : decode cX0_init 12 = .ok (.putfield 12, 3) := by decide +kernel
theorem dX0_init_15 : decode cX0_init 15 = .ok (.aload_n 0, 1) := by decide +kernel
theorem dX0_init_16 : decode cX0_init 16 = .ok (.bipush 110, 2) := by decide +kernel
theorem dX0_init_18 : decode cX0_init 18 = .ok (.newarray .int, 2) := by decide +kernel
theorem dX0_init_20 : decode cX0_init 20 = .ok (.putfield 18, 3) := by decide +kernel
theorem dX0_init_23 : decode cX0_init 23 = .ok (.aload_n 0, 1) := by decide +kernel
theorem dX0_init_24 : decode cX0_init 24 = .ok (.bipush 110, 2) := by decide +kernel
theorem dX0_init_26 : decode cX0_init 26 = .ok (.newarray .int, 2) := by decide +kernel
theorem dX0_init_28 : decode cX0_init 28 = .ok (.putfield 22, 3) := by decide +kernel
theorem dX0_init_31 : decode cX0_init 31 = .ok (.return_, 1) := by decide +kernel
theorem dX0_live_0 : decode cX0_live 0 = .ok (.aload_n 0, 1) := by decide +kernel
theorem dX0_live_1 : decode cX0_live 1 = .ok (.getfield 12, 3) := by decide +kernel
theorem dX0_live_4 : decode cX0_live 4 = .ok (.aload_n 2, 1) := by decide +kernel
theorem dX0_live_5 : decode cX0_live 5 = .ok (.invokevirtual 30, 3) := by decide +kernel
theorem dX0_live_8 : decode cX0_live 8 = .ok (.aload_n 0, 1) := by decide +kernel
theorem dX0_live_9 : decode cX0_live 9 = .ok (.iconst 0, 1) := by decide +kernel
theorem dX0_live_10 : decode cX0_live 10 = .ok (.putfield 34, 3) := by decide +kernel
theorem dX0_live_13 : decode cX0_live 13 = .ok (.aload_n 0, 1) := by decide +kernel
theorem dX0_live_14 : decode cX0_live 14 = .ok (.iconst 0, 1) := by decide +kernel
theorem dX0_live_15 : decode cX0_live 15 = .ok (.putfield 38, 3) := by decide +kernel
theorem dX0_live_18 : decode cX0_live 18 = .ok (.iconst 0, 1) := by decide +kernel
theorem dX0_live_19 : decode cX0_live 19 = .ok (.istore 5, 2) := by decide +kernel
theorem dX0_live_21 : decode cX0_live 21 = .ok (.iload 5, 2) := by decide +kernel
theorem dX0_live_23 : decode cX0_live 23 = .ok (.iload 4, 2) := by decide +kernel
theorem dX0_live_25 : decode cX0_live 25 = .ok (.if_icmp .ge 91, 3) := by decide +kernel
theorem dX0_live_28 : decode cX0_live 28 = .ok (.iconst 0, 1) := by decide +kernel
theorem dX0_live_29 : decode cX0_live 29 = .ok (.istore 6, 2) := by decide +kernel
theorem dX0_live_31 : decode cX0_live 31 = .ok (.iload 6, 2) := by decide +kernel
theorem dX0_live_33 : decode cX0_live 33 = .ok (.aload_n 1, 1) := by decide +kernel
theorem dX0_live_34 : decode cX0_live 34 = .ok (.getfield 41, 3) := by decide +kernel
theorem dX0_live_37 : decode cX0_live 37 = .ok (.if_icmp .ge 73, 3) := by decide +kernel
theorem dX0_live_110 : decode cX0_live 110 = .ok (.iinc 5 1, 3) := by decide +kernel
theorem dX0_live_113 : decode cX0_live 113 = .ok (.goto (-92), 3) := by decide +kernel
theorem dX0_live_116 : decode cX0_live 116 = .ok (.return_, 1) := by decide +kernel
theorem dX0_payAll_0 : decode cX0_payAll 0 = .ok (.aload_n 0, 1) := by decide +kernel
theorem dX0_payAll_1 : decode cX0_payAll 1 = .ok (.getfield 12, 3) := by decide +kernel
theorem dX0_payAll_4 : decode cX0_payAll 4 = .ok (.aload_n 1, 1) := by decide +kernel
theorem dX0_payAll_5 : decode cX0_payAll 5 = .ok (.invokevirtual 87, 3) := by decide +kernel
theorem dX0_payAll_8 : decode cX0_payAll 8 = .ok (.aload_n 0, 1) := by decide +kernel
theorem dX0_payAll_9 : decode cX0_payAll 9 = .ok (.iconst 0, 1) := by decide +kernel
theorem dX0_payAll_10 : decode cX0_payAll 10 = .ok (.putfield 34, 3) := by decide +kernel
theorem dX0_payAll_13 : decode cX0_payAll 13 = .ok (.aload_n 0, 1) := by decide +kernel
theorem dX0_payAll_14 : decode cX0_payAll 14 = .ok (.iconst 0, 1) := by decide +kernel
theorem dX0_payAll_15 : decode cX0_payAll 15 = .ok (.putfield 38, 3) := by decide +kernel
theorem dX0_payAll_18 : decode cX0_payAll 18 = .ok (.aload_n 0, 1) := by decide +kernel
theorem dX0_payAll_19 : decode cX0_payAll 19 = .ok (.iconst 0, 1) := by decide +kernel
theorem dX0_payAll_20 : decode cX0_payAll 20 = .ok (.putfield 91, 3) := by decide +kernel
theorem dX0_payAll_23 : decode cX0_payAll 23 = .ok (.aload_n 0, 1) := by decide +kernel
theorem dX0_payAll_24 : decode cX0_payAll 24 = .ok (.iconst 0, 1) := by decide +kernel
theorem dX0_payAll_25 : decode cX0_payAll 25 = .ok (.putfield 94, 3) := by decide +kernel
theorem dX0_payAll_28 : decode cX0_payAll 28 = .ok (.iconst 0, 1) := by decide +kernel
theorem dX0_payAll_29 : decode cX0_payAll 29 = .ok (.istore_n 2, 1) := by decide +kernel
theorem dX0_payAll_30 : decode cX0_payAll 30 = .ok (.iload_n 2, 1) := by decide +kernel
theorem dX0_payAll_31 : decode cX0_payAll 31 = .ok (.aload_n 1, 1) := by decide +kernel
theorem dX0_payAll_32 : decode cX0_payAll 32 = .ok (.getfield 97, 3) := by decide +kernel
theorem dX0_payAll_35 : decode cX0_payAll 35 = .ok (.if_icmp .ge 25, 3) := by decide +kernel
theorem dX0_payAll_60 : decode cX0_payAll 60 = .ok (.iconst 0, 1) := by decide +kernel
theorem dX0_payAll_61 : decode cX0_payAll 61 = .ok (.istore_n 2, 1) := by decide +kernel
theorem dX0_payAll_62 : decode cX0_payAll 62 = .ok (.iload_n 2, 1) := by decide +kernel
theorem dX0_payAll_63 : decode cX0_payAll 63 = .ok (.aload_n 0, 1) := by decide +kernel
theorem dX0_payAll_64 : decode cX0_payAll 64 = .ok (.getfield 94, 3) := by decide +kernel
theorem dX0_payAll_67 : decode cX0_payAll 67 = .ok (.if_icmp .ge 32, 3) := by decide +kernel
theorem dX0_payAll_99 : decode cX0_payAll 99 = .ok (.return_, 1) := by decide +kernel
theorem dX10_forgetLast_0 : decode cX10_forgetLast 0 = .ok (.aload_n 0, 1) := by decide +kernel
theorem dX10_forgetLast_1 : decode cX10_forgetLast 1 = .ok (.iconst 0, 1) := by decide +kernel
theorem dX10_forgetLast_2 : decode cX10_forgetLast 2 = .ok (.putfield 47, 3) := by decide +kernel
theorem dX10_forgetLast_5 : decode cX10_forgetLast 5 = .ok (.return_, 1) := by decide +kernel
theorem dX10_init_0 : decode cX10_init 0 = .ok (.aload_n 0, 1) := by decide +kernel
theorem dX10_init_1 : decode cX10_init 1 = .ok (.invokespecial 5, 3) := by decide +kernel
theorem dX10_init_4 : decode cX10_init 4 = .ok (.aload_n 0, 1) := by decide +kernel
theorem dX10_init_5 : decode cX10_init 5 = .ok (.iconst 4, 1) := by decide +kernel
theorem dX10_init_6 : decode cX10_init 6 = .ok (.newarray .int, 2) := by decide +kernel
theorem dX10_init_8 : decode cX10_init 8 = .ok (.putfield 11, 3) := by decide +kernel
theorem dX10_init_11 : decode cX10_init 11 = .ok (.aload_n 0, 1) := by decide +kernel
theorem dX10_init_12 : decode cX10_init 12 = .ok (.bipush 10, 2) := by decide +kernel
theorem dX10_init_14 : decode cX10_init 14 = .ok (.newarray .int, 2) := by decide +kernel
theorem dX10_init_16 : decode cX10_init 16 = .ok (.putfield 15, 3) := by decide +kernel
theorem dX10_init_19 : decode cX10_init 19 = .ok (.aload_n 0, 1) := by decide +kernel
theorem dX10_init_20 : decode cX10_init 20 = .ok (.new 18, 3) := by decide +kernel
theorem dX10_init_23 : decode cX10_init 23 = .ok (.dup, 1) := by decide +kernel
theorem dX10_init_24 : decode cX10_init 24 = .ok (.invokespecial 20, 3) := by decide +kernel
theorem dX10_init_27 : decode cX10_init 27 = .ok (.putfield 21, 3) := by decide +kernel
theorem dX10_init_30 : decode cX10_init 30 = .ok (.aload_n 0, 1) := by decide +kernel
theorem dX10_init_31 : decode cX10_init 31 = .ok (.bipush 55, 2) := by decide +kernel
theorem dX10_init_33 : decode cX10_init 33 = .ok (.newarray .int, 2) := by decide +kernel
theorem dX10_init_35 : decode cX10_init 35 = .ok (.putfield 25, 3) := by decide +kernel
theorem dX10_init_38 : decode cX10_init 38 = .ok (.aload_n 0, 1) := by decide +kernel
theorem dX10_init_39 : decode cX10_init 39 = .ok (.new 28, 3) := by decide +kernel
theorem dX10_init_42 : decode cX10_init 42 = .ok (.dup, 1) := by decide +kernel
theorem dX10_init_43 : decode cX10_init 43 = .ok (.invokespecial 30, 3) := by decide +kernel
theorem dX10_init_46 : decode cX10_init 46 = .ok (.putfield 31, 3) := by decide +kernel
theorem dX10_init_49 : decode cX10_init 49 = .ok (.aload_n 0, 1) := by decide +kernel
theorem dX10_init_50 : decode cX10_init 50 = .ok (.aload_n 0, 1) := by decide +kernel
theorem dX10_init_51 : decode cX10_init 51 = .ok (.getfield 31, 3) := by decide +kernel
theorem dX10_init_54 : decode cX10_init 54 = .ok (.getfield 35, 3) := by decide +kernel
theorem dX10_init_57 : decode cX10_init 57 = .ok (.putfield 39, 3) := by decide +kernel
theorem dX10_init_60 : decode cX10_init 60 = .ok (.aload_n 0, 1) := by decide +kernel
theorem dX10_init_61 : decode cX10_init 61 = .ok (.sipush 10240, 3) := by decide +kernel
theorem dX10_init_64 : decode cX10_init 64 = .ok (.newarray .int, 2) := by decide +kernel
theorem dX10_init_66 : decode cX10_init 66 = .ok (.putfield 40, 3) := by decide +kernel
theorem dX10_init_69 : decode cX10_init 69 = .ok (.aload_n 0, 1) := by decide +kernel
theorem dX10_init_70 : decode cX10_init 70 = .ok (.sipush 10240, 3) := by decide +kernel
theorem dX10_init_73 : decode cX10_init 73 = .ok (.newarray .byte, 2) := by decide +kernel
theorem dX10_init_75 : decode cX10_init 75 = .ok (.putfield 43, 3) := by decide +kernel
theorem dX10_init_78 : decode cX10_init 78 = .ok (.return_, 1) := by decide +kernel
theorem dX11_back_0 : decode cX11_back 0 = .ok (.iload_n 1, 1) := by decide +kernel
theorem dX11_back_1 : decode cX11_back 1 = .ok (.ifCond .lt 14, 3) := by decide +kernel
theorem dX11_back_4 : decode cX11_back 4 = .ok (.iload_n 1, 1) := by decide +kernel
theorem dX11_back_5 : decode cX11_back 5 = .ok (.aload_n 0, 1) := by decide +kernel
theorem dX11_back_6 : decode cX11_back 6 = .ok (.getfield 20, 3) := by decide +kernel
theorem dX11_back_9 : decode cX11_back 9 = .ok (.getfield 91, 3) := by decide +kernel
theorem dX11_back_12 : decode cX11_back 12 = .ok (.if_icmp .le 5, 3) := by decide +kernel
theorem dX11_back_15 : decode cX11_back 15 = .ok (.iconst (-1), 1) := by decide +kernel
theorem dX11_back_16 : decode cX11_back 16 = .ok (.ireturn, 1) := by decide +kernel
theorem dX11_back_17 : decode cX11_back 17 = .ok (.aload_n 0, 1) := by decide +kernel
theorem dX11_back_18 : decode cX11_back 18 = .ok (.getfield 20, 3) := by decide +kernel
theorem dX11_back_21 : decode cX11_back 21 = .ok (.dup, 1) := by decide +kernel
theorem dX11_back_22 : decode cX11_back 22 = .ok (.getfield 91, 3) := by decide +kernel
theorem dX11_back_25 : decode cX11_back 25 = .ok (.iload_n 1, 1) := by decide +kernel
theorem dX11_back_26 : decode cX11_back 26 = .ok (.isub, 1) := by decide +kernel
theorem dX11_back_27 : decode cX11_back 27 = .ok (.putfield 91, 3) := by decide +kernel
theorem dX11_back_30 : decode cX11_back 30 = .ok (.aload_n 0, 1) := by decide +kernel
theorem dX11_back_31 : decode cX11_back 31 = .ok (.getfield 20, 3) := by decide +kernel
theorem dX11_back_34 : decode cX11_back 34 = .ok (.getfield 91, 3) := by decide +kernel
theorem dX11_back_37 : decode cX11_back 37 = .ok (.ireturn, 1) := by decide +kernel
theorem dX11_buy_0 : decode cX11_buy 0 = .ok (.aload_n 0, 1) := by decide +kernel
theorem dX11_buy_1 : decode cX11_buy 1 = .ok (.getfield 77, 3) := by decide +kernel
theorem dX11_buy_4 : decode cX11_buy 4 = .ok (.iload_n 1, 1) := by decide +kernel
theorem dX11_buy_5 : decode cX11_buy 5 = .ok (.invokevirtual 152, 3) := by decide +kernel
theorem dX11_buy_8 : decode cX11_buy 8 = .ok (.ifCond .eq 14, 3) := by decide +kernel
theorem dX11_buy_22 : decode cX11_buy 22 = .ok (.iconst (-1), 1) := by decide +kernel
theorem dX11_buy_23 : decode cX11_buy 23 = .ok (.ireturn, 1) := by decide +kernel
theorem dX11_carried_0 : decode cX11_carried 0 = .ok (.aload_n 0, 1) := by decide +kernel
theorem dX11_carried_1 : decode cX11_carried 1 = .ok (.getfield 77, 3) := by decide +kernel
theorem dX11_carried_4 : decode cX11_carried 4 = .ok (.iload_n 1, 1) := by decide +kernel
theorem dX11_carried_5 : decode cX11_carried 5 = .ok (.invokevirtual 136, 3) := by decide +kernel
theorem dX11_carried_8 : decode cX11_carried 8 = .ok (.ifCond .eq 14, 3) := by decide +kernel
theorem dX11_carried_22 : decode cX11_carried 22 = .ok (.iconst (-1), 1) := by decide +kernel
theorem dX11_carried_23 : decode cX11_carried 23 = .ok (.ireturn, 1) := by decide +kernel
theorem dX11_count_0 : decode cX11_count 0 = .ok (.iload_n 1, 1) := by decide +kernel
theorem dX11_count_1 : decode cX11_count 1 = .ok (.tableswitch 156 0 11 #[63, 71, 79, 87, 95, 103, 111, 119, 127, 135, 140, 148], 63) := by decide +kernel
theorem dX11_count_64 : decode cX11_count 64 = .ok (.aload_n 0, 1) := by decide +kernel
theorem dX11_count_65 : decode cX11_count 65 = .ok (.getfield 77, 3) := by decide +kernel
theorem dX11_count_68 : decode cX11_count 68 = .ok (.getfield 251, 3) := by decide +kernel
theorem dX11_count_71 : decode cX11_count 71 = .ok (.ireturn, 1) := by decide +kernel
theorem dX11_count_72 : decode cX11_count 72 = .ok (.aload_n 0, 1) := by decide +kernel
theorem dX11_count_73 : decode cX11_count 73 = .ok (.getfield 77, 3) := by decide +kernel
theorem dX11_count_76 : decode cX11_count 76 = .ok (.getfield 245, 3) := by decide +kernel
theorem dX11_count_79 : decode cX11_count 79 = .ok (.ireturn, 1) := by decide +kernel
theorem dX11_count_80 : decode cX11_count 80 = .ok (.aload_n 0, 1) := by decide +kernel
theorem dX11_count_81 : decode cX11_count 81 = .ok (.getfield 77, 3) := by decide +kernel
theorem dX11_count_84 : decode cX11_count 84 = .ok (.getfield 323, 3) := by decide +kernel
theorem dX11_count_87 : decode cX11_count 87 = .ok (.ireturn, 1) := by decide +kernel
theorem dX11_count_88 : decode cX11_count 88 = .ok (.aload_n 0, 1) := by decide +kernel
theorem dX11_count_89 : decode cX11_count 89 = .ok (.getfield 77, 3) := by decide +kernel
theorem dX11_count_92 : decode cX11_count 92 = .ok (.getfield 316, 3) := by decide +kernel
theorem dX11_count_95 : decode cX11_count 95 = .ok (.ireturn, 1) := by decide +kernel
theorem dX11_count_96 : decode cX11_count 96 = .ok (.aload_n 0, 1) := by decide +kernel
theorem dX11_count_97 : decode cX11_count 97 = .ok (.getfield 77, 3) := by decide +kernel
theorem dX11_count_100 : decode cX11_count 100 = .ok (.getfield 326, 3) := by decide +kernel
theorem dX11_count_103 : decode cX11_count 103 = .ok (.ireturn, 1) := by decide +kernel
theorem dX11_count_104 : decode cX11_count 104 = .ok (.aload_n 0, 1) := by decide +kernel
theorem dX11_count_105 : decode cX11_count 105 = .ok (.getfield 77, 3) := by decide +kernel
theorem dX11_count_108 : decode cX11_count 108 = .ok (.getfield 329, 3) := by decide +kernel
theorem dX11_count_111 : decode cX11_count 111 = .ok (.ireturn, 1) := by decide +kernel
theorem dX11_count_112 : decode cX11_count 112 = .ok (.aload_n 0, 1) := by decide +kernel
theorem dX11_count_113 : decode cX11_count 113 = .ok (.getfield 20, 3) := by decide +kernel
theorem dX11_count_116 : decode cX11_count 116 = .ok (.getfield 91, 3) := by decide +kernel
theorem dX11_count_119 : decode cX11_count 119 = .ok (.ireturn, 1) := by decide +kernel
theorem dX11_count_120 : decode cX11_count 120 = .ok (.aload_n 0, 1) := by decide +kernel
theorem dX11_count_121 : decode cX11_count 121 = .ok (.getfield 35, 3) := by decide +kernel
theorem dX11_count_124 : decode cX11_count 124 = .ok (.getfield 332, 3) := by decide +kernel
theorem dX11_count_127 : decode cX11_count 127 = .ok (.ireturn, 1) := by decide +kernel
theorem dX11_count_128 : decode cX11_count 128 = .ok (.aload_n 0, 1) := by decide +kernel
theorem dX11_count_129 : decode cX11_count 129 = .ok (.getfield 70, 3) := by decide +kernel
theorem dX11_count_132 : decode cX11_count 132 = .ok (.getfield 301, 3) := by decide +kernel
theorem dX11_count_135 : decode cX11_count 135 = .ok (.ireturn, 1) := by decide +kernel
theorem dX11_count_136 : decode cX11_count 136 = .ok (.aload_n 0, 1) := by decide +kernel
theorem dX11_count_137 : decode cX11_count 137 = .ok (.invokevirtual 335, 3) := by decide +kernel
theorem dX11_count_140 : decode cX11_count 140 = .ok (.ireturn, 1) := by decide +kernel
theorem dX11_count_141 : decode cX11_count 141 = .ok (.aload_n 0, 1) := by decide +kernel
theorem dX11_count_142 : decode cX11_count 142 = .ok (.getfield 24, 3) := by decide +kernel
theorem dX11_count_145 : decode cX11_count 145 = .ok (.invokevirtual 338, 3) := by decide +kernel
theorem dX11_count_148 : decode cX11_count 148 = .ok (.ireturn, 1) := by decide +kernel
theorem dX11_count_149 : decode cX11_count 149 = .ok (.aload_n 0, 1) := by decide +kernel
theorem dX11_count_150 : decode cX11_count 150 = .ok (.getfield 24, 3) := by decide +kernel
theorem dX11_count_153 : decode cX11_count 153 = .ok (.invokevirtual 284, 3) := by decide +kernel
theorem dX11_count_156 : decode cX11_count 156 = .ok (.ireturn, 1) := by decide +kernel
theorem dX11_count_157 : decode cX11_count 157 = .ok (.iconst (-1), 1) := by decide +kernel
theorem dX11_count_158 : decode cX11_count 158 = .ok (.ireturn, 1) := by decide +kernel
theorem dX11_door_0 : decode cX11_door 0 = .ok (.aload_n 0, 1) := by decide +kernel
theorem dX11_door_1 : decode cX11_door 1 = .ok (.getfield 77, 3) := by decide +kernel
theorem dX11_door_4 : decode cX11_door 4 = .ok (.iload_n 1, 1) := by decide +kernel
theorem dX11_door_5 : decode cX11_door 5 = .ok (.invokevirtual 129, 3) := by decide +kernel
theorem dX11_door_8 : decode cX11_door 8 = .ok (.ifCond .eq 19, 3) := by decide +kernel
theorem dX11_door_27 : decode cX11_door 27 = .ok (.iconst (-1), 1) := by decide +kernel
theorem dX11_door_28 : decode cX11_door 28 = .ok (.ireturn, 1) := by decide +kernel
theorem dX11_feed_0 : decode cX11_feed 0 = .ok (.aload_n 0, 1) := by decide +kernel
theorem dX11_feed_1 : decode cX11_feed 1 = .ok (.getfield 20, 3) := by decide +kernel
theorem dX11_feed_4 : decode cX11_feed 4 = .ok (.bipush 20, 2) := by decide +kernel
theorem dX11_feed_6 : decode cX11_feed 6 = .ok (.invokevirtual 81, 3) := by decide +kernel
theorem dX11_feed_9 : decode cX11_feed 9 = .ok (.ifCond .ne 5, 3) := by decide +kernel
theorem dX11_feed_14 : decode cX11_feed 14 = .ok (.aload_n 0, 1) := by decide +kernel
theorem dX11_feed_15 : decode cX11_feed 15 = .ok (.getfield 20, 3) := by decide +kernel
theorem dX11_feed_18 : decode cX11_feed 18 = .ok (.iload_n 1, 1) := by decide +kernel
theorem dX11_feed_19 : decode cX11_feed 19 = .ok (.invokevirtual 87, 3) := by decide +kernel
theorem dX11_feed_22 : decode cX11_feed 22 = .ok (.aload_n 0, 1) := by decide +kernel
theorem dX11_feed_23 : decode cX11_feed 23 = .ok (.getfield 20, 3) := by decide +kernel
theorem dX11_feed_26 : decode cX11_feed 26 = .ok (.iload_n 2, 1) := by decide +kernel
theorem dX11_feed_27 : decode cX11_feed 27 = .ok (.invokevirtual 87, 3) := by decide +kernel
theorem dX11_feed_30 : decode cX11_feed 30 = .ok (.aload_n 0, 1) := by decide +kernel
theorem dX11_feed_31 : decode cX11_feed 31 = .ok (.getfield 20, 3) := by decide +kernel
theorem dX11_feed_34 : decode cX11_feed 34 = .ok (.iload_n 3, 1) := by decide +kernel
theorem dX11_feed_35 : decode cX11_feed 35 = .ok (.invokevirtual 87, 3) := by decide +kernel
theorem dX11_feed_38 : decode cX11_feed 38 = .ok (.aload_n 0, 1) := by decide +kernel
theorem dX11_feed_39 : decode cX11_feed 39 = .ok (.getfield 20, 3) := by decide +kernel
theorem dX11_feed_42 : decode cX11_feed 42 = .ok (.iload 4, 2) := by decide +kernel
theorem dX11_feed_44 : decode cX11_feed 44 = .ok (.invokevirtual 87, 3) := by decide +kernel
theorem dX11_feed_47 : decode cX11_feed 47 = .ok (.aload_n 0, 1) := by decide +kernel
theorem dX11_feed_48 : decode cX11_feed 48 = .ok (.getfield 20, 3) := by decide +kernel
theorem dX11_feed_51 : decode cX11_feed 51 = .ok (.iload 5, 2) := by decide +kernel
theorem dX11_feed_53 : decode cX11_feed 53 = .ok (.invokevirtual 87, 3) := by decide +kernel
theorem dX11_feed_56 : decode cX11_feed 56 = .ok (.aload_n 0, 1) := by decide +kernel
theorem dX11_feed_57 : decode cX11_feed 57 = .ok (.getfield 20, 3) := by decide +kernel
theorem dX11_feed_60 : decode cX11_feed 60 = .ok (.getfield 91, 3) := by decide +kernel
theorem dX11_feed_63 : decode cX11_feed 63 = .ok (.ireturn, 1) := by decide +kernel
theorem dX11_fits_0 : decode cX11_fits 0 = .ok (.aload_n 0, 1) := by decide +kernel
theorem dX11_fits_1 : decode cX11_fits 1 = .ok (.getfield 70, 3) := by decide +kernel
theorem dX11_fits_4 : decode cX11_fits 4 = .ok (.iload_n 1, 1) := by decide +kernel
theorem dX11_fits_5 : decode cX11_fits 5 = .ok (.invokevirtual 304, 3) := by decide +kernel
theorem dX11_fits_8 : decode cX11_fits 8 = .ok (.ifCond .ne 7, 3) := by decide +kernel
theorem dX11_fits_11 : decode cX11_fits 11 = .ok (.ldc2_w 307, 3) := by decide +kernel
theorem dX11_fits_14 : decode cX11_fits 14 = .ok (.lreturn, 1) := by decide +kernel
theorem dX11_fits_15 : decode cX11_fits 15 = .ok (.aload_n 0, 1) := by decide +kernel
theorem dX11_fits_16 : decode cX11_fits 16 = .ok (.getfield 70, 3) := by decide +kernel
theorem dX11_fits_19 : decode cX11_fits 19 = .ok (.aload_n 0, 1) := by decide +kernel
theorem dX11_fits_20 : decode cX11_fits 20 = .ok (.getfield 77, 3) := by decide +kernel
theorem dX11_fits_23 : decode cX11_fits 23 = .ok (.iload_n 1, 1) := by decide +kernel
theorem dX11_fits_24 : decode cX11_fits 24 = .ok (.invokevirtual 309, 3) := by decide +kernel
theorem dX11_fits_27 : decode cX11_fits 27 = .ok (.ifCond .eq 19, 3) := by decide +kernel
theorem dX11_fits_30 : decode cX11_fits 30 = .ok (.aload_n 0, 1) := by decide +kernel
theorem dX11_fits_31 : decode cX11_fits 31 = .ok (.getfield 70, 3) := by decide +kernel
theorem dX11_fits_34 : decode cX11_fits 34 = .ok (.aload_n 0, 1) := by decide +kernel
theorem dX11_fits_35 : decode cX11_fits 35 = .ok (.getfield 77, 3) := by decide +kernel
theorem dX11_fits_38 : decode cX11_fits 38 = .ok (.iconst (-1), 1) := by decide +kernel
theorem dX11_fits_39 : decode cX11_fits 39 = .ok (.iconst (-1), 1) := by decide +kernel
theorem dX11_fits_40 : decode cX11_fits 40 = .ok (.invokevirtual 313, 3) := by decide +kernel
theorem dX11_fits_43 : decode cX11_fits 43 = .ok (.goto 4, 3) := by decide +kernel
theorem dX11_fits_47 : decode cX11_fits 47 = .ok (.lreturn, 1) := by decide +kernel
theorem dX11_forget_0 : decode cX11_forget 0 = .ok (.aload_n 0, 1) := by decide +kernel
theorem dX11_forget_1 : decode cX11_forget 1 = .ok (.getfield 70, 3) := by decide +kernel
theorem dX11_forget_4 : decode cX11_forget 4 = .ok (.getfield 301, 3) := by decide +kernel
theorem dX11_forget_7 : decode cX11_forget 7 = .ok (.istore_n 1, 1) := by decide +kernel
theorem dX11_forget_8 : decode cX11_forget 8 = .ok (.aload_n 0, 1) := by decide +kernel
theorem dX11_forget_9 : decode cX11_forget 9 = .ok (.getfield 70, 3) := by decide +kernel
theorem dX11_forget_12 : decode cX11_forget 12 = .ok (.invokevirtual 118, 3) := by decide +kernel
theorem dX11_forget_15 : decode cX11_forget 15 = .ok (.iload_n 1, 1) := by decide +kernel
theorem dX11_forget_16 : decode cX11_forget 16 = .ok (.ireturn, 1) := by decide +kernel
theorem dX11_get_0 : decode cX11_get 0 = .ok (.aload_n 0, 1) := by decide +kernel
theorem dX11_get_1 : decode cX11_get 1 = .ok (.getfield 77, 3) := by decide +kernel
theorem dX11_get_4 : decode cX11_get 4 = .ok (.iload_n 1, 1) := by decide +kernel
theorem dX11_get_5 : decode cX11_get 5 = .ok (.invokevirtual 152, 3) := by decide +kernel
theorem dX11_get_8 : decode cX11_get 8 = .ok (.ifCond .eq 14, 3) := by decide +kernel
theorem dX11_get_22 : decode cX11_get 22 = .ok (.iconst (-1), 1) := by decide +kernel
theorem dX11_get_23 : decode cX11_get 23 = .ok (.ireturn, 1) := by decide +kernel
theorem dX11_go_0 : decode cX11_go 0 = .ok (.aload_n 0, 1) := by decide +kernel
theorem dX11_go_1 : decode cX11_go 1 = .ok (.getfield 77, 3) := by decide +kernel
theorem dX11_go_4 : decode cX11_go 4 = .ok (.iload_n 1, 1) := by decide +kernel
theorem dX11_go_5 : decode cX11_go 5 = .ok (.invokevirtual 152, 3) := by decide +kernel
theorem dX11_go_8 : decode cX11_go 8 = .ok (.ifCond .eq 30, 3) := by decide +kernel
theorem dX11_go_38 : decode cX11_go 38 = .ok (.iconst (-1), 1) := by decide +kernel
theorem dX11_go_39 : decode cX11_go 39 = .ok (.ireturn, 1) := by decide +kernel
theorem dX11_has_0 : decode cX11_has 0 = .ok (.aload_n 0, 1) := by decide +kernel
theorem dX11_has_1 : decode cX11_has 1 = .ok (.getfield 77, 3) := by decide +kernel
theorem dX11_has_4 : decode cX11_has 4 = .ok (.iload_n 1, 1) := by decide +kernel
theorem dX11_has_5 : decode cX11_has 5 = .ok (.invokevirtual 152, 3) := by decide +kernel
theorem dX11_has_8 : decode cX11_has 8 = .ok (.ifCond .eq 14, 3) := by decide +kernel
theorem dX11_has_22 : decode cX11_has 22 = .ok (.iconst (-1), 1) := by decide +kernel
theorem dX11_has_23 : decode cX11_has 23 = .ok (.ireturn, 1) := by decide +kernel
theorem dX11_helps_0 : decode cX11_helps 0 = .ok (.aload_n 0, 1) := by decide +kernel
theorem dX11_helps_1 : decode cX11_helps 1 = .ok (.getfield 77, 3) := by decide +kernel
theorem dX11_helps_4 : decode cX11_helps 4 = .ok (.iload_n 1, 1) := by decide +kernel
theorem dX11_helps_5 : decode cX11_helps 5 = .ok (.invokevirtual 136, 3) := by decide +kernel
theorem dX11_helps_8 : decode cX11_helps 8 = .ok (.ifCond .eq 23, 3) := by decide +kernel
theorem dX11_helps_31 : decode cX11_helps 31 = .ok (.iconst (-1), 1) := by decide +kernel
theorem dX11_helps_32 : decode cX11_helps 32 = .ok (.ireturn, 1) := by decide +kernel
theorem dX11_hold_0 : decode cX11_hold 0 = .ok (.iload_n 1, 1) := by decide +kernel
theorem dX11_hold_1 : decode cX11_hold 1 = .ok (.ifCond .lt 8, 3) := by decide +kernel
theorem dX11_hold_4 : decode cX11_hold 4 = .ok (.iload_n 1, 1) := by decide +kernel
theorem dX11_hold_5 : decode cX11_hold 5 = .ok (.iconst 3, 1) := by decide +kernel
theorem dX11_hold_6 : decode cX11_hold 6 = .ok (.if_icmp .lt 5, 3) := by decide +kernel
theorem dX11_hold_9 : decode cX11_hold 9 = .ok (.iconst 0, 1) := by decide +kernel
theorem dX11_hold_10 : decode cX11_hold 10 = .ok (.ireturn, 1) := by decide +kernel
theorem dX11_hold_11 : decode cX11_hold 11 = .ok (.aload_n 0, 1) := by decide +kernel
theorem dX11_hold_12 : decode cX11_hold 12 = .ok (.getfield 28, 3) := by decide +kernel
theorem dX11_hold_15 : decode cX11_hold 15 = .ok (.iload_n 1, 1) := by decide +kernel
theorem dX11_hold_16 : decode cX11_hold 16 = .ok (.aaload, 1) := by decide +kernel
theorem dX11_hold_17 : decode cX11_hold 17 = .ok (.aload_n 0, 1) := by decide +kernel
theorem dX11_hold_18 : decode cX11_hold 18 = .ok (.getfield 24, 3) := by decide +kernel
theorem dX11_hold_21 : decode cX11_hold 21 = .ok (.invokevirtual 319, 3) := by decide +kernel
theorem dX11_hold_24 : decode cX11_hold 24 = .ok (.aload_n 0, 1) := by decide +kernel
theorem dX11_hold_25 : decode cX11_hold 25 = .ok (.getfield 28, 3) := by decide +kernel
theorem dX11_hold_28 : decode cX11_hold 28 = .ok (.iload_n 1, 1) := by decide +kernel
theorem dX11_hold_29 : decode cX11_hold 29 = .ok (.aaload, 1) := by decide +kernel
theorem dX11_hold_30 : decode cX11_hold 30 = .ok (.iconst 1, 1) := by decide +kernel
theorem dX11_hold_31 : decode cX11_hold 31 = .ok (.putfield 122, 3) := by decide +kernel
theorem dX11_hold_34 : decode cX11_hold 34 = .ok (.iconst 1, 1) := by decide +kernel
theorem dX11_hold_35 : decode cX11_hold 35 = .ok (.ireturn, 1) := by decide +kernel
theorem dX11_inReach_0 : decode cX11_inReach 0 = .ok (.aload_n 0, 1) := by decide +kernel
theorem dX11_inReach_1 : decode cX11_inReach 1 = .ok (.getfield 77, 3) := by decide +kernel
theorem dX11_inReach_4 : decode cX11_inReach 4 = .ok (.iload_n 1, 1) := by decide +kernel
theorem dX11_inReach_5 : decode cX11_inReach 5 = .ok (.invokevirtual 152, 3) := by decide +kernel
theorem dX11_inReach_8 : decode cX11_inReach 8 = .ok (.ifCond .ne 5, 3) := by decide +kernel
theorem dX11_inReach_11 : decode cX11_inReach 11 = .ok (.iconst (-1), 1) := by decide +kernel
theorem dX11_inReach_12 : decode cX11_inReach 12 = .ok (.ireturn, 1) := by decide +kernel
theorem dX11_init_0 : decode cX11_init 0 = .ok (.aload_n 0, 1) := by decide +kernel
theorem dX11_init_1 : decode cX11_init 1 = .ok (.invokespecial 1, 3) := by decide +kernel
theorem dX11_init_4 : decode cX11_init 4 = .ok (.aload_n 0, 1) := by decide +kernel
theorem dX11_init_5 : decode cX11_init 5 = .ok (.new 7, 3) := by decide +kernel
theorem dX11_init_8 : decode cX11_init 8 = .ok (.dup, 1) := by decide +kernel
theorem dX11_init_9 : decode cX11_init 9 = .ok (.invokespecial 9, 3) := by decide +kernel
theorem dX11_init_12 : decode cX11_init 12 = .ok (.putfield 10, 3) := by decide +kernel
theorem dX11_init_15 : decode cX11_init 15 = .ok (.aload_n 0, 1) := by decide +kernel
theorem dX11_init_16 : decode cX11_init 16 = .ok (.aload_n 0, 1) := by decide +kernel
theorem dX11_init_17 : decode cX11_init 17 = .ok (.getfield 10, 3) := by decide +kernel
theorem dX11_init_20 : decode cX11_init 20 = .ok (.getfield 16, 3) := by decide +kernel
theorem dX11_init_23 : decode cX11_init 23 = .ok (.putfield 20, 3) := by decide +kernel
theorem dX11_init_26 : decode cX11_init 26 = .ok (.aload_n 0, 1) := by decide +kernel
theorem dX11_init_27 : decode cX11_init 27 = .ok (.new 21, 3) := by decide +kernel
theorem dX11_init_30 : decode cX11_init 30 = .ok (.dup, 1) := by decide +kernel
theorem dX11_init_31 : decode cX11_init 31 = .ok (.invokespecial 23, 3) := by decide +kernel
theorem dX11_init_34 : decode cX11_init 34 = .ok (.putfield 24, 3) := by decide +kernel
theorem dX11_init_37 : decode cX11_init 37 = .ok (.aload_n 0, 1) := by decide +kernel
theorem dX11_init_38 : decode cX11_init 38 = .ok (.iconst 3, 1) := by decide +kernel
theorem dX11_init_39 : decode cX11_init 39 = .ok (.anewarray 21, 3) := by decide +kernel
theorem dX11_init_42 : decode cX11_init 42 = .ok (.putfield 28, 3) := by decide +kernel
theorem dX11_init_45 : decode cX11_init 45 = .ok (.aload_n 0, 1) := by decide +kernel
theorem dX11_init_46 : decode cX11_init 46 = .ok (.new 32, 3) := by decide +kernel
theorem dX11_init_49 : decode cX11_init 49 = .ok (.dup, 1) := by decide +kernel
theorem dX11_init_50 : decode cX11_init 50 = .ok (.invokespecial 34, 3) := by decide +kernel
theorem dX11_init_53 : decode cX11_init 53 = .ok (.putfield 35, 3) := by decide +kernel
theorem dX11_init_56 : decode cX11_init 56 = .ok (.aload_n 0, 1) := by decide +kernel
theorem dX11_init_57 : decode cX11_init 57 = .ok (.new 39, 3) := by decide +kernel
theorem dX11_init_60 : decode cX11_init 60 = .ok (.dup, 1) := by decide +kernel
theorem dX11_init_61 : decode cX11_init 61 = .ok (.invokespecial 41, 3) := by decide +kernel
theorem dX11_init_64 : decode cX11_init 64 = .ok (.putfield 42, 3) := by decide +kernel
theorem dX11_init_67 : decode cX11_init 67 = .ok (.aload_n 0, 1) := by decide +kernel
theorem dX11_init_68 : decode cX11_init 68 = .ok (.new 46, 3) := by decide +kernel
theorem dX11_init_71 : decode cX11_init 71 = .ok (.dup, 1) := by decide +kernel
theorem dX11_init_72 : decode cX11_init 72 = .ok (.invokespecial 48, 3) := by decide +kernel
theorem dX11_init_75 : decode cX11_init 75 = .ok (.putfield 49, 3) := by decide +kernel
theorem dX11_init_78 : decode cX11_init 78 = .ok (.aload_n 0, 1) := by decide +kernel
theorem dX11_init_79 : decode cX11_init 79 = .ok (.new 53, 3) := by decide +kernel
theorem dX11_init_82 : decode cX11_init 82 = .ok (.dup, 1) := by decide +kernel
theorem dX11_init_83 : decode cX11_init 83 = .ok (.invokespecial 55, 3) := by decide +kernel
theorem dX11_init_86 : decode cX11_init 86 = .ok (.putfield 56, 3) := by decide +kernel
theorem dX11_init_89 : decode cX11_init 89 = .ok (.aload_n 0, 1) := by decide +kernel
theorem dX11_init_90 : decode cX11_init 90 = .ok (.new 60, 3) := by decide +kernel
theorem dX11_init_93 : decode cX11_init 93 = .ok (.dup, 1) := by decide +kernel
theorem dX11_init_94 : decode cX11_init 94 = .ok (.invokespecial 62, 3) := by decide +kernel
theorem dX11_init_97 : decode cX11_init 97 = .ok (.putfield 63, 3) := by decide +kernel
theorem dX11_init_100 : decode cX11_init 100 = .ok (.aload_n 0, 1) := by decide +kernel
theorem dX11_init_101 : decode cX11_init 101 = .ok (.new 67, 3) := by decide +kernel
theorem dX11_init_104 : decode cX11_init 104 = .ok (.dup, 1) := by decide +kernel
theorem dX11_init_105 : decode cX11_init 105 = .ok (.invokespecial 69, 3) := by decide +kernel
theorem dX11_init_108 : decode cX11_init 108 = .ok (.putfield 70, 3) := by decide +kernel
theorem dX11_init_111 : decode cX11_init 111 = .ok (.aload_n 0, 1) := by decide +kernel
theorem dX11_init_112 : decode cX11_init 112 = .ok (.new 74, 3) := by decide +kernel
theorem dX11_init_115 : decode cX11_init 115 = .ok (.dup, 1) := by decide +kernel
theorem dX11_init_116 : decode cX11_init 116 = .ok (.invokespecial 76, 3) := by decide +kernel
theorem dX11_init_119 : decode cX11_init 119 = .ok (.putfield 77, 3) := by decide +kernel
theorem dX11_init_122 : decode cX11_init 122 = .ok (.iconst 0, 1) := by decide +kernel
theorem dX11_init_123 : decode cX11_init 123 = .ok (.istore_n 1, 1) := by decide +kernel
theorem dX11_init_124 : decode cX11_init 124 = .ok (.iload_n 1, 1) := by decide +kernel
theorem dX11_init_125 : decode cX11_init 125 = .ok (.iconst 3, 1) := by decide +kernel
theorem dX11_init_126 : decode cX11_init 126 = .ok (.if_icmp .ge 22, 3) := by decide +kernel
theorem dX11_init_129 : decode cX11_init 129 = .ok (.aload_n 0, 1) := by decide +kernel
theorem dX11_init_130 : decode cX11_init 130 = .ok (.getfield 28, 3) := by decide +kernel
theorem dX11_init_133 : decode cX11_init 133 = .ok (.iload_n 1, 1) := by decide +kernel
theorem dX11_init_134 : decode cX11_init 134 = .ok (.new 21, 3) := by decide +kernel
theorem dX11_init_137 : decode cX11_init 137 = .ok (.dup, 1) := by decide +kernel
theorem dX11_init_138 : decode cX11_init 138 = .ok (.invokespecial 23, 3) := by decide +kernel
theorem dX11_init_141 : decode cX11_init 141 = .ok (.aastore, 1) := by decide +kernel
theorem dX11_init_142 : decode cX11_init 142 = .ok (.iinc 1 1, 3) := by decide +kernel
theorem dX11_init_145 : decode cX11_init 145 = .ok (.goto (-21), 3) := by decide +kernel
theorem dX11_init_148 : decode cX11_init 148 = .ok (.return_, 1) := by decide +kernel
theorem dX11_isWay_0 : decode cX11_isWay 0 = .ok (.aload_n 0, 1) := by decide +kernel
theorem dX11_isWay_1 : decode cX11_isWay 1 = .ok (.getfield 77, 3) := by decide +kernel
theorem dX11_isWay_4 : decode cX11_isWay 4 = .ok (.iload_n 1, 1) := by decide +kernel
theorem dX11_isWay_5 : decode cX11_isWay 5 = .ok (.invokevirtual 152, 3) := by decide +kernel
theorem dX11_isWay_8 : decode cX11_isWay 8 = .ok (.ifCond .eq 42, 3) := by decide +kernel
theorem dX11_isWay_50 : decode cX11_isWay 50 = .ok (.iconst 0, 1) := by decide +kernel
theorem dX11_isWay_51 : decode cX11_isWay 51 = .ok (.ireturn, 1) := by decide +kernel
theorem dX11_man_0 : decode cX11_man 0 = .ok (.aload_n 0, 1) := by decide +kernel
theorem dX11_man_1 : decode cX11_man 1 = .ok (.getfield 77, 3) := by decide +kernel
theorem dX11_man_4 : decode cX11_man 4 = .ok (.iload_n 1, 1) := by decide +kernel
theorem dX11_man_5 : decode cX11_man 5 = .ok (.invokevirtual 152, 3) := by decide +kernel
theorem dX11_man_8 : decode cX11_man 8 = .ok (.ifCond .ne 5, 3) := by decide +kernel
theorem dX11_man_11 : decode cX11_man 11 = .ok (.iconst (-1), 1) := by decide +kernel
theorem dX11_man_12 : decode cX11_man 12 = .ok (.ireturn, 1) := by decide +kernel
theorem dX11_may_0 : decode cX11_may 0 = .ok (.aload_n 0, 1) := by decide +kernel
theorem dX11_may_1 : decode cX11_may 1 = .ok (.getfield 77, 3) := by decide +kernel
theorem dX11_may_4 : decode cX11_may 4 = .ok (.iload_n 1, 1) := by decide +kernel
theorem dX11_may_5 : decode cX11_may 5 = .ok (.invokevirtual 152, 3) := by decide +kernel
theorem dX11_may_8 : decode cX11_may 8 = .ok (.ifCond .eq 38, 3) := by decide +kernel
theorem dX11_may_46 : decode cX11_may 46 = .ok (.iconst (-1), 1) := by decide +kernel
theorem dX11_may_47 : decode cX11_may 47 = .ok (.ireturn, 1) := by decide +kernel
theorem dX11_meet_0 : decode cX11_meet 0 = .ok (.aload_n 0, 1) := by decide +kernel
theorem dX11_meet_1 : decode cX11_meet 1 = .ok (.getfield 77, 3) := by decide +kernel
theorem dX11_meet_4 : decode cX11_meet 4 = .ok (.iload_n 1, 1) := by decide +kernel
theorem dX11_meet_5 : decode cX11_meet 5 = .ok (.invokevirtual 152, 3) := by decide +kernel
theorem dX11_meet_8 : decode cX11_meet 8 = .ok (.ifCond .eq 28, 3) := by decide +kernel
theorem dX11_meet_36 : decode cX11_meet 36 = .ok (.iconst (-1), 1) := by decide +kernel
theorem dX11_meet_37 : decode cX11_meet 37 = .ok (.ireturn, 1) := by decide +kernel
theorem dX11_most_0 : decode cX11_most 0 = .ok (.aload_n 0, 1) := by decide +kernel
theorem dX11_most_1 : decode cX11_most 1 = .ok (.getfield 77, 3) := by decide +kernel
theorem dX11_most_4 : decode cX11_most 4 = .ok (.iload_n 1, 1) := by decide +kernel
theorem dX11_most_5 : decode cX11_most 5 = .ok (.invokevirtual 152, 3) := by decide +kernel
theorem dX11_most_8 : decode cX11_most 8 = .ok (.ifCond .eq 14, 3) := by decide +kernel
theorem dX11_most_22 : decode cX11_most 22 = .ok (.iconst (-1), 1) := by decide +kernel
theorem dX11_most_23 : decode cX11_most 23 = .ok (.ireturn, 1) := by decide +kernel
theorem dX11_moveIn_0 : decode cX11_moveIn 0 = .ok (.aload_n 0, 1) := by decide +kernel
theorem dX11_moveIn_1 : decode cX11_moveIn 1 = .ok (.aload_n 0, 1) := by decide +kernel
theorem dX11_moveIn_2 : decode cX11_moveIn 2 = .ok (.getfield 10, 3) := by decide +kernel
theorem dX11_moveIn_5 : decode cX11_moveIn 5 = .ok (.aload_n 0, 1) := by decide +kernel
theorem dX11_moveIn_6 : decode cX11_moveIn 6 = .ok (.getfield 77, 3) := by decide +kernel
theorem dX11_moveIn_9 : decode cX11_moveIn 9 = .ok (.invokevirtual 107, 3) := by decide +kernel
theorem dX11_moveIn_12 : decode cX11_moveIn 12 = .ok (.putfield 77, 3) := by decide +kernel
theorem dX11_moveIn_15 : decode cX11_moveIn 15 = .ok (.aload_n 0, 1) := by decide +kernel
theorem dX11_moveIn_16 : decode cX11_moveIn 16 = .ok (.getfield 24, 3) := by decide +kernel
theorem dX11_moveIn_19 : decode cX11_moveIn 19 = .ok (.aload_n 0, 1) := by decide +kernel
theorem dX11_moveIn_20 : decode cX11_moveIn 20 = .ok (.getfield 77, 3) := by decide +kernel
theorem dX11_moveIn_23 : decode cX11_moveIn 23 = .ok (.invokevirtual 111, 3) := by decide +kernel
theorem dX11_moveIn_26 : decode cX11_moveIn 26 = .ok (.aload_n 0, 1) := by decide +kernel
theorem dX11_moveIn_27 : decode cX11_moveIn 27 = .ok (.getfield 35, 3) := by decide +kernel
theorem dX11_moveIn_30 : decode cX11_moveIn 30 = .ok (.invokevirtual 115, 3) := by decide +kernel
theorem dX11_moveIn_33 : decode cX11_moveIn 33 = .ok (.aload_n 0, 1) := by decide +kernel
theorem dX11_moveIn_34 : decode cX11_moveIn 34 = .ok (.getfield 70, 3) := by decide +kernel
theorem dX11_moveIn_37 : decode cX11_moveIn 37 = .ok (.invokevirtual 118, 3) := by decide +kernel
theorem dX11_moveIn_40 : decode cX11_moveIn 40 = .ok (.aload_n 0, 1) := by decide +kernel
theorem dX11_moveIn_41 : decode cX11_moveIn 41 = .ok (.getfield 42, 3) := by decide +kernel
theorem dX11_moveIn_44 : decode cX11_moveIn 44 = .ok (.invokevirtual 119, 3) := by decide +kernel
theorem dX11_moveIn_47 : decode cX11_moveIn 47 = .ok (.iconst 0, 1) := by decide +kernel
theorem dX11_moveIn_48 : decode cX11_moveIn 48 = .ok (.istore_n 1, 1) := by decide +kernel
theorem dX11_moveIn_49 : decode cX11_moveIn 49 = .ok (.iload_n 1, 1) := by decide +kernel
theorem dX11_moveIn_50 : decode cX11_moveIn 50 = .ok (.iconst 3, 1) := by decide +kernel
theorem dX11_moveIn_51 : decode cX11_moveIn 51 = .ok (.if_icmp .ge 19, 3) := by decide +kernel
theorem dX11_moveIn_54 : decode cX11_moveIn 54 = .ok (.aload_n 0, 1) := by decide +kernel
theorem dX11_moveIn_55 : decode cX11_moveIn 55 = .ok (.getfield 28, 3) := by decide +kernel
theorem dX11_moveIn_58 : decode cX11_moveIn 58 = .ok (.iload_n 1, 1) := by decide +kernel
theorem dX11_moveIn_59 : decode cX11_moveIn 59 = .ok (.aaload, 1) := by decide +kernel
theorem dX11_moveIn_60 : decode cX11_moveIn 60 = .ok (.iconst 0, 1) := by decide +kernel
theorem dX11_moveIn_61 : decode cX11_moveIn 61 = .ok (.putfield 122, 3) := by decide +kernel
theorem dX11_moveIn_64 : decode cX11_moveIn 64 = .ok (.iinc 1 1, 3) := by decide +kernel
theorem dX11_moveIn_67 : decode cX11_moveIn 67 = .ok (.goto (-18), 3) := by decide +kernel
theorem dX11_moveIn_70 : decode cX11_moveIn 70 = .ok (.return_, 1) := by decide +kernel
theorem dX11_place_0 : decode cX11_place 0 = .ok (.aload_n 0, 1) := by decide +kernel
theorem dX11_place_1 : decode cX11_place 1 = .ok (.getfield 20, 3) := by decide +kernel
theorem dX11_place_4 : decode cX11_place 4 = .ok (.getfield 126, 3) := by decide +kernel
theorem dX11_place_7 : decode cX11_place 7 = .ok (.ireturn, 1) := by decide +kernel
theorem dX11_read_0 : decode cX11_read 0 = .ok (.aload_n 0, 1) := by decide +kernel
theorem dX11_read_1 : decode cX11_read 1 = .ok (.getfield 20, 3) := by decide +kernel
theorem dX11_read_4 : decode cX11_read 4 = .ok (.invokevirtual 95, 3) := by decide +kernel
theorem dX11_read_7 : decode cX11_read 7 = .ok (.aload_n 0, 1) := by decide +kernel
theorem dX11_read_8 : decode cX11_read 8 = .ok (.getfield 20, 3) := by decide +kernel
theorem dX11_read_11 : decode cX11_read 11 = .ok (.getfield 98, 3) := by decide +kernel
theorem dX11_read_14 : decode cX11_read 14 = .ok (.ifCond .ne 10, 3) := by decide +kernel
theorem dX11_read_17 : decode cX11_read 17 = .ok (.aload_n 0, 1) := by decide +kernel
theorem dX11_read_18 : decode cX11_read 18 = .ok (.getfield 10, 3) := by decide +kernel
theorem dX11_read_21 : decode cX11_read 21 = .ok (.invokevirtual 101, 3) := by decide +kernel
theorem dX11_read_24 : decode cX11_read 24 = .ok (.aload_n 0, 1) := by decide +kernel
theorem dX11_read_25 : decode cX11_read 25 = .ok (.getfield 20, 3) := by decide +kernel
theorem dX11_read_28 : decode cX11_read 28 = .ok (.iconst 0, 1) := by decide +kernel
theorem dX11_read_29 : decode cX11_read 29 = .ok (.putfield 91, 3) := by decide +kernel
theorem dX11_read_32 : decode cX11_read 32 = .ok (.aload_n 0, 1) := by decide +kernel
theorem dX11_read_33 : decode cX11_read 33 = .ok (.getfield 20, 3) := by decide +kernel
theorem dX11_read_36 : decode cX11_read 36 = .ok (.getfield 98, 3) := by decide +kernel
theorem dX11_read_39 : decode cX11_read 39 = .ok (.ifCond .ne 7, 3) := by decide +kernel
theorem dX11_read_42 : decode cX11_read 42 = .ok (.aload_n 0, 1) := by decide +kernel
theorem dX11_read_43 : decode cX11_read 43 = .ok (.invokevirtual 104, 3) := by decide +kernel
theorem dX11_read_46 : decode cX11_read 46 = .ok (.aload_n 0, 1) := by decide +kernel
theorem dX11_read_47 : decode cX11_read 47 = .ok (.getfield 20, 3) := by decide +kernel
theorem dX11_read_50 : decode cX11_read 50 = .ok (.getfield 98, 3) := by decide +kernel
theorem dX11_read_53 : decode cX11_read 53 = .ok (.ireturn, 1) := by decide +kernel
theorem dX11_rest_0 : decode cX11_rest 0 = .ok (.iload_n 1, 1) := by decide +kernel
theorem dX11_rest_1 : decode cX11_rest 1 = .ok (.ifCond .lt 8, 3) := by decide +kernel
theorem dX11_rest_4 : decode cX11_rest 4 = .ok (.iload_n 1, 1) := by decide +kernel
theorem dX11_rest_5 : decode cX11_rest 5 = .ok (.iconst 2, 1) := by decide +kernel
theorem dX11_rest_6 : decode cX11_rest 6 = .ok (.if_icmp .le 5, 3) := by decide +kernel
theorem dX11_rest_9 : decode cX11_rest 9 = .ok (.iconst (-1), 1) := by decide +kernel
theorem dX11_rest_10 : decode cX11_rest 10 = .ok (.ireturn, 1) := by decide +kernel
theorem dX11_rest_11 : decode cX11_rest 11 = .ok (.aload_n 0, 1) := by decide +kernel
theorem dX11_rest_12 : decode cX11_rest 12 = .ok (.getfield 63, 3) := by decide +kernel
theorem dX11_rest_15 : decode cX11_rest 15 = .ok (.aload_n 0, 1) := by decide +kernel
theorem dX11_rest_16 : decode cX11_rest 16 = .ok (.getfield 77, 3) := by decide +kernel
theorem dX11_rest_19 : decode cX11_rest 19 = .ok (.invokevirtual 291, 3) := by decide +kernel
theorem dX11_rest_22 : decode cX11_rest 22 = .ok (.iload_n 1, 1) := by decide +kernel
theorem dX11_rest_23 : decode cX11_rest 23 = .ok (.lookupswitch 41 #[(0, 25), (1, 33)], 25) := by decide +kernel
theorem dX11_rest_48 : decode cX11_rest 48 = .ok (.aload_n 0, 1) := by decide +kernel
theorem dX11_rest_49 : decode cX11_rest 49 = .ok (.getfield 63, 3) := by decide +kernel
theorem dX11_rest_52 : decode cX11_rest 52 = .ok (.getfield 276, 3) := by decide +kernel
theorem dX11_rest_55 : decode cX11_rest 55 = .ok (.ireturn, 1) := by decide +kernel
theorem dX11_rest_56 : decode cX11_rest 56 = .ok (.aload_n 0, 1) := by decide +kernel
theorem dX11_rest_57 : decode cX11_rest 57 = .ok (.getfield 63, 3) := by decide +kernel
theorem dX11_rest_60 : decode cX11_rest 60 = .ok (.getfield 294, 3) := by decide +kernel
theorem dX11_rest_63 : decode cX11_rest 63 = .ok (.ireturn, 1) := by decide +kernel
theorem dX11_rest_64 : decode cX11_rest 64 = .ok (.aload_n 0, 1) := by decide +kernel
theorem dX11_rest_65 : decode cX11_rest 65 = .ok (.getfield 63, 3) := by decide +kernel
theorem dX11_rest_68 : decode cX11_rest 68 = .ok (.getfield 281, 3) := by decide +kernel
theorem dX11_rest_71 : decode cX11_rest 71 = .ok (.invokevirtual 284, 3) := by decide +kernel
theorem dX11_rest_74 : decode cX11_rest 74 = .ok (.ireturn, 1) := by decide +kernel
theorem dX11_restore_0 : decode cX11_restore 0 = .ok (.iload_n 1, 1) := by decide +kernel
theorem dX11_restore_1 : decode cX11_restore 1 = .ok (.ifCond .lt 20, 3) := by decide +kernel
theorem dX11_restore_4 : decode cX11_restore 4 = .ok (.iload_n 1, 1) := by decide +kernel
theorem dX11_restore_5 : decode cX11_restore 5 = .ok (.iconst 3, 1) := by decide +kernel
theorem dX11_restore_6 : decode cX11_restore 6 = .ok (.if_icmp .ge 15, 3) := by decide +kernel
theorem dX11_restore_9 : decode cX11_restore 9 = .ok (.aload_n 0, 1) := by decide +kernel
theorem dX11_restore_10 : decode cX11_restore 10 = .ok (.getfield 28, 3) := by decide +kernel
theorem dX11_restore_13 : decode cX11_restore 13 = .ok (.iload_n 1, 1) := by decide +kernel
theorem dX11_restore_14 : decode cX11_restore 14 = .ok (.aaload, 1) := by decide +kernel
theorem dX11_restore_15 : decode cX11_restore 15 = .ok (.getfield 122, 3) := by decide +kernel
theorem dX11_restore_18 : decode cX11_restore 18 = .ok (.ifCond .ne 5, 3) := by decide +kernel
theorem dX11_restore_21 : decode cX11_restore 21 = .ok (.iconst 0, 1) := by decide +kernel
theorem dX11_restore_22 : decode cX11_restore 22 = .ok (.ireturn, 1) := by decide +kernel
theorem dX11_riches_0 : decode cX11_riches 0 = .ok (.iload_n 1, 1) := by decide +kernel
theorem dX11_riches_1 : decode cX11_riches 1 = .ok (.iconst (-1), 1) := by decide +kernel
theorem dX11_riches_2 : decode cX11_riches 2 = .ok (.if_icmp .eq 24, 3) := by decide +kernel
theorem dX11_riches_5 : decode cX11_riches 5 = .ok (.aload_n 0, 1) := by decide +kernel
theorem dX11_riches_6 : decode cX11_riches 6 = .ok (.getfield 77, 3) := by decide +kernel
theorem dX11_riches_9 : decode cX11_riches 9 = .ok (.iload_n 1, 1) := by decide +kernel
theorem dX11_riches_10 : decode cX11_riches 10 = .ok (.invokevirtual 129, 3) := by decide +kernel
theorem dX11_riches_13 : decode cX11_riches 13 = .ok (.ifCond .eq 11, 3) := by decide +kernel
theorem dX11_riches_24 : decode cX11_riches 24 = .ok (.iconst (-1), 1) := by decide +kernel
theorem dX11_riches_25 : decode cX11_riches 25 = .ok (.ireturn, 1) := by decide +kernel
theorem dX11_riches_26 : decode cX11_riches 26 = .ok (.bipush (-2), 2) := by decide +kernel
theorem dX11_riches_28 : decode cX11_riches 28 = .ok (.istore_n 2, 1) := by decide +kernel
theorem dX11_riches_29 : decode cX11_riches 29 = .ok (.iconst 0, 1) := by decide +kernel
theorem dX11_riches_30 : decode cX11_riches 30 = .ok (.istore_n 3, 1) := by decide +kernel
theorem dX11_riches_31 : decode cX11_riches 31 = .ok (.iconst 0, 1) := by decide +kernel
theorem dX11_riches_32 : decode cX11_riches 32 = .ok (.istore 4, 2) := by decide +kernel
theorem dX11_riches_34 : decode cX11_riches 34 = .ok (.iload 4, 2) := by decide +kernel
theorem dX11_riches_36 : decode cX11_riches 36 = .ok (.aload_n 0, 1) := by decide +kernel
theorem dX11_riches_37 : decode cX11_riches 37 = .ok (.getfield 77, 3) := by decide +kernel
theorem dX11_riches_40 : decode cX11_riches 40 = .ok (.getfield 245, 3) := by decide +kernel
theorem dX11_riches_43 : decode cX11_riches 43 = .ok (.if_icmp .ge 35, 3) := by decide +kernel
theorem dX11_riches_78 : decode cX11_riches 78 = .ok (.iload_n 2, 1) := by decide +kernel
theorem dX11_riches_79 : decode cX11_riches 79 = .ok (.ireturn, 1) := by decide +kernel
theorem dX11_rid_0 : decode cX11_rid 0 = .ok (.aload_n 0, 1) := by decide +kernel
theorem dX11_rid_1 : decode cX11_rid 1 = .ok (.getfield 77, 3) := by decide +kernel
theorem dX11_rid_4 : decode cX11_rid 4 = .ok (.iload_n 1, 1) := by decide +kernel
theorem dX11_rid_5 : decode cX11_rid 5 = .ok (.invokevirtual 152, 3) := by decide +kernel
theorem dX11_rid_8 : decode cX11_rid 8 = .ok (.ifCond .eq 32, 3) := by decide +kernel
theorem dX11_rid_40 : decode cX11_rid 40 = .ok (.iconst (-1), 1) := by decide +kernel
theorem dX11_rid_41 : decode cX11_rid 41 = .ok (.ireturn, 1) := by decide +kernel
theorem dX11_round_0 : decode cX11_round 0 = .ok (.aload_n 0, 1) := by decide +kernel
theorem dX11_round_1 : decode cX11_round 1 = .ok (.getfield 77, 3) := by decide +kernel
theorem dX11_round_4 : decode cX11_round 4 = .ok (.iload_n 1, 1) := by decide +kernel
theorem dX11_round_5 : decode cX11_round 5 = .ok (.invokevirtual 152, 3) := by decide +kernel
theorem dX11_round_8 : decode cX11_round 8 = .ok (.ifCond .eq 20, 3) := by decide +kernel
theorem dX11_round_28 : decode cX11_round 28 = .ok (.iconst (-1), 1) := by decide +kernel
theorem dX11_round_29 : decode cX11_round 29 = .ok (.ireturn, 1) := by decide +kernel
theorem dX11_see_0 : decode cX11_see 0 = .ok (.aload_n 0, 1) := by decide +kernel
theorem dX11_see_1 : decode cX11_see 1 = .ok (.getfield 77, 3) := by decide +kernel
theorem dX11_see_4 : decode cX11_see 4 = .ok (.iload_n 1, 1) := by decide +kernel
theorem dX11_see_5 : decode cX11_see 5 = .ok (.invokevirtual 129, 3) := by decide +kernel
theorem dX11_see_8 : decode cX11_see 8 = .ok (.ifCond .eq 24, 3) := by decide +kernel
theorem dX11_see_32 : decode cX11_see 32 = .ok (.iconst (-1), 1) := by decide +kernel
theorem dX11_see_33 : decode cX11_see 33 = .ok (.ireturn, 1) := by decide +kernel
theorem dX11_slotsHeld_0 : decode cX11_slotsHeld 0 = .ok (.iconst 0, 1) := by decide +kernel
theorem dX11_slotsHeld_1 : decode cX11_slotsHeld 1 = .ok (.istore_n 1, 1) := by decide +kernel
theorem dX11_slotsHeld_2 : decode cX11_slotsHeld 2 = .ok (.iconst 0, 1) := by decide +kernel
theorem dX11_slotsHeld_3 : decode cX11_slotsHeld 3 = .ok (.istore_n 2, 1) := by decide +kernel
theorem dX11_slotsHeld_4 : decode cX11_slotsHeld 4 = .ok (.iload_n 2, 1) := by decide +kernel
theorem dX11_slotsHeld_5 : decode cX11_slotsHeld 5 = .ok (.iconst 3, 1) := by decide +kernel
theorem dX11_slotsHeld_6 : decode cX11_slotsHeld 6 = .ok (.if_icmp .ge 29, 3) := by decide +kernel
theorem dX11_slotsHeld_9 : decode cX11_slotsHeld 9 = .ok (.iload_n 1, 1) := by decide +kernel
theorem dX11_slotsHeld_10 : decode cX11_slotsHeld 10 = .ok (.aload_n 0, 1) := by decide +kernel
theorem dX11_slotsHeld_11 : decode cX11_slotsHeld 11 = .ok (.getfield 28, 3) := by decide +kernel
theorem dX11_slotsHeld_14 : decode cX11_slotsHeld 14 = .ok (.iload_n 2, 1) := by decide +kernel
theorem dX11_slotsHeld_15 : decode cX11_slotsHeld 15 = .ok (.aaload, 1) := by decide +kernel
theorem dX11_slotsHeld_16 : decode cX11_slotsHeld 16 = .ok (.getfield 122, 3) := by decide +kernel
theorem dX11_slotsHeld_19 : decode cX11_slotsHeld 19 = .ok (.ifCond .eq 7, 3) := by decide +kernel
theorem dX11_slotsHeld_26 : decode cX11_slotsHeld 26 = .ok (.iconst 0, 1) := by decide +kernel
theorem dX11_slotsHeld_27 : decode cX11_slotsHeld 27 = .ok (.iadd, 1) := by decide +kernel
theorem dX11_slotsHeld_28 : decode cX11_slotsHeld 28 = .ok (.istore_n 1, 1) := by decide +kernel
theorem dX11_slotsHeld_29 : decode cX11_slotsHeld 29 = .ok (.iinc 2 1, 3) := by decide +kernel
theorem dX11_slotsHeld_32 : decode cX11_slotsHeld 32 = .ok (.goto (-28), 3) := by decide +kernel
theorem dX11_slotsHeld_35 : decode cX11_slotsHeld 35 = .ok (.iload_n 1, 1) := by decide +kernel
theorem dX11_slotsHeld_36 : decode cX11_slotsHeld 36 = .ok (.ireturn, 1) := by decide +kernel
theorem dX11_step_0 : decode cX11_step 0 = .ok (.aload_n 0, 1) := by decide +kernel
theorem dX11_step_1 : decode cX11_step 1 = .ok (.iload_n 1, 1) := by decide +kernel
theorem dX11_step_2 : decode cX11_step 2 = .ok (.iload_n 2, 1) := by decide +kernel
theorem dX11_step_3 : decode cX11_step 3 = .ok (.iload_n 3, 1) := by decide +kernel
theorem dX11_step_4 : decode cX11_step 4 = .ok (.iload 4, 2) := by decide +kernel
theorem dX11_step_6 : decode cX11_step 6 = .ok (.invokevirtual 204, 3) := by decide +kernel
theorem dX11_step_9 : decode cX11_step 9 = .ok (.ifCond .eq 8, 3) := by decide +kernel
theorem dX11_step_17 : decode cX11_step 17 = .ok (.iconst (-1), 1) := by decide +kernel
theorem dX11_step_18 : decode cX11_step 18 = .ok (.ireturn, 1) := by decide +kernel
theorem dX11_table_0 : decode cX11_table 0 = .ok (.aload_n 0, 1) := by decide +kernel
theorem dX11_table_1 : decode cX11_table 1 = .ok (.getfield 77, 3) := by decide +kernel
theorem dX11_table_4 : decode cX11_table 4 = .ok (.iload_n 1, 1) := by decide +kernel
theorem dX11_table_5 : decode cX11_table 5 = .ok (.invokevirtual 129, 3) := by decide +kernel
theorem dX11_table_8 : decode cX11_table 8 = .ok (.ifCond .eq 14, 3) := by decide +kernel
theorem dX11_table_22 : decode cX11_table 22 = .ok (.iconst (-1), 1) := by decide +kernel
theorem dX11_table_23 : decode cX11_table 23 = .ok (.ireturn, 1) := by decide +kernel
theorem dX11_turned_0 : decode cX11_turned 0 = .ok (.aload_n 0, 1) := by decide +kernel
theorem dX11_turned_1 : decode cX11_turned 1 = .ok (.getfield 77, 3) := by decide +kernel
theorem dX11_turned_4 : decode cX11_turned 4 = .ok (.iload_n 1, 1) := by decide +kernel
theorem dX11_turned_5 : decode cX11_turned 5 = .ok (.invokevirtual 136, 3) := by decide +kernel
theorem dX11_turned_8 : decode cX11_turned 8 = .ok (.ifCond .eq 14, 3) := by decide +kernel
theorem dX11_turned_22 : decode cX11_turned 22 = .ok (.iconst (-1), 1) := by decide +kernel
theorem dX11_turned_23 : decode cX11_turned 23 = .ok (.ireturn, 1) := by decide +kernel
theorem dX11_undo_0 : decode cX11_undo 0 = .ok (.aload_n 0, 1) := by decide +kernel
theorem dX11_undo_1 : decode cX11_undo 1 = .ok (.getfield 35, 3) := by decide +kernel
theorem dX11_undo_4 : decode cX11_undo 4 = .ok (.invokevirtual 196, 3) := by decide +kernel
theorem dX11_undo_7 : decode cX11_undo 7 = .ok (.istore_n 1, 1) := by decide +kernel
theorem dX11_undo_8 : decode cX11_undo 8 = .ok (.iload_n 1, 1) := by decide +kernel
theorem dX11_undo_9 : decode cX11_undo 9 = .ok (.iconst (-1), 1) := by decide +kernel
theorem dX11_undo_10 : decode cX11_undo 10 = .ok (.if_icmp .ne 5, 3) := by decide +kernel
theorem dX11_undo_13 : decode cX11_undo 13 = .ok (.iconst 0, 1) := by decide +kernel
theorem dX11_undo_14 : decode cX11_undo 14 = .ok (.ireturn, 1) := by decide +kernel
theorem dX11_visitors_0 : decode cX11_visitors 0 = .ok (.aload_n 0, 1) := by decide +kernel
theorem dX11_visitors_1 : decode cX11_visitors 1 = .ok (.getfield 77, 3) := by decide +kernel
theorem dX11_visitors_4 : decode cX11_visitors 4 = .ok (.iload_n 1, 1) := by decide +kernel
theorem dX11_visitors_5 : decode cX11_visitors 5 = .ok (.invokevirtual 129, 3) := by decide +kernel
theorem dX11_visitors_8 : decode cX11_visitors 8 = .ok (.ifCond .eq 14, 3) := by decide +kernel
theorem dX11_visitors_22 : decode cX11_visitors 22 = .ok (.iconst (-1), 1) := by decide +kernel
theorem dX11_visitors_23 : decode cX11_visitors 23 = .ok (.ireturn, 1) := by decide +kernel
theorem dX11_way_0 : decode cX11_way 0 = .ok (.aload_n 0, 1) := by decide +kernel
theorem dX11_way_1 : decode cX11_way 1 = .ok (.iload_n 1, 1) := by decide +kernel
theorem dX11_way_2 : decode cX11_way 2 = .ok (.iload_n 2, 1) := by decide +kernel
theorem dX11_way_3 : decode cX11_way 3 = .ok (.iload_n 3, 1) := by decide +kernel
theorem dX11_way_4 : decode cX11_way 4 = .ok (.iload 4, 2) := by decide +kernel
theorem dX11_way_6 : decode cX11_way 6 = .ok (.invokevirtual 204, 3) := by decide +kernel
theorem dX11_way_9 : decode cX11_way 9 = .ok (.ifCond .eq 14, 3) := by decide +kernel
theorem dX11_way_23 : decode cX11_way 23 = .ok (.iconst (-1), 1) := by decide +kernel
theorem dX11_way_24 : decode cX11_way 24 = .ok (.ireturn, 1) := by decide +kernel
theorem dX11_worth_0 : decode cX11_worth 0 = .ok (.aload_n 0, 1) := by decide +kernel
theorem dX11_worth_1 : decode cX11_worth 1 = .ok (.getfield 77, 3) := by decide +kernel
theorem dX11_worth_4 : decode cX11_worth 4 = .ok (.iload_n 2, 1) := by decide +kernel
theorem dX11_worth_5 : decode cX11_worth 5 = .ok (.invokevirtual 136, 3) := by decide +kernel
theorem dX11_worth_8 : decode cX11_worth 8 = .ok (.ifCond .eq 19, 3) := by decide +kernel
theorem dX11_worth_27 : decode cX11_worth 27 = .ok (.iconst (-1), 1) := by decide +kernel
theorem dX11_worth_28 : decode cX11_worth 28 = .ok (.ireturn, 1) := by decide +kernel
theorem dX11_year_0 : decode cX11_year 0 = .ok (.iload_n 2, 1) := by decide +kernel
theorem dX11_year_1 : decode cX11_year 1 = .ok (.iconst 1, 1) := by decide +kernel
theorem dX11_year_2 : decode cX11_year 2 = .ok (.if_icmp .lt 19, 3) := by decide +kernel
theorem dX11_year_5 : decode cX11_year 5 = .ok (.iload_n 2, 1) := by decide +kernel
theorem dX11_year_6 : decode cX11_year 6 = .ok (.sipush 400, 3) := by decide +kernel
theorem dX11_year_9 : decode cX11_year 9 = .ok (.if_icmp .gt 12, 3) := by decide +kernel
theorem dX11_year_12 : decode cX11_year 12 = .ok (.iload_n 3, 1) := by decide +kernel
theorem dX11_year_13 : decode cX11_year 13 = .ok (.ifCond .lt 8, 3) := by decide +kernel
theorem dX11_year_16 : decode cX11_year 16 = .ok (.iload_n 3, 1) := by decide +kernel
theorem dX11_year_17 : decode cX11_year 17 = .ok (.iconst 3, 1) := by decide +kernel
theorem dX11_year_18 : decode cX11_year 18 = .ok (.if_icmp .le 5, 3) := by decide +kernel
theorem dX11_year_21 : decode cX11_year 21 = .ok (.iconst (-1), 1) := by decide +kernel
theorem dX11_year_22 : decode cX11_year 22 = .ok (.ireturn, 1) := by decide +kernel
theorem dX11_year_23 : decode cX11_year 23 = .ok (.aload_n 0, 1) := by decide +kernel
theorem dX11_year_24 : decode cX11_year 24 = .ok (.getfield 63, 3) := by decide +kernel
theorem dX11_year_27 : decode cX11_year 27 = .ok (.aload_n 0, 1) := by decide +kernel
theorem dX11_year_28 : decode cX11_year 28 = .ok (.getfield 77, 3) := by decide +kernel
theorem dX11_year_31 : decode cX11_year 31 = .ok (.aload_n 0, 1) := by decide +kernel
theorem dX11_year_32 : decode cX11_year 32 = .ok (.getfield 24, 3) := by decide +kernel
theorem dX11_year_35 : decode cX11_year 35 = .ok (.iload_n 1, 1) := by decide +kernel
theorem dX11_year_36 : decode cX11_year 36 = .ok (.iload_n 2, 1) := by decide +kernel
theorem dX11_year_37 : decode cX11_year 37 = .ok (.invokevirtual 272, 3) := by decide +kernel
theorem dX11_year_40 : decode cX11_year 40 = .ok (.iload_n 3, 1) := by decide +kernel
theorem dX11_year_41 : decode cX11_year 41 = .ok (.tableswitch 54 0 2 #[27, 35, 43], 27) := by decide +kernel
theorem dX11_year_68 : decode cX11_year 68 = .ok (.aload_n 0, 1) := by decide +kernel
theorem dX11_year_69 : decode cX11_year 69 = .ok (.getfield 63, 3) := by decide +kernel
theorem dX11_year_72 : decode cX11_year 72 = .ok (.getfield 276, 3) := by decide +kernel
theorem dX11_year_75 : decode cX11_year 75 = .ok (.ireturn, 1) := by decide +kernel
theorem dX11_year_76 : decode cX11_year 76 = .ok (.aload_n 0, 1) := by decide +kernel
theorem dX11_year_77 : decode cX11_year 77 = .ok (.getfield 63, 3) := by decide +kernel
theorem dX11_year_80 : decode cX11_year 80 = .ok (.getfield 279, 3) := by decide +kernel
theorem dX11_year_83 : decode cX11_year 83 = .ok (.ireturn, 1) := by decide +kernel
theorem dX11_year_84 : decode cX11_year 84 = .ok (.aload_n 0, 1) := by decide +kernel
theorem dX11_year_85 : decode cX11_year 85 = .ok (.getfield 63, 3) := by decide +kernel
theorem dX11_year_88 : decode cX11_year 88 = .ok (.getfield 281, 3) := by decide +kernel
theorem dX11_year_91 : decode cX11_year 91 = .ok (.invokevirtual 284, 3) := by decide +kernel
theorem dX11_year_94 : decode cX11_year 94 = .ok (.ireturn, 1) := by decide +kernel
theorem dX11_year_95 : decode cX11_year 95 = .ok (.aload_n 0, 1) := by decide +kernel
theorem dX11_year_96 : decode cX11_year 96 = .ok (.getfield 63, 3) := by decide +kernel
theorem dX11_year_99 : decode cX11_year 99 = .ok (.getfield 281, 3) := by decide +kernel
theorem dX11_year_102 : decode cX11_year 102 = .ok (.aload_n 0, 1) := by decide +kernel
theorem dX11_year_103 : decode cX11_year 103 = .ok (.getfield 77, 3) := by decide +kernel
theorem dX11_year_106 : decode cX11_year 106 = .ok (.invokevirtual 287, 3) := by decide +kernel
theorem dX11_year_109 : decode cX11_year 109 = .ok (.ireturn, 1) := by decide +kernel
theorem dX12_adds_0 : decode cX12_adds 0 = .ok (.lconst 1, 1) := by decide +kernel
theorem dX12_adds_1 : decode cX12_adds 1 = .ok (.lstore_n 2, 1) := by decide +kernel
theorem dX12_adds_2 : decode cX12_adds 2 = .ok (.iconst 0, 1) := by decide +kernel
theorem dX12_adds_3 : decode cX12_adds 3 = .ok (.istore 4, 2) := by decide +kernel
theorem dX12_adds_5 : decode cX12_adds 5 = .ok (.iload 4, 2) := by decide +kernel
theorem dX12_adds_7 : decode cX12_adds 7 = .ok (.aload_n 0, 1) := by decide +kernel
theorem dX12_adds_8 : decode cX12_adds 8 = .ok (.getfield 74, 3) := by decide +kernel
theorem dX12_adds_11 : decode cX12_adds 11 = .ok (.aload_n 0, 1) := by decide +kernel
theorem dX12_adds_12 : decode cX12_adds 12 = .ok (.getfield 266, 3) := by decide +kernel
theorem dX12_adds_15 : decode cX12_adds 15 = .ok (.iaload, 1) := by decide +kernel
theorem dX12_adds_16 : decode cX12_adds 16 = .ok (.if_icmp .ge 29, 3) := by decide +kernel
theorem dX12_adds_45 : decode cX12_adds 45 = .ok (.aload_n 0, 1) := by decide +kernel
theorem dX12_adds_46 : decode cX12_adds 46 = .ok (.dup, 1) := by decide +kernel
theorem dX12_adds_47 : decode cX12_adds 47 = .ok (.getfield 531, 3) := by decide +kernel
theorem dX12_adds_50 : decode cX12_adds 50 = .ok (.lload_n 2, 1) := by decide +kernel
theorem dX12_adds_51 : decode cX12_adds 51 = .ok (.ladd, 1) := by decide +kernel
theorem dX12_adds_52 : decode cX12_adds 52 = .ok (.putfield 531, 3) := by decide +kernel
theorem dX12_adds_55 : decode cX12_adds 55 = .ok (.iconst 0, 1) := by decide +kernel
theorem dX12_adds_56 : decode cX12_adds 56 = .ok (.istore 4, 2) := by decide +kernel
theorem dX12_adds_58 : decode cX12_adds 58 = .ok (.iload 4, 2) := by decide +kernel
theorem dX12_adds_60 : decode cX12_adds 60 = .ok (.aload_n 0, 1) := by decide +kernel
theorem dX12_adds_61 : decode cX12_adds 61 = .ok (.getfield 74, 3) := by decide +kernel
theorem dX12_adds_64 : decode cX12_adds 64 = .ok (.aload_n 0, 1) := by decide +kernel
theorem dX12_adds_65 : decode cX12_adds 65 = .ok (.getfield 266, 3) := by decide +kernel
theorem dX12_adds_68 : decode cX12_adds 68 = .ok (.iaload, 1) := by decide +kernel
theorem dX12_adds_69 : decode cX12_adds 69 = .ok (.if_icmp .ge 80, 3) := by decide +kernel
theorem dX12_adds_149 : decode cX12_adds 149 = .ok (.return_, 1) := by decide +kernel
theorem dX12_appends_0 : decode cX12_appends 0 = .ok (.iload_n 2, 1) := by decide +kernel
theorem dX12_appends_1 : decode cX12_appends 1 = .ok (.ifCond .ne 7, 3) := by decide +kernel
theorem dX12_appends_4 : decode cX12_appends 4 = .ok (.lload_n 0, 1) := by decide +kernel
theorem dX12_appends_5 : decode cX12_appends 5 = .ok (.goto 16, 3) := by decide +kernel
theorem dX12_appends_8 : decode cX12_appends 8 = .ok (.ldc2_w 212, 3) := by decide +kernel
theorem dX12_appends_11 : decode cX12_appends 11 = .ok (.lload_n 0, 1) := by decide +kernel
theorem dX12_appends_12 : decode cX12_appends 12 = .ok (.lmul, 1) := by decide +kernel
theorem dX12_appends_13 : decode cX12_appends 13 = .ok (.iload_n 2, 1) := by decide +kernel
theorem dX12_appends_14 : decode cX12_appends 14 = .ok (.bipush 97, 2) := by decide +kernel
theorem dX12_appends_16 : decode cX12_appends 16 = .ok (.isub, 1) := by decide +kernel
theorem dX12_appends_17 : decode cX12_appends 17 = .ok (.iconst 1, 1) := by decide +kernel
theorem dX12_appends_18 : decode cX12_appends 18 = .ok (.iadd, 1) := by decide +kernel
theorem dX12_appends_19 : decode cX12_appends 19 = .ok (.i2l, 1) := by decide +kernel
theorem dX12_appends_20 : decode cX12_appends 20 = .ok (.ladd, 1) := by decide +kernel
theorem dX12_appends_21 : decode cX12_appends 21 = .ok (.lreturn, 1) := by decide +kernel
theorem dX12_back_0 : decode cX12_back 0 = .ok (.iload_n 1, 1) := by decide +kernel
theorem dX12_back_1 : decode cX12_back 1 = .ok (.ifCond .lt 11, 3) := by decide +kernel
theorem dX12_back_4 : decode cX12_back 4 = .ok (.iload_n 1, 1) := by decide +kernel
theorem dX12_back_5 : decode cX12_back 5 = .ok (.aload_n 0, 1) := by decide +kernel
theorem dX12_back_6 : decode cX12_back 6 = .ok (.getfield 202, 3) := by decide +kernel
theorem dX12_back_9 : decode cX12_back 9 = .ok (.if_icmp .le 5, 3) := by decide +kernel
theorem dX12_back_12 : decode cX12_back 12 = .ok (.iconst (-1), 1) := by decide +kernel
theorem dX12_back_13 : decode cX12_back 13 = .ok (.ireturn, 1) := by decide +kernel
theorem dX12_back_14 : decode cX12_back 14 = .ok (.aload_n 0, 1) := by decide +kernel
theorem dX12_back_15 : decode cX12_back 15 = .ok (.dup, 1) := by decide +kernel
theorem dX12_back_16 : decode cX12_back 16 = .ok (.getfield 202, 3) := by decide +kernel
theorem dX12_back_19 : decode cX12_back 19 = .ok (.iload_n 1, 1) := by decide +kernel
theorem dX12_back_20 : decode cX12_back 20 = .ok (.isub, 1) := by decide +kernel
theorem dX12_back_21 : decode cX12_back 21 = .ok (.putfield 202, 3) := by decide +kernel
theorem dX12_back_24 : decode cX12_back 24 = .ok (.aload_n 0, 1) := by decide +kernel
theorem dX12_back_25 : decode cX12_back 25 = .ok (.getfield 202, 3) := by decide +kernel
theorem dX12_back_28 : decode cX12_back 28 = .ok (.ireturn, 1) := by decide +kernel
theorem dX12_begins_0 : decode cX12_begins 0 = .ok (.iconst 0, 1) := by decide +kernel
theorem dX12_begins_1 : decode cX12_begins 1 = .ok (.istore_n 1, 1) := by decide +kernel
theorem dX12_begins_2 : decode cX12_begins 2 = .ok (.iload_n 1, 1) := by decide +kernel
theorem dX12_begins_3 : decode cX12_begins 3 = .ok (.bipush 80, 2) := by decide +kernel
theorem dX12_begins_5 : decode cX12_begins 5 = .ok (.if_icmp .ge 16, 3) := by decide +kernel
theorem dX12_begins_8 : decode cX12_begins 8 = .ok (.aload_n 0, 1) := by decide +kernel
theorem dX12_begins_9 : decode cX12_begins 9 = .ok (.getfield 95, 3) := by decide +kernel
theorem dX12_begins_12 : decode cX12_begins 12 = .ok (.iload_n 1, 1) := by decide +kernel
theorem dX12_begins_13 : decode cX12_begins 13 = .ok (.iconst 0, 1) := by decide +kernel
theorem dX12_begins_14 : decode cX12_begins 14 = .ok (.iastore, 1) := by decide +kernel
theorem dX12_begins_15 : decode cX12_begins 15 = .ok (.iinc 1 1, 3) := by decide +kernel
theorem dX12_begins_18 : decode cX12_begins 18 = .ok (.goto (-16), 3) := by decide +kernel
theorem dX12_begins_21 : decode cX12_begins 21 = .ok (.iconst 0, 1) := by decide +kernel
theorem dX12_begins_22 : decode cX12_begins 22 = .ok (.istore_n 1, 1) := by decide +kernel
theorem dX12_begins_23 : decode cX12_begins 23 = .ok (.iload_n 1, 1) := by decide +kernel
theorem dX12_begins_24 : decode cX12_begins 24 = .ok (.bipush 50, 2) := by decide +kernel
theorem dX12_begins_26 : decode cX12_begins 26 = .ok (.if_icmp .ge 29, 3) := by decide +kernel
theorem dX12_begins_29 : decode cX12_begins 29 = .ok (.aload_n 0, 1) := by decide +kernel
theorem dX12_begins_30 : decode cX12_begins 30 = .ok (.getfield 95, 3) := by decide +kernel
theorem dX12_begins_33 : decode cX12_begins 33 = .ok (.iload_n 1, 1) := by decide +kernel
theorem dX12_begins_34 : decode cX12_begins 34 = .ok (.aload_n 0, 1) := by decide +kernel
theorem dX12_begins_35 : decode cX12_begins 35 = .ok (.getfield 61, 3) := by decide +kernel
theorem dX12_begins_38 : decode cX12_begins 38 = .ok (.bipush 50, 2) := by decide +kernel
theorem dX12_begins_40 : decode cX12_begins 40 = .ok (.aload_n 0, 1) := by decide +kernel
theorem dX12_begins_41 : decode cX12_begins 41 = .ok (.getfield 266, 3) := by decide +kernel
theorem dX12_begins_44 : decode cX12_begins 44 = .ok (.imul, 1) := by decide +kernel
theorem dX12_begins_45 : decode cX12_begins 45 = .ok (.iload_n 1, 1) := by decide +kernel
theorem dX12_begins_46 : decode cX12_begins 46 = .ok (.iadd, 1) := by decide +kernel
theorem dX12_begins_47 : decode cX12_begins 47 = .ok (.iaload, 1) := by decide +kernel
theorem dX12_begins_48 : decode cX12_begins 48 = .ok (.iastore, 1) := by decide +kernel
theorem dX12_begins_49 : decode cX12_begins 49 = .ok (.iinc 1 1, 3) := by decide +kernel
theorem dX12_begins_52 : decode cX12_begins 52 = .ok (.goto (-29), 3) := by decide +kernel
theorem dX12_begins_55 : decode cX12_begins 55 = .ok (.iconst 0, 1) := by decide +kernel
theorem dX12_begins_56 : decode cX12_begins 56 = .ok (.istore_n 1, 1) := by decide +kernel
theorem dX12_begins_57 : decode cX12_begins 57 = .ok (.iload_n 1, 1) := by decide +kernel
theorem dX12_begins_58 : decode cX12_begins 58 = .ok (.aload_n 0, 1) := by decide +kernel
theorem dX12_begins_59 : decode cX12_begins 59 = .ok (.getfield 74, 3) := by decide +kernel
theorem dX12_begins_62 : decode cX12_begins 62 = .ok (.aload_n 0, 1) := by decide +kernel
theorem dX12_begins_63 : decode cX12_begins 63 = .ok (.getfield 266, 3) := by decide +kernel
theorem dX12_begins_66 : decode cX12_begins 66 = .ok (.iaload, 1) := by decide +kernel
theorem dX12_begins_67 : decode cX12_begins 67 = .ok (.if_icmp .ge 37, 3) := by decide +kernel
theorem dX12_begins_104 : decode cX12_begins 104 = .ok (.return_, 1) := by decide +kernel
theorem dX12_buy_0 : decode cX12_buy 0 = .ok (.aload_n 0, 1) := by decide +kernel
theorem dX12_buy_1 : decode cX12_buy 1 = .ok (.iload_n 1, 1) := by decide +kernel
theorem dX12_buy_2 : decode cX12_buy 2 = .ok (.invokevirtual 356, 3) := by decide +kernel
theorem dX12_buy_5 : decode cX12_buy 5 = .ok (.ifCond .eq 11, 3) := by decide +kernel
theorem dX12_buy_16 : decode cX12_buy 16 = .ok (.iconst (-1), 1) := by decide +kernel
theorem dX12_buy_17 : decode cX12_buy 17 = .ok (.ireturn, 1) := by decide +kernel
theorem dX12_byteAt_0 : decode cX12_byteAt 0 = .ok (.iload_n 1, 1) := by decide +kernel
theorem dX12_byteAt_1 : decode cX12_byteAt 1 = .ok (.aload_n 0, 1) := by decide +kernel
theorem dX12_byteAt_2 : decode cX12_byteAt 2 = .ok (.getfield 209, 3) := by decide +kernel
theorem dX12_byteAt_5 : decode cX12_byteAt 5 = .ok (.if_icmp .ge 16, 3) := by decide +kernel
theorem dX12_byteAt_21 : decode cX12_byteAt 21 = .ok (.iconst 0, 1) := by decide +kernel
theorem dX12_byteAt_22 : decode cX12_byteAt 22 = .ok (.ireturn, 1) := by decide +kernel
theorem dX12_canAsk_0 : decode cX12_canAsk 0 = .ok (.aload_n 0, 1) := by decide +kernel
theorem dX12_canAsk_1 : decode cX12_canAsk 1 = .ok (.iload_n 1, 1) := by decide +kernel
theorem dX12_canAsk_2 : decode cX12_canAsk 2 = .ok (.invokevirtual 356, 3) := by decide +kernel
theorem dX12_canAsk_5 : decode cX12_canAsk 5 = .ok (.ifCond .eq 38, 3) := by decide +kernel
theorem dX12_canAsk_43 : decode cX12_canAsk 43 = .ok (.iconst 0, 1) := by decide +kernel
theorem dX12_canAsk_44 : decode cX12_canAsk 44 = .ok (.ireturn, 1) := by decide +kernel
theorem dX12_carried_0 : decode cX12_carried 0 = .ok (.aload_n 0, 1) := by decide +kernel
theorem dX12_carried_1 : decode cX12_carried 1 = .ok (.iload_n 1, 1) := by decide +kernel
theorem dX12_carried_2 : decode cX12_carried 2 = .ok (.invokevirtual 353, 3) := by decide +kernel
theorem dX12_carried_5 : decode cX12_carried 5 = .ok (.ifCond .eq 11, 3) := by decide +kernel
theorem dX12_carried_16 : decode cX12_carried 16 = .ok (.iconst (-1), 1) := by decide +kernel
theorem dX12_carried_17 : decode cX12_carried 17 = .ok (.ireturn, 1) := by decide +kernel
theorem dX12_count_0 : decode cX12_count 0 = .ok (.iload_n 1, 1) := by decide +kernel
theorem dX12_count_1 : decode cX12_count 1 = .ok (.tableswitch 246 0 11 #[63, 73, 83, 93, 103, 113, 123, 128, 133, 138, 183, 210], 63) := by decide +kernel
theorem dX12_count_64 : decode cX12_count 64 = .ok (.aload_n 0, 1) := by decide +kernel
theorem dX12_count_65 : decode cX12_count 65 = .ok (.getfield 49, 3) := by decide +kernel
theorem dX12_count_68 : decode cX12_count 68 = .ok (.aload_n 0, 1) := by decide +kernel
theorem dX12_count_69 : decode cX12_count 69 = .ok (.getfield 266, 3) := by decide +kernel
theorem dX12_count_72 : decode cX12_count 72 = .ok (.iaload, 1) := by decide +kernel
theorem dX12_count_73 : decode cX12_count 73 = .ok (.ireturn, 1) := by decide +kernel
theorem dX12_count_74 : decode cX12_count 74 = .ok (.aload_n 0, 1) := by decide +kernel
theorem dX12_count_75 : decode cX12_count 75 = .ok (.getfield 55, 3) := by decide +kernel
theorem dX12_count_78 : decode cX12_count 78 = .ok (.aload_n 0, 1) := by decide +kernel
theorem dX12_count_79 : decode cX12_count 79 = .ok (.getfield 266, 3) := by decide +kernel
theorem dX12_count_82 : decode cX12_count 82 = .ok (.iaload, 1) := by decide +kernel
theorem dX12_count_83 : decode cX12_count 83 = .ok (.ireturn, 1) := by decide +kernel
theorem dX12_count_84 : decode cX12_count 84 = .ok (.aload_n 0, 1) := by decide +kernel
theorem dX12_count_85 : decode cX12_count 85 = .ok (.getfield 68, 3) := by decide +kernel
theorem dX12_count_88 : decode cX12_count 88 = .ok (.aload_n 0, 1) := by decide +kernel
theorem dX12_count_89 : decode cX12_count 89 = .ok (.getfield 266, 3) := by decide +kernel
theorem dX12_count_92 : decode cX12_count 92 = .ok (.iaload, 1) := by decide +kernel
theorem dX12_count_93 : decode cX12_count 93 = .ok (.ireturn, 1) := by decide +kernel
theorem dX12_count_94 : decode cX12_count 94 = .ok (.aload_n 0, 1) := by decide +kernel
theorem dX12_count_95 : decode cX12_count 95 = .ok (.getfield 74, 3) := by decide +kernel
theorem dX12_count_98 : decode cX12_count 98 = .ok (.aload_n 0, 1) := by decide +kernel
theorem dX12_count_99 : decode cX12_count 99 = .ok (.getfield 266, 3) := by decide +kernel
theorem dX12_count_102 : decode cX12_count 102 = .ok (.iaload, 1) := by decide +kernel
theorem dX12_count_103 : decode cX12_count 103 = .ok (.ireturn, 1) := by decide +kernel
theorem dX12_count_104 : decode cX12_count 104 = .ok (.aload_n 0, 1) := by decide +kernel
theorem dX12_count_105 : decode cX12_count 105 = .ok (.getfield 86, 3) := by decide +kernel
theorem dX12_count_108 : decode cX12_count 108 = .ok (.aload_n 0, 1) := by decide +kernel
theorem dX12_count_109 : decode cX12_count 109 = .ok (.getfield 266, 3) := by decide +kernel
theorem dX12_count_112 : decode cX12_count 112 = .ok (.iaload, 1) := by decide +kernel
theorem dX12_count_113 : decode cX12_count 113 = .ok (.ireturn, 1) := by decide +kernel
theorem dX12_count_114 : decode cX12_count 114 = .ok (.aload_n 0, 1) := by decide +kernel
theorem dX12_count_115 : decode cX12_count 115 = .ok (.getfield 83, 3) := by decide +kernel
theorem dX12_count_118 : decode cX12_count 118 = .ok (.aload_n 0, 1) := by decide +kernel
theorem dX12_count_119 : decode cX12_count 119 = .ok (.getfield 266, 3) := by decide +kernel
theorem dX12_count_122 : decode cX12_count 122 = .ok (.iaload, 1) := by decide +kernel
theorem dX12_count_123 : decode cX12_count 123 = .ok (.ireturn, 1) := by decide +kernel
theorem dX12_count_124 : decode cX12_count 124 = .ok (.aload_n 0, 1) := by decide +kernel
theorem dX12_count_125 : decode cX12_count 125 = .ok (.getfield 202, 3) := by decide +kernel
theorem dX12_count_128 : decode cX12_count 128 = .ok (.ireturn, 1) := by decide +kernel
theorem dX12_count_129 : decode cX12_count 129 = .ok (.aload_n 0, 1) := by decide +kernel
theorem dX12_count_130 : decode cX12_count 130 = .ok (.getfield 281, 3) := by decide +kernel
theorem dX12_count_133 : decode cX12_count 133 = .ok (.ireturn, 1) := by decide +kernel
theorem dX12_count_134 : decode cX12_count 134 = .ok (.aload_n 0, 1) := by decide +kernel
theorem dX12_count_135 : decode cX12_count 135 = .ok (.getfield 284, 3) := by decide +kernel
theorem dX12_count_138 : decode cX12_count 138 = .ok (.ireturn, 1) := by decide +kernel
theorem dX12_count_139 : decode cX12_count 139 = .ok (.aload_n 0, 1) := by decide +kernel
theorem dX12_count_140 : decode cX12_count 140 = .ok (.getfield 188, 3) := by decide +kernel
theorem dX12_count_143 : decode cX12_count 143 = .ok (.iconst 0, 1) := by decide +kernel
theorem dX12_count_144 : decode cX12_count 144 = .ok (.baload, 1) := by decide +kernel
theorem dX12_count_145 : decode cX12_count 145 = .ok (.ifCond .eq 7, 3) := by decide +kernel
theorem dX12_count_152 : decode cX12_count 152 = .ok (.iconst 0, 1) := by decide +kernel
theorem dX12_count_153 : decode cX12_count 153 = .ok (.aload_n 0, 1) := by decide +kernel
theorem dX12_count_154 : decode cX12_count 154 = .ok (.getfield 188, 3) := by decide +kernel
theorem dX12_count_157 : decode cX12_count 157 = .ok (.iconst 1, 1) := by decide +kernel
theorem dX12_count_158 : decode cX12_count 158 = .ok (.baload, 1) := by decide +kernel
theorem dX12_count_159 : decode cX12_count 159 = .ok (.ifCond .eq 7, 3) := by decide +kernel
theorem dX12_count_166 : decode cX12_count 166 = .ok (.iconst 0, 1) := by decide +kernel
theorem dX12_count_167 : decode cX12_count 167 = .ok (.iadd, 1) := by decide +kernel
theorem dX12_count_168 : decode cX12_count 168 = .ok (.aload_n 0, 1) := by decide +kernel
theorem dX12_count_169 : decode cX12_count 169 = .ok (.getfield 188, 3) := by decide +kernel
theorem dX12_count_172 : decode cX12_count 172 = .ok (.iconst 2, 1) := by decide +kernel
theorem dX12_count_173 : decode cX12_count 173 = .ok (.baload, 1) := by decide +kernel
theorem dX12_count_174 : decode cX12_count 174 = .ok (.ifCond .eq 7, 3) := by decide +kernel
theorem dX12_count_181 : decode cX12_count 181 = .ok (.iconst 0, 1) := by decide +kernel
theorem dX12_count_182 : decode cX12_count 182 = .ok (.iadd, 1) := by decide +kernel
theorem dX12_count_183 : decode cX12_count 183 = .ok (.ireturn, 1) := by decide +kernel
theorem dX12_count_184 : decode cX12_count 184 = .ok (.iconst 0, 1) := by decide +kernel
theorem dX12_count_185 : decode cX12_count 185 = .ok (.istore_n 2, 1) := by decide +kernel
theorem dX12_count_186 : decode cX12_count 186 = .ok (.iconst 0, 1) := by decide +kernel
theorem dX12_count_187 : decode cX12_count 187 = .ok (.istore_n 3, 1) := by decide +kernel
theorem dX12_count_188 : decode cX12_count 188 = .ok (.iload_n 3, 1) := by decide +kernel
theorem dX12_count_189 : decode cX12_count 189 = .ok (.bipush 50, 2) := by decide +kernel
theorem dX12_count_191 : decode cX12_count 191 = .ok (.if_icmp .ge 18, 3) := by decide +kernel
theorem dX12_count_194 : decode cX12_count 194 = .ok (.iload_n 2, 1) := by decide +kernel
theorem dX12_count_195 : decode cX12_count 195 = .ok (.aload_n 0, 1) := by decide +kernel
theorem dX12_count_196 : decode cX12_count 196 = .ok (.getfield 95, 3) := by decide +kernel
theorem dX12_count_199 : decode cX12_count 199 = .ok (.iload_n 3, 1) := by decide +kernel
theorem dX12_count_200 : decode cX12_count 200 = .ok (.iaload, 1) := by decide +kernel
theorem dX12_count_201 : decode cX12_count 201 = .ok (.iadd, 1) := by decide +kernel
theorem dX12_count_202 : decode cX12_count 202 = .ok (.istore_n 2, 1) := by decide +kernel
theorem dX12_count_203 : decode cX12_count 203 = .ok (.iinc 3 1, 3) := by decide +kernel
theorem dX12_count_206 : decode cX12_count 206 = .ok (.goto (-18), 3) := by decide +kernel
theorem dX12_count_209 : decode cX12_count 209 = .ok (.iload_n 2, 1) := by decide +kernel
theorem dX12_count_210 : decode cX12_count 210 = .ok (.ireturn, 1) := by decide +kernel
theorem dX12_count_211 : decode cX12_count 211 = .ok (.iconst 0, 1) := by decide +kernel
theorem dX12_count_212 : decode cX12_count 212 = .ok (.istore_n 2, 1) := by decide +kernel
theorem dX12_count_213 : decode cX12_count 213 = .ok (.iconst 0, 1) := by decide +kernel
theorem dX12_count_214 : decode cX12_count 214 = .ok (.istore_n 3, 1) := by decide +kernel
theorem dX12_count_215 : decode cX12_count 215 = .ok (.iload_n 3, 1) := by decide +kernel
theorem dX12_count_216 : decode cX12_count 216 = .ok (.aload_n 0, 1) := by decide +kernel
theorem dX12_count_217 : decode cX12_count 217 = .ok (.getfield 74, 3) := by decide +kernel
theorem dX12_count_220 : decode cX12_count 220 = .ok (.aload_n 0, 1) := by decide +kernel
theorem dX12_count_221 : decode cX12_count 221 = .ok (.getfield 266, 3) := by decide +kernel
theorem dX12_count_224 : decode cX12_count 224 = .ok (.iaload, 1) := by decide +kernel
theorem dX12_count_225 : decode cX12_count 225 = .ok (.if_icmp .ge 20, 3) := by decide +kernel
theorem dX12_count_245 : decode cX12_count 245 = .ok (.iload_n 2, 1) := by decide +kernel
theorem dX12_count_246 : decode cX12_count 246 = .ok (.ireturn, 1) := by decide +kernel
theorem dX12_count_247 : decode cX12_count 247 = .ok (.iconst (-1), 1) := by decide +kernel
theorem dX12_count_248 : decode cX12_count 248 = .ok (.ireturn, 1) := by decide +kernel
theorem dX12_counts_0 : decode cX12_counts 0 = .ok (.aload_n 0, 1) := by decide +kernel
theorem dX12_counts_1 : decode cX12_counts 1 = .ok (.iload_n 1, 1) := by decide +kernel
theorem dX12_counts_2 : decode cX12_counts 2 = .ok (.iload_n 2, 1) := by decide +kernel
theorem dX12_counts_3 : decode cX12_counts 3 = .ok (.invokevirtual 528, 3) := by decide +kernel
theorem dX12_counts_6 : decode cX12_counts 6 = .ok (.aload_n 0, 1) := by decide +kernel
theorem dX12_counts_7 : decode cX12_counts 7 = .ok (.lconst 0, 1) := by decide +kernel
theorem dX12_counts_8 : decode cX12_counts 8 = .ok (.putfield 531, 3) := by decide +kernel
theorem dX12_counts_11 : decode cX12_counts 11 = .ok (.iconst 0, 1) := by decide +kernel
theorem dX12_counts_12 : decode cX12_counts 12 = .ok (.istore_n 3, 1) := by decide +kernel
theorem dX12_counts_13 : decode cX12_counts 13 = .ok (.iload_n 3, 1) := by decide +kernel
theorem dX12_counts_14 : decode cX12_counts 14 = .ok (.bipush 6, 2) := by decide +kernel
theorem dX12_counts_16 : decode cX12_counts 16 = .ok (.if_icmp .ge 23, 3) := by decide +kernel
theorem dX12_counts_19 : decode cX12_counts 19 = .ok (.aload_n 0, 1) := by decide +kernel
theorem dX12_counts_20 : decode cX12_counts 20 = .ok (.getfield 182, 3) := by decide +kernel
theorem dX12_counts_23 : decode cX12_counts 23 = .ok (.iload_n 3, 1) := by decide +kernel
theorem dX12_counts_24 : decode cX12_counts 24 = .ok (.lconst 0, 1) := by decide +kernel
theorem dX12_counts_25 : decode cX12_counts 25 = .ok (.lastore, 1) := by decide +kernel
theorem dX12_counts_26 : decode cX12_counts 26 = .ok (.aload_n 0, 1) := by decide +kernel
theorem dX12_counts_27 : decode cX12_counts 27 = .ok (.getfield 179, 3) := by decide +kernel
theorem dX12_counts_30 : decode cX12_counts 30 = .ok (.iload_n 3, 1) := by decide +kernel
theorem dX12_counts_31 : decode cX12_counts 31 = .ok (.iconst 0, 1) := by decide +kernel
theorem dX12_counts_32 : decode cX12_counts 32 = .ok (.iastore, 1) := by decide +kernel
theorem dX12_counts_33 : decode cX12_counts 33 = .ok (.iinc 3 1, 3) := by decide +kernel
theorem dX12_counts_36 : decode cX12_counts 36 = .ok (.goto (-23), 3) := by decide +kernel
theorem dX12_counts_39 : decode cX12_counts 39 = .ok (.aload_n 0, 1) := by decide +kernel
theorem dX12_counts_40 : decode cX12_counts 40 = .ok (.getfield 525, 3) := by decide +kernel
theorem dX12_counts_43 : decode cX12_counts 43 = .ok (.aload_n 0, 1) := by decide +kernel
theorem dX12_counts_44 : decode cX12_counts 44 = .ok (.getfield 74, 3) := by decide +kernel
theorem dX12_counts_47 : decode cX12_counts 47 = .ok (.aload_n 0, 1) := by decide +kernel
theorem dX12_counts_48 : decode cX12_counts 48 = .ok (.getfield 266, 3) := by decide +kernel
theorem dX12_counts_51 : decode cX12_counts 51 = .ok (.iaload, 1) := by decide +kernel
theorem dX12_counts_52 : decode cX12_counts 52 = .ok (.if_icmp .le 4, 3) := by decide +kernel
theorem dX12_counts_56 : decode cX12_counts 56 = .ok (.iconst 1, 1) := by decide +kernel
theorem dX12_counts_57 : decode cX12_counts 57 = .ok (.istore_n 3, 1) := by decide +kernel
theorem dX12_counts_58 : decode cX12_counts 58 = .ok (.iload_n 3, 1) := by decide +kernel
theorem dX12_counts_59 : decode cX12_counts 59 = .ok (.ifCond .eq 98, 3) := by decide +kernel
theorem dX12_counts_62 : decode cX12_counts 62 = .ok (.aload_n 0, 1) := by decide +kernel
theorem dX12_counts_63 : decode cX12_counts 63 = .ok (.invokevirtual 535, 3) := by decide +kernel
theorem dX12_counts_66 : decode cX12_counts 66 = .ok (.ifCond .eq 8, 3) := by decide +kernel
theorem dX12_counts_69 : decode cX12_counts 69 = .ok (.aload_n 0, 1) := by decide +kernel
theorem dX12_counts_70 : decode cX12_counts 70 = .ok (.iload_n 2, 1) := by decide +kernel
theorem dX12_counts_71 : decode cX12_counts 71 = .ok (.invokevirtual 538, 3) := by decide +kernel
theorem dX12_counts_74 : decode cX12_counts 74 = .ok (.iconst 0, 1) := by decide +kernel
theorem dX12_counts_75 : decode cX12_counts 75 = .ok (.istore 4, 2) := by decide +kernel
theorem dX12_counts_77 : decode cX12_counts 77 = .ok (.iload 4, 2) := by decide +kernel
theorem dX12_counts_79 : decode cX12_counts 79 = .ok (.aload_n 0, 1) := by decide +kernel
theorem dX12_counts_80 : decode cX12_counts 80 = .ok (.getfield 74, 3) := by decide +kernel
theorem dX12_counts_83 : decode cX12_counts 83 = .ok (.aload_n 0, 1) := by decide +kernel
theorem dX12_counts_84 : decode cX12_counts 84 = .ok (.getfield 266, 3) := by decide +kernel
theorem dX12_counts_87 : decode cX12_counts 87 = .ok (.iaload, 1) := by decide +kernel
theorem dX12_counts_88 : decode cX12_counts 88 = .ok (.if_icmp .ge 31, 3) := by decide +kernel
theorem dX12_counts_119 : decode cX12_counts 119 = .ok (.iload 4, 2) := by decide +kernel
theorem dX12_counts_121 : decode cX12_counts 121 = .ok (.aload_n 0, 1) := by decide +kernel
theorem dX12_counts_122 : decode cX12_counts 122 = .ok (.getfield 74, 3) := by decide +kernel
theorem dX12_counts_125 : decode cX12_counts 125 = .ok (.aload_n 0, 1) := by decide +kernel
theorem dX12_counts_126 : decode cX12_counts 126 = .ok (.getfield 266, 3) := by decide +kernel
theorem dX12_counts_129 : decode cX12_counts 129 = .ok (.iaload, 1) := by decide +kernel
theorem dX12_counts_130 : decode cX12_counts 130 = .ok (.if_icmp .ge 7, 3) := by decide +kernel
theorem dX12_counts_137 : decode cX12_counts 137 = .ok (.iconst 0, 1) := by decide +kernel
theorem dX12_counts_138 : decode cX12_counts 138 = .ok (.istore_n 3, 1) := by decide +kernel
theorem dX12_counts_139 : decode cX12_counts 139 = .ok (.iload_n 3, 1) := by decide +kernel
theorem dX12_counts_140 : decode cX12_counts 140 = .ok (.ifCond .eq 14, 3) := by decide +kernel
theorem dX12_counts_154 : decode cX12_counts 154 = .ok (.goto (-96), 3) := by decide +kernel
theorem dX12_counts_157 : decode cX12_counts 157 = .ok (.return_, 1) := by decide +kernel
theorem dX12_cut_0 : decode cX12_cut 0 = .ok (.aload_n 0, 1) := by decide +kernel
theorem dX12_cut_1 : decode cX12_cut 1 = .ok (.iconst 0, 1) := by decide +kernel
theorem dX12_cut_2 : decode cX12_cut 2 = .ok (.putfield 214, 3) := by decide +kernel
theorem dX12_cut_5 : decode cX12_cut 5 = .ok (.iconst 0, 1) := by decide +kernel
theorem dX12_cut_6 : decode cX12_cut 6 = .ok (.istore_n 1, 1) := by decide +kernel
theorem dX12_cut_7 : decode cX12_cut 7 = .ok (.aload_n 0, 1) := by decide +kernel
theorem dX12_cut_8 : decode cX12_cut 8 = .ok (.getfield 214, 3) := by decide +kernel
theorem dX12_cut_11 : decode cX12_cut 11 = .ok (.sipush 400, 3) := by decide +kernel
theorem dX12_cut_14 : decode cX12_cut 14 = .ok (.if_icmp .gt 280, 3) := by decide +kernel
theorem dX12_cut_17 : decode cX12_cut 17 = .ok (.aload_n 0, 1) := by decide +kernel
theorem dX12_cut_18 : decode cX12_cut 18 = .ok (.iload_n 1, 1) := by decide +kernel
theorem dX12_cut_19 : decode cX12_cut 19 = .ok (.invokevirtual 217, 3) := by decide +kernel
theorem dX12_cut_22 : decode cX12_cut 22 = .ok (.istore_n 2, 1) := by decide +kernel
theorem dX12_cut_23 : decode cX12_cut 23 = .ok (.iload_n 1, 1) := by decide +kernel
theorem dX12_cut_24 : decode cX12_cut 24 = .ok (.aload_n 0, 1) := by decide +kernel
theorem dX12_cut_25 : decode cX12_cut 25 = .ok (.getfield 209, 3) := by decide +kernel
theorem dX12_cut_28 : decode cX12_cut 28 = .ok (.if_icmp .lt 15, 3) := by decide +kernel
theorem dX12_cut_31 : decode cX12_cut 31 = .ok (.aload_n 0, 1) := by decide +kernel
theorem dX12_cut_32 : decode cX12_cut 32 = .ok (.iconst 0, 1) := by decide +kernel
theorem dX12_cut_33 : decode cX12_cut 33 = .ok (.aload_n 0, 1) := by decide +kernel
theorem dX12_cut_34 : decode cX12_cut 34 = .ok (.getfield 209, 3) := by decide +kernel
theorem dX12_cut_37 : decode cX12_cut 37 = .ok (.iconst 0, 1) := by decide +kernel
theorem dX12_cut_38 : decode cX12_cut 38 = .ok (.lconst 0, 1) := by decide +kernel
theorem dX12_cut_39 : decode cX12_cut 39 = .ok (.invokevirtual 221, 3) := by decide +kernel
theorem dX12_cut_42 : decode cX12_cut 42 = .ok (.return_, 1) := by decide +kernel
theorem dX12_door_0 : decode cX12_door 0 = .ok (.aload_n 0, 1) := by decide +kernel
theorem dX12_door_1 : decode cX12_door 1 = .ok (.iload_n 1, 1) := by decide +kernel
theorem dX12_door_2 : decode cX12_door 2 = .ok (.invokevirtual 347, 3) := by decide +kernel
theorem dX12_door_5 : decode cX12_door 5 = .ok (.ifCond .eq 25, 3) := by decide +kernel
theorem dX12_door_30 : decode cX12_door 30 = .ok (.iconst (-1), 1) := by decide +kernel
theorem dX12_door_31 : decode cX12_door 31 = .ok (.ireturn, 1) := by decide +kernel
theorem dX12_feed_0 : decode cX12_feed 0 = .ok (.aload_n 0, 1) := by decide +kernel
theorem dX12_feed_1 : decode cX12_feed 1 = .ok (.getfield 202, 3) := by decide +kernel
theorem dX12_feed_4 : decode cX12_feed 4 = .ok (.bipush 20, 2) := by decide +kernel
theorem dX12_feed_6 : decode cX12_feed 6 = .ok (.iadd, 1) := by decide +kernel
theorem dX12_feed_7 : decode cX12_feed 7 = .ok (.sipush 2000, 3) := by decide +kernel
theorem dX12_feed_10 : decode cX12_feed 10 = .ok (.if_icmp .le 5, 3) := by decide +kernel
theorem dX12_feed_15 : decode cX12_feed 15 = .ok (.aload_n 0, 1) := by decide +kernel
theorem dX12_feed_16 : decode cX12_feed 16 = .ok (.iload_n 1, 1) := by decide +kernel
theorem dX12_feed_17 : decode cX12_feed 17 = .ok (.invokevirtual 205, 3) := by decide +kernel
theorem dX12_feed_20 : decode cX12_feed 20 = .ok (.aload_n 0, 1) := by decide +kernel
theorem dX12_feed_21 : decode cX12_feed 21 = .ok (.iload_n 2, 1) := by decide +kernel
theorem dX12_feed_22 : decode cX12_feed 22 = .ok (.invokevirtual 205, 3) := by decide +kernel
theorem dX12_feed_25 : decode cX12_feed 25 = .ok (.aload_n 0, 1) := by decide +kernel
theorem dX12_feed_26 : decode cX12_feed 26 = .ok (.iload_n 3, 1) := by decide +kernel
theorem dX12_feed_27 : decode cX12_feed 27 = .ok (.invokevirtual 205, 3) := by decide +kernel
theorem dX12_feed_30 : decode cX12_feed 30 = .ok (.aload_n 0, 1) := by decide +kernel
theorem dX12_feed_31 : decode cX12_feed 31 = .ok (.iload 4, 2) := by decide +kernel
theorem dX12_feed_33 : decode cX12_feed 33 = .ok (.invokevirtual 205, 3) := by decide +kernel
theorem dX12_feed_36 : decode cX12_feed 36 = .ok (.aload_n 0, 1) := by decide +kernel
theorem dX12_feed_37 : decode cX12_feed 37 = .ok (.iload 5, 2) := by decide +kernel
theorem dX12_feed_39 : decode cX12_feed 39 = .ok (.invokevirtual 205, 3) := by decide +kernel
theorem dX12_feed_42 : decode cX12_feed 42 = .ok (.aload_n 0, 1) := by decide +kernel
theorem dX12_feed_43 : decode cX12_feed 43 = .ok (.getfield 202, 3) := by decide +kernel
theorem dX12_feed_46 : decode cX12_feed 46 = .ok (.ireturn, 1) := by decide +kernel
theorem dX12_fits_0 : decode cX12_fits 0 = .ok (.iload_n 1, 1) := by decide +kernel
theorem dX12_fits_1 : decode cX12_fits 1 = .ok (.iconst 0, 1) := by decide +kernel
theorem dX12_fits_2 : decode cX12_fits 2 = .ok (.aload_n 0, 1) := by decide +kernel
theorem dX12_fits_3 : decode cX12_fits 3 = .ok (.getfield 284, 3) := by decide +kernel
theorem dX12_fits_6 : decode cX12_fits 6 = .ok (.invokestatic 333, 3) := by decide +kernel
theorem dX12_fits_9 : decode cX12_fits 9 = .ok (.ifCond .ne 7, 3) := by decide +kernel
theorem dX12_fits_12 : decode cX12_fits 12 = .ok (.ldc2_w 541, 3) := by decide +kernel
theorem dX12_fits_15 : decode cX12_fits 15 = .ok (.lreturn, 1) := by decide +kernel
theorem dX12_fits_16 : decode cX12_fits 16 = .ok (.aload_n 0, 1) := by decide +kernel
theorem dX12_fits_17 : decode cX12_fits 17 = .ok (.iload_n 1, 1) := by decide +kernel
theorem dX12_fits_18 : decode cX12_fits 18 = .ok (.iconst 0, 1) := by decide +kernel
theorem dX12_fits_19 : decode cX12_fits 19 = .ok (.invokevirtual 543, 3) := by decide +kernel
theorem dX12_fits_22 : decode cX12_fits 22 = .ok (.aload_n 0, 1) := by decide +kernel
theorem dX12_fits_23 : decode cX12_fits 23 = .ok (.getfield 531, 3) := by decide +kernel
theorem dX12_fits_26 : decode cX12_fits 26 = .ok (.lreturn, 1) := by decide +kernel
theorem dX12_forget_0 : decode cX12_forget 0 = .ok (.aload_n 0, 1) := by decide +kernel
theorem dX12_forget_1 : decode cX12_forget 1 = .ok (.getfield 284, 3) := by decide +kernel
theorem dX12_forget_4 : decode cX12_forget 4 = .ok (.istore_n 1, 1) := by decide +kernel
theorem dX12_forget_5 : decode cX12_forget 5 = .ok (.aload_n 0, 1) := by decide +kernel
theorem dX12_forget_6 : decode cX12_forget 6 = .ok (.iconst 0, 1) := by decide +kernel
theorem dX12_forget_7 : decode cX12_forget 7 = .ok (.putfield 284, 3) := by decide +kernel
theorem dX12_forget_10 : decode cX12_forget 10 = .ok (.iload_n 1, 1) := by decide +kernel
theorem dX12_forget_11 : decode cX12_forget 11 = .ok (.ireturn, 1) := by decide +kernel
theorem dX12_get_0 : decode cX12_get 0 = .ok (.aload_n 0, 1) := by decide +kernel
theorem dX12_get_1 : decode cX12_get 1 = .ok (.iload_n 1, 1) := by decide +kernel
theorem dX12_get_2 : decode cX12_get 2 = .ok (.invokevirtual 356, 3) := by decide +kernel
theorem dX12_get_5 : decode cX12_get 5 = .ok (.ifCond .eq 11, 3) := by decide +kernel
theorem dX12_get_16 : decode cX12_get 16 = .ok (.iconst (-1), 1) := by decide +kernel
theorem dX12_get_17 : decode cX12_get 17 = .ok (.ireturn, 1) := by decide +kernel
theorem dX12_go_0 : decode cX12_go 0 = .ok (.aload_n 0, 1) := by decide +kernel
theorem dX12_go_1 : decode cX12_go 1 = .ok (.iload_n 1, 1) := by decide +kernel
theorem dX12_go_2 : decode cX12_go 2 = .ok (.invokevirtual 356, 3) := by decide +kernel
theorem dX12_go_5 : decode cX12_go 5 = .ok (.ifCond .eq 24, 3) := by decide +kernel
theorem dX12_go_29 : decode cX12_go 29 = .ok (.iconst (-1), 1) := by decide +kernel
theorem dX12_go_30 : decode cX12_go 30 = .ok (.ireturn, 1) := by decide +kernel
theorem dX12_has_0 : decode cX12_has 0 = .ok (.aload_n 0, 1) := by decide +kernel
theorem dX12_has_1 : decode cX12_has 1 = .ok (.iload_n 1, 1) := by decide +kernel
theorem dX12_has_2 : decode cX12_has 2 = .ok (.invokevirtual 356, 3) := by decide +kernel
theorem dX12_has_5 : decode cX12_has 5 = .ok (.ifCond .eq 23, 3) := by decide +kernel
theorem dX12_has_28 : decode cX12_has 28 = .ok (.iconst (-1), 1) := by decide +kernel
theorem dX12_has_29 : decode cX12_has 29 = .ok (.ireturn, 1) := by decide +kernel
theorem dX12_helps_0 : decode cX12_helps 0 = .ok (.aload_n 0, 1) := by decide +kernel
theorem dX12_helps_1 : decode cX12_helps 1 = .ok (.iload_n 1, 1) := by decide +kernel
theorem dX12_helps_2 : decode cX12_helps 2 = .ok (.invokevirtual 353, 3) := by decide +kernel
theorem dX12_helps_5 : decode cX12_helps 5 = .ok (.ifCond .eq 20, 3) := by decide +kernel
theorem dX12_helps_25 : decode cX12_helps 25 = .ok (.iconst (-1), 1) := by decide +kernel
theorem dX12_helps_26 : decode cX12_helps 26 = .ok (.ireturn, 1) := by decide +kernel
theorem dX12_hold_0 : decode cX12_hold 0 = .ok (.iload_n 1, 1) := by decide +kernel
theorem dX12_hold_1 : decode cX12_hold 1 = .ok (.iconst 0, 1) := by decide +kernel
theorem dX12_hold_2 : decode cX12_hold 2 = .ok (.iconst 2, 1) := by decide +kernel
theorem dX12_hold_3 : decode cX12_hold 3 = .ok (.invokestatic 333, 3) := by decide +kernel
theorem dX12_hold_6 : decode cX12_hold 6 = .ok (.ifCond .ne 5, 3) := by decide +kernel
theorem dX12_hold_9 : decode cX12_hold 9 = .ok (.iconst 0, 1) := by decide +kernel
theorem dX12_hold_10 : decode cX12_hold 10 = .ok (.ireturn, 1) := by decide +kernel
theorem dX12_hold_11 : decode cX12_hold 11 = .ok (.aload_n 0, 1) := by decide +kernel
theorem dX12_hold_12 : decode cX12_hold 12 = .ok (.getfield 188, 3) := by decide +kernel
theorem dX12_hold_15 : decode cX12_hold 15 = .ok (.iload_n 1, 1) := by decide +kernel
theorem dX12_hold_16 : decode cX12_hold 16 = .ok (.iconst 1, 1) := by decide +kernel
theorem dX12_hold_17 : decode cX12_hold 17 = .ok (.bastore, 1) := by decide +kernel
theorem dX12_hold_18 : decode cX12_hold 18 = .ok (.iconst 0, 1) := by decide +kernel
theorem dX12_hold_19 : decode cX12_hold 19 = .ok (.istore_n 2, 1) := by decide +kernel
theorem dX12_hold_20 : decode cX12_hold 20 = .ok (.iload_n 2, 1) := by decide +kernel
theorem dX12_hold_21 : decode cX12_hold 21 = .ok (.bipush 80, 2) := by decide +kernel
theorem dX12_hold_23 : decode cX12_hold 23 = .ok (.if_icmp .ge 26, 3) := by decide +kernel
theorem dX12_hold_26 : decode cX12_hold 26 = .ok (.aload_n 0, 1) := by decide +kernel
theorem dX12_hold_27 : decode cX12_hold 27 = .ok (.getfield 191, 3) := by decide +kernel
theorem dX12_hold_30 : decode cX12_hold 30 = .ok (.bipush 80, 2) := by decide +kernel
theorem dX12_hold_32 : decode cX12_hold 32 = .ok (.iload_n 1, 1) := by decide +kernel
theorem dX12_hold_33 : decode cX12_hold 33 = .ok (.imul, 1) := by decide +kernel
theorem dX12_hold_34 : decode cX12_hold 34 = .ok (.iload_n 2, 1) := by decide +kernel
theorem dX12_hold_35 : decode cX12_hold 35 = .ok (.iadd, 1) := by decide +kernel
theorem dX12_hold_36 : decode cX12_hold 36 = .ok (.aload_n 0, 1) := by decide +kernel
theorem dX12_hold_37 : decode cX12_hold 37 = .ok (.getfield 95, 3) := by decide +kernel
theorem dX12_hold_40 : decode cX12_hold 40 = .ok (.iload_n 2, 1) := by decide +kernel
theorem dX12_hold_41 : decode cX12_hold 41 = .ok (.iaload, 1) := by decide +kernel
theorem dX12_hold_42 : decode cX12_hold 42 = .ok (.iastore, 1) := by decide +kernel
theorem dX12_hold_43 : decode cX12_hold 43 = .ok (.iinc 2 1, 3) := by decide +kernel
theorem dX12_hold_46 : decode cX12_hold 46 = .ok (.goto (-26), 3) := by decide +kernel
theorem dX12_hold_49 : decode cX12_hold 49 = .ok (.iconst 1, 1) := by decide +kernel
theorem dX12_hold_50 : decode cX12_hold 50 = .ok (.ireturn, 1) := by decide +kernel
theorem dX12_in_0 : decode cX12_in 0 = .ok (.iload_n 0, 1) := by decide +kernel
theorem dX12_in_1 : decode cX12_in 1 = .ok (.iload_n 1, 1) := by decide +kernel
theorem dX12_in_2 : decode cX12_in 2 = .ok (.if_icmp .lt 12, 3) := by decide +kernel
theorem dX12_in_5 : decode cX12_in 5 = .ok (.iload_n 0, 1) := by decide +kernel
theorem dX12_in_6 : decode cX12_in 6 = .ok (.iload_n 2, 1) := by decide +kernel
theorem dX12_in_7 : decode cX12_in 7 = .ok (.if_icmp .gt 7, 3) := by decide +kernel
theorem dX12_in_10 : decode cX12_in 10 = .ok (.iconst 1, 1) := by decide +kernel
theorem dX12_in_11 : decode cX12_in 11 = .ok (.goto 4, 3) := by decide +kernel
theorem dX12_in_14 : decode cX12_in 14 = .ok (.iconst 0, 1) := by decide +kernel
theorem dX12_in_15 : decode cX12_in 15 = .ok (.ireturn, 1) := by decide +kernel
theorem dX12_inReach_0 : decode cX12_inReach 0 = .ok (.aload_n 0, 1) := by decide +kernel
theorem dX12_inReach_1 : decode cX12_inReach 1 = .ok (.iload_n 1, 1) := by decide +kernel
theorem dX12_inReach_2 : decode cX12_inReach 2 = .ok (.invokevirtual 356, 3) := by decide +kernel
theorem dX12_inReach_5 : decode cX12_inReach 5 = .ok (.ifCond .ne 5, 3) := by decide +kernel
theorem dX12_inReach_8 : decode cX12_inReach 8 = .ok (.iconst (-1), 1) := by decide +kernel
theorem dX12_inReach_9 : decode cX12_inReach 9 = .ok (.ireturn, 1) := by decide +kernel
theorem dX12_init_0 : decode cX12_init 0 = .ok (.aload_n 0, 1) := by decide +kernel
theorem dX12_init_1 : decode cX12_init 1 = .ok (.invokespecial 7, 3) := by decide +kernel
theorem dX12_init_4 : decode cX12_init 4 = .ok (.aload_n 0, 1) := by decide +kernel
theorem dX12_init_5 : decode cX12_init 5 = .ok (.sipush 2000, 3) := by decide +kernel
theorem dX12_init_8 : decode cX12_init 8 = .ok (.newarray .byte, 2) := by decide +kernel
theorem dX12_init_10 : decode cX12_init 10 = .ok (.putfield 13, 3) := by decide +kernel
theorem dX12_init_13 : decode cX12_init 13 = .ok (.aload_n 0, 1) := by decide +kernel
theorem dX12_init_14 : decode cX12_init 14 = .ok (.sipush 2000, 3) := by decide +kernel
theorem dX12_init_17 : decode cX12_init 17 = .ok (.newarray .byte, 2) := by decide +kernel
theorem dX12_init_19 : decode cX12_init 19 = .ok (.putfield 17, 3) := by decide +kernel
theorem dX12_init_22 : decode cX12_init 22 = .ok (.aload_n 0, 1) := by decide +kernel
theorem dX12_init_23 : decode cX12_init 23 = .ok (.sipush 403, 3) := by decide +kernel
theorem dX12_init_26 : decode cX12_init 26 = .ok (.newarray .int, 2) := by decide +kernel
theorem dX12_init_28 : decode cX12_init 28 = .ok (.putfield 20, 3) := by decide +kernel
theorem dX12_init_31 : decode cX12_init 31 = .ok (.aload_n 0, 1) := by decide +kernel
theorem dX12_init_32 : decode cX12_init 32 = .ok (.sipush 403, 3) := by decide +kernel
theorem dX12_init_35 : decode cX12_init 35 = .ok (.newarray .int, 2) := by decide +kernel
theorem dX12_init_37 : decode cX12_init 37 = .ok (.putfield 24, 3) := by decide +kernel
theorem dX12_init_40 : decode cX12_init 40 = .ok (.aload_n 0, 1) := by decide +kernel
theorem dX12_init_41 : decode cX12_init 41 = .ok (.sipush 403, 3) := by decide +kernel
theorem dX12_init_44 : decode cX12_init 44 = .ok (.newarray .int, 2) := by decide +kernel
theorem dX12_init_46 : decode cX12_init 46 = .ok (.putfield 27, 3) := by decide +kernel
theorem dX12_init_49 : decode cX12_init 49 = .ok (.aload_n 0, 1) := by decide +kernel
theorem dX12_init_50 : decode cX12_init 50 = .ok (.sipush 403, 3) := by decide +kernel
theorem dX12_init_53 : decode cX12_init 53 = .ok (.newarray .long, 2) := by decide +kernel
theorem dX12_init_55 : decode cX12_init 55 = .ok (.putfield 30, 3) := by decide +kernel
theorem dX12_init_58 : decode cX12_init 58 = .ok (.aload_n 0, 1) := by decide +kernel
theorem dX12_init_59 : decode cX12_init 59 = .ok (.bipush 12, 2) := by decide +kernel
theorem dX12_init_61 : decode cX12_init 61 = .ok (.newarray .long, 2) := by decide +kernel
theorem dX12_init_63 : decode cX12_init 63 = .ok (.putfield 34, 3) := by decide +kernel
theorem dX12_init_66 : decode cX12_init 66 = .ok (.aload_n 0, 1) := by decide +kernel
theorem dX12_init_67 : decode cX12_init 67 = .ok (.iconst (-1), 1) := by decide +kernel
theorem dX12_init_68 : decode cX12_init 68 = .ok (.putfield 37, 3) := by decide +kernel
theorem dX12_init_71 : decode cX12_init 71 = .ok (.aload_n 0, 1) := by decide +kernel
theorem dX12_init_72 : decode cX12_init 72 = .ok (.bipush 24, 2) := by decide +kernel
theorem dX12_init_74 : decode cX12_init 74 = .ok (.newarray .long, 2) := by decide +kernel
theorem dX12_init_76 : decode cX12_init 76 = .ok (.putfield 40, 3) := by decide +kernel
theorem dX12_init_79 : decode cX12_init 79 = .ok (.aload_n 0, 1) := by decide +kernel
theorem dX12_init_80 : decode cX12_init 80 = .ok (.bipush 24, 2) := by decide +kernel
theorem dX12_init_82 : decode cX12_init 82 = .ok (.newarray .int, 2) := by decide +kernel
theorem dX12_init_84 : decode cX12_init 84 = .ok (.putfield 43, 3) := by decide +kernel
theorem dX12_init_87 : decode cX12_init 87 = .ok (.aload_n 0, 1) := by decide +kernel
theorem dX12_init_88 : decode cX12_init 88 = .ok (.bipush 24, 2) := by decide +kernel
theorem dX12_init_90 : decode cX12_init 90 = .ok (.newarray .int, 2) := by decide +kernel
theorem dX12_init_92 : decode cX12_init 92 = .ok (.putfield 46, 3) := by decide +kernel
theorem dX12_init_95 : decode cX12_init 95 = .ok (.aload_n 0, 1) := by decide +kernel
theorem dX12_init_96 : decode cX12_init 96 = .ok (.iconst 2, 1) := by decide +kernel
theorem dX12_init_97 : decode cX12_init 97 = .ok (.newarray .int, 2) := by decide +kernel
theorem dX12_init_99 : decode cX12_init 99 = .ok (.putfield 49, 3) := by decide +kernel
theorem dX12_init_102 : decode cX12_init 102 = .ok (.aload_n 0, 1) := by decide +kernel
theorem dX12_init_103 : decode cX12_init 103 = .ok (.bipush 10, 2) := by decide +kernel
theorem dX12_init_105 : decode cX12_init 105 = .ok (.newarray .int, 2) := by decide +kernel
theorem dX12_init_107 : decode cX12_init 107 = .ok (.putfield 52, 3) := by decide +kernel
theorem dX12_init_110 : decode cX12_init 110 = .ok (.aload_n 0, 1) := by decide +kernel
theorem dX12_init_111 : decode cX12_init 111 = .ok (.iconst 2, 1) := by decide +kernel
theorem dX12_init_112 : decode cX12_init 112 = .ok (.newarray .int, 2) := by decide +kernel
theorem dX12_init_114 : decode cX12_init 114 = .ok (.putfield 55, 3) := by decide +kernel
theorem dX12_init_117 : decode cX12_init 117 = .ok (.aload_n 0, 1) := by decide +kernel
theorem dX12_init_118 : decode cX12_init 118 = .ok (.bipush 100, 2) := by decide +kernel
theorem dX12_init_120 : decode cX12_init 120 = .ok (.newarray .int, 2) := by decide +kernel
theorem dX12_init_122 : decode cX12_init 122 = .ok (.putfield 58, 3) := by decide +kernel
theorem dX12_init_125 : decode cX12_init 125 = .ok (.aload_n 0, 1) := by decide +kernel
theorem dX12_init_126 : decode cX12_init 126 = .ok (.bipush 100, 2) := by decide +kernel
theorem dX12_init_128 : decode cX12_init 128 = .ok (.newarray .int, 2) := by decide +kernel
theorem dX12_init_130 : decode cX12_init 130 = .ok (.putfield 61, 3) := by decide +kernel
theorem dX12_init_133 : decode cX12_init 133 = .ok (.aload_n 0, 1) := by decide +kernel
theorem dX12_init_134 : decode cX12_init 134 = .ok (.bipush 100, 2) := by decide +kernel
theorem dX12_init_136 : decode cX12_init 136 = .ok (.newarray .boolean, 2) := by decide +kernel
theorem dX12_init_138 : decode cX12_init 138 = .ok (.putfield 64, 3) := by decide +kernel
theorem dX12_init_141 : decode cX12_init 141 = .ok (.aload_n 0, 1) := by decide +kernel
theorem dX12_init_142 : decode cX12_init 142 = .ok (.iconst 2, 1) := by decide +kernel
theorem dX12_init_143 : decode cX12_init 143 = .ok (.newarray .int, 2) := by decide +kernel
theorem dX12_init_145 : decode cX12_init 145 = .ok (.putfield 68, 3) := by decide +kernel
theorem dX12_init_148 : decode cX12_init 148 = .ok (.aload_n 0, 1) := by decide +kernel
theorem dX12_init_149 : decode cX12_init 149 = .ok (.sipush 200, 3) := by decide +kernel
theorem dX12_init_152 : decode cX12_init 152 = .ok (.newarray .int, 2) := by decide +kernel
theorem dX12_init_154 : decode cX12_init 154 = .ok (.putfield 71, 3) := by decide +kernel
theorem dX12_init_157 : decode cX12_init 157 = .ok (.aload_n 0, 1) := by decide +kernel
theorem dX12_init_158 : decode cX12_init 158 = .ok (.iconst 2, 1) := by decide +kernel
theorem dX12_init_159 : decode cX12_init 159 = .ok (.newarray .int, 2) := by decide +kernel
theorem dX12_init_161 : decode cX12_init 161 = .ok (.putfield 74, 3) := by decide +kernel
theorem dX12_init_164 : decode cX12_init 164 = .ok (.aload_n 0, 1) := by decide +kernel
theorem dX12_init_165 : decode cX12_init 165 = .ok (.bipush 12, 2) := by decide +kernel
theorem dX12_init_167 : decode cX12_init 167 = .ok (.newarray .int, 2) := by decide +kernel
theorem dX12_init_169 : decode cX12_init 169 = .ok (.putfield 77, 3) := by decide +kernel
theorem dX12_init_172 : decode cX12_init 172 = .ok (.aload_n 0, 1) := by decide +kernel
theorem dX12_init_173 : decode cX12_init 173 = .ok (.bipush 60, 2) := by decide +kernel
theorem dX12_init_175 : decode cX12_init 175 = .ok (.newarray .int, 2) := by decide +kernel
theorem dX12_init_177 : decode cX12_init 177 = .ok (.putfield 80, 3) := by decide +kernel
theorem dX12_init_180 : decode cX12_init 180 = .ok (.aload_n 0, 1) := by decide +kernel
theorem dX12_init_181 : decode cX12_init 181 = .ok (.iconst 2, 1) := by decide +kernel
theorem dX12_init_182 : decode cX12_init 182 = .ok (.newarray .int, 2) := by decide +kernel
theorem dX12_init_184 : decode cX12_init 184 = .ok (.putfield 83, 3) := by decide +kernel
theorem dX12_init_187 : decode cX12_init 187 = .ok (.aload_n 0, 1) := by decide +kernel
theorem dX12_init_188 : decode cX12_init 188 = .ok (.iconst 2, 1) := by decide +kernel
theorem dX12_init_189 : decode cX12_init 189 = .ok (.newarray .int, 2) := by decide +kernel
theorem dX12_init_191 : decode cX12_init 191 = .ok (.putfield 86, 3) := by decide +kernel
theorem dX12_init_194 : decode cX12_init 194 = .ok (.aload_n 0, 1) := by decide +kernel
theorem dX12_init_195 : decode cX12_init 195 = .ok (.bipush 40, 2) := by decide +kernel
theorem dX12_init_197 : decode cX12_init 197 = .ok (.newarray .int, 2) := by decide +kernel
theorem dX12_init_199 : decode cX12_init 199 = .ok (.putfield 89, 3) := by decide +kernel
theorem dX12_init_202 : decode cX12_init 202 = .ok (.aload_n 0, 1) := by decide +kernel
theorem dX12_init_203 : decode cX12_init 203 = .ok (.bipush 40, 2) := by decide +kernel
theorem dX12_init_205 : decode cX12_init 205 = .ok (.newarray .int, 2) := by decide +kernel
theorem dX12_init_207 : decode cX12_init 207 = .ok (.putfield 92, 3) := by decide +kernel
theorem dX12_init_210 : decode cX12_init 210 = .ok (.aload_n 0, 1) := by decide +kernel
theorem dX12_init_211 : decode cX12_init 211 = .ok (.bipush 80, 2) := by decide +kernel
theorem dX12_init_213 : decode cX12_init 213 = .ok (.newarray .int, 2) := by decide +kernel
theorem dX12_init_215 : decode cX12_init 215 = .ok (.putfield 95, 3) := by decide +kernel
theorem dX12_init_218 : decode cX12_init 218 = .ok (.aload_n 0, 1) := by decide +kernel
theorem dX12_init_219 : decode cX12_init 219 = .ok (.sipush 4800, 3) := by decide +kernel
theorem dX12_init_222 : decode cX12_init 222 = .ok (.newarray .int, 2) := by decide +kernel
theorem dX12_init_224 : decode cX12_init 224 = .ok (.putfield 98, 3) := by decide +kernel
theorem dX12_init_227 : decode cX12_init 227 = .ok (.aload_n 0, 1) := by decide +kernel
theorem dX12_init_228 : decode cX12_init 228 = .ok (.sipush 10240, 3) := by decide +kernel
theorem dX12_init_231 : decode cX12_init 231 = .ok (.newarray .long, 2) := by decide +kernel
theorem dX12_init_233 : decode cX12_init 233 = .ok (.putfield 101, 3) := by decide +kernel
theorem dX12_init_236 : decode cX12_init 236 = .ok (.aload_n 0, 1) := by decide +kernel
theorem dX12_init_237 : decode cX12_init 237 = .ok (.sipush 1000, 3) := by decide +kernel
theorem dX12_init_240 : decode cX12_init 240 = .ok (.newarray .int, 2) := by decide +kernel
theorem dX12_init_242 : decode cX12_init 242 = .ok (.putfield 104, 3) := by decide +kernel
theorem dX12_init_245 : decode cX12_init 245 = .ok (.aload_n 0, 1) := by decide +kernel
theorem dX12_init_246 : decode cX12_init 246 = .ok (.sipush 10240, 3) := by decide +kernel
theorem dX12_init_249 : decode cX12_init 249 = .ok (.newarray .boolean, 2) := by decide +kernel
theorem dX12_init_251 : decode cX12_init 251 = .ok (.putfield 107, 3) := by decide +kernel
theorem dX12_init_254 : decode cX12_init 254 = .ok (.aload_n 0, 1) := by decide +kernel
theorem dX12_init_255 : decode cX12_init 255 = .ok (.sipush 10240, 3) := by decide +kernel
theorem dX12_init_258 : decode cX12_init 258 = .ok (.newarray .int, 2) := by decide +kernel
theorem dX12_init_260 : decode cX12_init 260 = .ok (.putfield 110, 3) := by decide +kernel
theorem dX12_init_263 : decode cX12_init 263 = .ok (.aload_n 0, 1) := by decide +kernel
theorem dX12_init_264 : decode cX12_init 264 = .ok (.sipush 10240, 3) := by decide +kernel
theorem dX12_init_267 : decode cX12_init 267 = .ok (.newarray .int, 2) := by decide +kernel
theorem dX12_init_269 : decode cX12_init 269 = .ok (.putfield 113, 3) := by decide +kernel
theorem dX12_init_272 : decode cX12_init 272 = .ok (.aload_n 0, 1) := by decide +kernel
theorem dX12_init_273 : decode cX12_init 273 = .ok (.sipush 10240, 3) := by decide +kernel
theorem dX12_init_276 : decode cX12_init 276 = .ok (.newarray .int, 2) := by decide +kernel
theorem dX12_init_278 : decode cX12_init 278 = .ok (.putfield 116, 3) := by decide +kernel
theorem dX12_init_281 : decode cX12_init 281 = .ok (.aload_n 0, 1) := by decide +kernel
theorem dX12_init_282 : decode cX12_init 282 = .ok (.bipush 24, 2) := by decide +kernel
theorem dX12_init_284 : decode cX12_init 284 = .ok (.newarray .int, 2) := by decide +kernel
theorem dX12_init_286 : decode cX12_init 286 = .ok (.putfield 119, 3) := by decide +kernel
theorem dX12_init_289 : decode cX12_init 289 = .ok (.aload_n 0, 1) := by decide +kernel
theorem dX12_init_290 : decode cX12_init 290 = .ok (.bipush 24, 2) := by decide +kernel
theorem dX12_init_292 : decode cX12_init 292 = .ok (.newarray .int, 2) := by decide +kernel
theorem dX12_init_294 : decode cX12_init 294 = .ok (.putfield 122, 3) := by decide +kernel
theorem dX12_init_297 : decode cX12_init 297 = .ok (.aload_n 0, 1) := by decide +kernel
theorem dX12_init_298 : decode cX12_init 298 = .ok (.bipush 24, 2) := by decide +kernel
theorem dX12_init_300 : decode cX12_init 300 = .ok (.newarray .boolean, 2) := by decide +kernel
theorem dX12_init_302 : decode cX12_init 302 = .ok (.putfield 125, 3) := by decide +kernel
theorem dX12_init_305 : decode cX12_init 305 = .ok (.aload_n 0, 1) := by decide +kernel
theorem dX12_init_306 : decode cX12_init 306 = .ok (.sipush 240, 3) := by decide +kernel
theorem dX12_init_309 : decode cX12_init 309 = .ok (.newarray .int, 2) := by decide +kernel
theorem dX12_init_311 : decode cX12_init 311 = .ok (.putfield 128, 3) := by decide +kernel
theorem dX12_init_314 : decode cX12_init 314 = .ok (.aload_n 0, 1) := by decide +kernel
theorem dX12_init_315 : decode cX12_init 315 = .ok (.sipush 240, 3) := by decide +kernel
theorem dX12_init_318 : decode cX12_init 318 = .ok (.newarray .int, 2) := by decide +kernel
theorem dX12_init_320 : decode cX12_init 320 = .ok (.putfield 131, 3) := by decide +kernel
theorem dX12_init_323 : decode cX12_init 323 = .ok (.aload_n 0, 1) := by decide +kernel
theorem dX12_init_324 : decode cX12_init 324 = .ok (.sipush 240, 3) := by decide +kernel
theorem dX12_init_327 : decode cX12_init 327 = .ok (.newarray .int, 2) := by decide +kernel
theorem dX12_init_329 : decode cX12_init 329 = .ok (.putfield 134, 3) := by decide +kernel
theorem dX12_init_332 : decode cX12_init 332 = .ok (.aload_n 0, 1) := by decide +kernel
theorem dX12_init_333 : decode cX12_init 333 = .ok (.bipush 10, 2) := by decide +kernel
theorem dX12_init_335 : decode cX12_init 335 = .ok (.newarray .int, 2) := by decide +kernel
theorem dX12_init_337 : decode cX12_init 337 = .ok (.putfield 137, 3) := by decide +kernel
theorem dX12_init_340 : decode cX12_init 340 = .ok (.aload_n 0, 1) := by decide +kernel
theorem dX12_init_341 : decode cX12_init 341 = .ok (.bipush 10, 2) := by decide +kernel
theorem dX12_init_343 : decode cX12_init 343 = .ok (.newarray .int, 2) := by decide +kernel
theorem dX12_init_345 : decode cX12_init 345 = .ok (.putfield 140, 3) := by decide +kernel
theorem dX12_init_348 : decode cX12_init 348 = .ok (.aload_n 0, 1) := by decide +kernel
theorem dX12_init_349 : decode cX12_init 349 = .ok (.bipush 6, 2) := by decide +kernel
theorem dX12_init_351 : decode cX12_init 351 = .ok (.newarray .int, 2) := by decide +kernel
theorem dX12_init_353 : decode cX12_init 353 = .ok (.putfield 143, 3) := by decide +kernel
theorem dX12_init_356 : decode cX12_init 356 = .ok (.aload_n 0, 1) := by decide +kernel
theorem dX12_init_357 : decode cX12_init 357 = .ok (.bipush 6, 2) := by decide +kernel
theorem dX12_init_359 : decode cX12_init 359 = .ok (.newarray .int, 2) := by decide +kernel
theorem dX12_init_361 : decode cX12_init 361 = .ok (.putfield 146, 3) := by decide +kernel
theorem dX12_init_364 : decode cX12_init 364 = .ok (.aload_n 0, 1) := by decide +kernel
theorem dX12_init_365 : decode cX12_init 365 = .ok (.sipush 400, 3) := by decide +kernel
theorem dX12_init_368 : decode cX12_init 368 = .ok (.newarray .int, 2) := by decide +kernel
theorem dX12_init_370 : decode cX12_init 370 = .ok (.putfield 149, 3) := by decide +kernel
theorem dX12_init_373 : decode cX12_init 373 = .ok (.aload_n 0, 1) := by decide +kernel
theorem dX12_init_374 : decode cX12_init 374 = .ok (.sipush 400, 3) := by decide +kernel
theorem dX12_init_377 : decode cX12_init 377 = .ok (.newarray .int, 2) := by decide +kernel
theorem dX12_init_379 : decode cX12_init 379 = .ok (.putfield 152, 3) := by decide +kernel
theorem dX12_init_382 : decode cX12_init 382 = .ok (.aload_n 0, 1) := by decide +kernel
theorem dX12_init_383 : decode cX12_init 383 = .ok (.bipush 30, 2) := by decide +kernel
theorem dX12_init_385 : decode cX12_init 385 = .ok (.newarray .int, 2) := by decide +kernel
theorem dX12_init_387 : decode cX12_init 387 = .ok (.putfield 155, 3) := by decide +kernel
theorem dX12_init_390 : decode cX12_init 390 = .ok (.aload_n 0, 1) := by decide +kernel
theorem dX12_init_391 : decode cX12_init 391 = .ok (.bipush 30, 2) := by decide +kernel
theorem dX12_init_393 : decode cX12_init 393 = .ok (.newarray .int, 2) := by decide +kernel
theorem dX12_init_395 : decode cX12_init 395 = .ok (.putfield 158, 3) := by decide +kernel
theorem dX12_init_398 : decode cX12_init 398 = .ok (.aload_n 0, 1) := by decide +kernel
theorem dX12_init_399 : decode cX12_init 399 = .ok (.bipush 30, 2) := by decide +kernel
theorem dX12_init_401 : decode cX12_init 401 = .ok (.newarray .int, 2) := by decide +kernel
theorem dX12_init_403 : decode cX12_init 403 = .ok (.putfield 161, 3) := by decide +kernel
theorem dX12_init_406 : decode cX12_init 406 = .ok (.aload_n 0, 1) := by decide +kernel
theorem dX12_init_407 : decode cX12_init 407 = .ok (.bipush 50, 2) := by decide +kernel
theorem dX12_init_409 : decode cX12_init 409 = .ok (.newarray .int, 2) := by decide +kernel
theorem dX12_init_411 : decode cX12_init 411 = .ok (.putfield 164, 3) := by decide +kernel
theorem dX12_init_414 : decode cX12_init 414 = .ok (.aload_n 0, 1) := by decide +kernel
theorem dX12_init_415 : decode cX12_init 415 = .ok (.bipush 8, 2) := by decide +kernel
theorem dX12_init_417 : decode cX12_init 417 = .ok (.newarray .int, 2) := by decide +kernel
theorem dX12_init_419 : decode cX12_init 419 = .ok (.putfield 167, 3) := by decide +kernel
theorem dX12_init_422 : decode cX12_init 422 = .ok (.aload_n 0, 1) := by decide +kernel
theorem dX12_init_423 : decode cX12_init 423 = .ok (.bipush 6, 2) := by decide +kernel
theorem dX12_init_425 : decode cX12_init 425 = .ok (.newarray .long, 2) := by decide +kernel
theorem dX12_init_427 : decode cX12_init 427 = .ok (.putfield 170, 3) := by decide +kernel
theorem dX12_init_430 : decode cX12_init 430 = .ok (.aload_n 0, 1) := by decide +kernel
theorem dX12_init_431 : decode cX12_init 431 = .ok (.bipush 6, 2) := by decide +kernel
theorem dX12_init_433 : decode cX12_init 433 = .ok (.newarray .long, 2) := by decide +kernel
theorem dX12_init_435 : decode cX12_init 435 = .ok (.putfield 173, 3) := by decide +kernel
theorem dX12_init_438 : decode cX12_init 438 = .ok (.aload_n 0, 1) := by decide +kernel
theorem dX12_init_439 : decode cX12_init 439 = .ok (.bipush 48, 2) := by decide +kernel
theorem dX12_init_441 : decode cX12_init 441 = .ok (.newarray .boolean, 2) := by decide +kernel
theorem dX12_init_443 : decode cX12_init 443 = .ok (.putfield 176, 3) := by decide +kernel
theorem dX12_init_446 : decode cX12_init 446 = .ok (.aload_n 0, 1) := by decide +kernel
theorem dX12_init_447 : decode cX12_init 447 = .ok (.bipush 6, 2) := by decide +kernel
theorem dX12_init_449 : decode cX12_init 449 = .ok (.newarray .int, 2) := by decide +kernel
theorem dX12_init_451 : decode cX12_init 451 = .ok (.putfield 179, 3) := by decide +kernel
theorem dX12_init_454 : decode cX12_init 454 = .ok (.aload_n 0, 1) := by decide +kernel
theorem dX12_init_455 : decode cX12_init 455 = .ok (.bipush 6, 2) := by decide +kernel
theorem dX12_init_457 : decode cX12_init 457 = .ok (.newarray .long, 2) := by decide +kernel
theorem dX12_init_459 : decode cX12_init 459 = .ok (.putfield 182, 3) := by decide +kernel
theorem dX12_init_462 : decode cX12_init 462 = .ok (.aload_n 0, 1) := by decide +kernel
theorem dX12_init_463 : decode cX12_init 463 = .ok (.bipush 8, 2) := by decide +kernel
theorem dX12_init_465 : decode cX12_init 465 = .ok (.newarray .int, 2) := by decide +kernel
theorem dX12_init_467 : decode cX12_init 467 = .ok (.putfield 185, 3) := by decide +kernel
theorem dX12_init_470 : decode cX12_init 470 = .ok (.aload_n 0, 1) := by decide +kernel
theorem dX12_init_471 : decode cX12_init 471 = .ok (.iconst 3, 1) := by decide +kernel
theorem dX12_init_472 : decode cX12_init 472 = .ok (.newarray .boolean, 2) := by decide +kernel
theorem dX12_init_474 : decode cX12_init 474 = .ok (.putfield 188, 3) := by decide +kernel
theorem dX12_init_477 : decode cX12_init 477 = .ok (.aload_n 0, 1) := by decide +kernel
theorem dX12_init_478 : decode cX12_init 478 = .ok (.sipush 240, 3) := by decide +kernel
theorem dX12_init_481 : decode cX12_init 481 = .ok (.newarray .int, 2) := by decide +kernel
theorem dX12_init_483 : decode cX12_init 483 = .ok (.putfield 191, 3) := by decide +kernel
theorem dX12_init_486 : decode cX12_init 486 = .ok (.aload_n 0, 1) := by decide +kernel
theorem dX12_init_487 : decode cX12_init 487 = .ok (.getfield 34, 3) := by decide +kernel
theorem dX12_init_490 : decode cX12_init 490 = .ok (.iconst 0, 1) := by decide +kernel
theorem dX12_init_491 : decode cX12_init 491 = .ok (.bipush 115, 2) := by decide +kernel
theorem dX12_init_493 : decode cX12_init 493 = .ok (.bipush 111, 2) := by decide +kernel
theorem dX12_init_495 : decode cX12_init 495 = .ok (.bipush 114, 2) := by decide +kernel
theorem dX12_init_497 : decode cX12_init 497 = .ok (.bipush 116, 2) := by decide +kernel
theorem dX12_init_499 : decode cX12_init 499 = .ok (.iconst 0, 1) := by decide +kernel
theorem dX12_init_500 : decode cX12_init 500 = .ok (.iconst 0, 1) := by decide +kernel
theorem dX12_init_501 : decode cX12_init 501 = .ok (.iconst 0, 1) := by decide +kernel
theorem dX12_init_502 : decode cX12_init 502 = .ok (.invokestatic 194, 3) := by decide +kernel
theorem dX12_init_505 : decode cX12_init 505 = .ok (.lastore, 1) := by decide +kernel
theorem dX12_init_506 : decode cX12_init 506 = .ok (.aload_n 0, 1) := by decide +kernel
theorem dX12_init_507 : decode cX12_init 507 = .ok (.getfield 34, 3) := by decide +kernel
theorem dX12_init_510 : decode cX12_init 510 = .ok (.iconst 1, 1) := by decide +kernel
theorem dX12_init_511 : decode cX12_init 511 = .ok (.bipush 104, 2) := by decide +kernel
theorem dX12_init_513 : decode cX12_init 513 = .ok (.bipush 111, 2) := by decide +kernel
theorem dX12_init_515 : decode cX12_init 515 = .ok (.bipush 117, 2) := by decide +kernel
theorem dX12_init_517 : decode cX12_init 517 = .ok (.bipush 115, 2) := by decide +kernel
theorem dX12_init_519 : decode cX12_init 519 = .ok (.bipush 101, 2) := by decide +kernel
theorem dX12_init_521 : decode cX12_init 521 = .ok (.iconst 0, 1) := by decide +kernel
theorem dX12_init_522 : decode cX12_init 522 = .ok (.iconst 0, 1) := by decide +kernel
theorem dX12_init_523 : decode cX12_init 523 = .ok (.invokestatic 194, 3) := by decide +kernel
theorem dX12_init_526 : decode cX12_init 526 = .ok (.lastore, 1) := by decide +kernel
theorem dX12_init_527 : decode cX12_init 527 = .ok (.aload_n 0, 1) := by decide +kernel
theorem dX12_init_528 : decode cX12_init 528 = .ok (.getfield 34, 3) := by decide +kernel
theorem dX12_init_531 : decode cX12_init 531 = .ok (.iconst 2, 1) := by decide +kernel
theorem dX12_init_532 : decode cX12_init 532 = .ok (.bipush 100, 2) := by decide +kernel
theorem dX12_init_534 : decode cX12_init 534 = .ok (.bipush 111, 2) := by decide +kernel
theorem dX12_init_536 : decode cX12_init 536 = .ok (.bipush 111, 2) := by decide +kernel
theorem dX12_init_538 : decode cX12_init 538 = .ok (.bipush 114, 2) := by decide +kernel
theorem dX12_init_540 : decode cX12_init 540 = .ok (.iconst 0, 1) := by decide +kernel
theorem dX12_init_541 : decode cX12_init 541 = .ok (.iconst 0, 1) := by decide +kernel
theorem dX12_init_542 : decode cX12_init 542 = .ok (.iconst 0, 1) := by decide +kernel
theorem dX12_init_543 : decode cX12_init 543 = .ok (.invokestatic 194, 3) := by decide +kernel
theorem dX12_init_546 : decode cX12_init 546 = .ok (.lastore, 1) := by decide +kernel
theorem dX12_init_547 : decode cX12_init 547 = .ok (.aload_n 0, 1) := by decide +kernel
theorem dX12_init_548 : decode cX12_init 548 = .ok (.getfield 34, 3) := by decide +kernel
theorem dX12_init_551 : decode cX12_init 551 = .ok (.iconst 3, 1) := by decide +kernel
theorem dX12_init_552 : decode cX12_init 552 = .ok (.bipush 119, 2) := by decide +kernel
theorem dX12_init_554 : decode cX12_init 554 = .ok (.bipush 111, 2) := by decide +kernel
theorem dX12_init_556 : decode cX12_init 556 = .ok (.bipush 114, 2) := by decide +kernel
theorem dX12_init_558 : decode cX12_init 558 = .ok (.bipush 116, 2) := by decide +kernel
theorem dX12_init_560 : decode cX12_init 560 = .ok (.bipush 104, 2) := by decide +kernel
theorem dX12_init_562 : decode cX12_init 562 = .ok (.iconst 0, 1) := by decide +kernel
theorem dX12_init_563 : decode cX12_init 563 = .ok (.iconst 0, 1) := by decide +kernel
theorem dX12_init_564 : decode cX12_init 564 = .ok (.invokestatic 194, 3) := by decide +kernel
theorem dX12_init_567 : decode cX12_init 567 = .ok (.lastore, 1) := by decide +kernel
theorem dX12_init_568 : decode cX12_init 568 = .ok (.aload_n 0, 1) := by decide +kernel
theorem dX12_init_569 : decode cX12_init 569 = .ok (.getfield 34, 3) := by decide +kernel
theorem dX12_init_572 : decode cX12_init 572 = .ok (.iconst 4, 1) := by decide +kernel
theorem dX12_init_573 : decode cX12_init 573 = .ok (.bipush 115, 2) := by decide +kernel
theorem dX12_init_575 : decode cX12_init 575 = .ok (.bipush 104, 2) := by decide +kernel
theorem dX12_init_577 : decode cX12_init 577 = .ok (.bipush 111, 2) := by decide +kernel
theorem dX12_init_579 : decode cX12_init 579 = .ok (.bipush 112, 2) := by decide +kernel
theorem dX12_init_581 : decode cX12_init 581 = .ok (.iconst 0, 1) := by decide +kernel
theorem dX12_init_582 : decode cX12_init 582 = .ok (.iconst 0, 1) := by decide +kernel
theorem dX12_init_583 : decode cX12_init 583 = .ok (.iconst 0, 1) := by decide +kernel
theorem dX12_init_584 : decode cX12_init 584 = .ok (.invokestatic 194, 3) := by decide +kernel
theorem dX12_init_587 : decode cX12_init 587 = .ok (.lastore, 1) := by decide +kernel
theorem dX12_init_588 : decode cX12_init 588 = .ok (.aload_n 0, 1) := by decide +kernel
theorem dX12_init_589 : decode cX12_init 589 = .ok (.getfield 34, 3) := by decide +kernel
theorem dX12_init_592 : decode cX12_init 592 = .ok (.iconst 5, 1) := by decide +kernel
theorem dX12_init_593 : decode cX12_init 593 = .ok (.bipush 104, 2) := by decide +kernel
theorem dX12_init_595 : decode cX12_init 595 = .ok (.bipush 97, 2) := by decide +kernel
theorem dX12_init_597 : decode cX12_init 597 = .ok (.bipush 108, 2) := by decide +kernel
theorem dX12_init_599 : decode cX12_init 599 = .ok (.bipush 108, 2) := by decide +kernel
theorem dX12_init_601 : decode cX12_init 601 = .ok (.iconst 0, 1) := by decide +kernel
theorem dX12_init_602 : decode cX12_init 602 = .ok (.iconst 0, 1) := by decide +kernel
theorem dX12_init_603 : decode cX12_init 603 = .ok (.iconst 0, 1) := by decide +kernel
theorem dX12_init_604 : decode cX12_init 604 = .ok (.invokestatic 194, 3) := by decide +kernel
theorem dX12_init_607 : decode cX12_init 607 = .ok (.lastore, 1) := by decide +kernel
theorem dX12_init_608 : decode cX12_init 608 = .ok (.aload_n 0, 1) := by decide +kernel
theorem dX12_init_609 : decode cX12_init 609 = .ok (.getfield 34, 3) := by decide +kernel
theorem dX12_init_612 : decode cX12_init 612 = .ok (.bipush 6, 2) := by decide +kernel
theorem dX12_init_614 : decode cX12_init 614 = .ok (.bipush 109, 2) := by decide +kernel
theorem dX12_init_616 : decode cX12_init 616 = .ok (.bipush 97, 2) := by decide +kernel
theorem dX12_init_618 : decode cX12_init 618 = .ok (.bipush 110, 2) := by decide +kernel
theorem dX12_init_620 : decode cX12_init 620 = .ok (.iconst 0, 1) := by decide +kernel
theorem dX12_init_621 : decode cX12_init 621 = .ok (.iconst 0, 1) := by decide +kernel
theorem dX12_init_622 : decode cX12_init 622 = .ok (.iconst 0, 1) := by decide +kernel
theorem dX12_init_623 : decode cX12_init 623 = .ok (.iconst 0, 1) := by decide +kernel
theorem dX12_init_624 : decode cX12_init 624 = .ok (.invokestatic 194, 3) := by decide +kernel
theorem dX12_init_627 : decode cX12_init 627 = .ok (.lastore, 1) := by decide +kernel
theorem dX12_init_628 : decode cX12_init 628 = .ok (.aload_n 0, 1) := by decide +kernel
theorem dX12_init_629 : decode cX12_init 629 = .ok (.getfield 34, 3) := by decide +kernel
theorem dX12_init_632 : decode cX12_init 632 = .ok (.bipush 7, 2) := by decide +kernel
theorem dX12_init_634 : decode cX12_init 634 = .ok (.bipush 108, 2) := by decide +kernel
theorem dX12_init_636 : decode cX12_init 636 = .ok (.bipush 97, 2) := by decide +kernel
theorem dX12_init_638 : decode cX12_init 638 = .ok (.bipush 119, 2) := by decide +kernel
theorem dX12_init_640 : decode cX12_init 640 = .ok (.iconst 0, 1) := by decide +kernel
theorem dX12_init_641 : decode cX12_init 641 = .ok (.iconst 0, 1) := by decide +kernel
theorem dX12_init_642 : decode cX12_init 642 = .ok (.iconst 0, 1) := by decide +kernel
theorem dX12_init_643 : decode cX12_init 643 = .ok (.iconst 0, 1) := by decide +kernel
theorem dX12_init_644 : decode cX12_init 644 = .ok (.invokestatic 194, 3) := by decide +kernel
theorem dX12_init_647 : decode cX12_init 647 = .ok (.lastore, 1) := by decide +kernel
theorem dX12_init_648 : decode cX12_init 648 = .ok (.aload_n 0, 1) := by decide +kernel
theorem dX12_init_649 : decode cX12_init 649 = .ok (.getfield 34, 3) := by decide +kernel
theorem dX12_init_652 : decode cX12_init 652 = .ok (.bipush 8, 2) := by decide +kernel
theorem dX12_init_654 : decode cX12_init 654 = .ok (.bipush 97, 2) := by decide +kernel
theorem dX12_init_656 : decode cX12_init 656 = .ok (.bipush 110, 2) := by decide +kernel
theorem dX12_init_658 : decode cX12_init 658 = .ok (.bipush 121, 2) := by decide +kernel
theorem dX12_init_660 : decode cX12_init 660 = .ok (.iconst 0, 1) := by decide +kernel
theorem dX12_init_661 : decode cX12_init 661 = .ok (.iconst 0, 1) := by decide +kernel
theorem dX12_init_662 : decode cX12_init 662 = .ok (.iconst 0, 1) := by decide +kernel
theorem dX12_init_663 : decode cX12_init 663 = .ok (.iconst 0, 1) := by decide +kernel
theorem dX12_init_664 : decode cX12_init 664 = .ok (.invokestatic 194, 3) := by decide +kernel
theorem dX12_init_667 : decode cX12_init 667 = .ok (.lastore, 1) := by decide +kernel
theorem dX12_init_668 : decode cX12_init 668 = .ok (.aload_n 0, 1) := by decide +kernel
theorem dX12_init_669 : decode cX12_init 669 = .ok (.getfield 34, 3) := by decide +kernel
theorem dX12_init_672 : decode cX12_init 672 = .ok (.bipush 9, 2) := by decide +kernel
theorem dX12_init_674 : decode cX12_init 674 = .ok (.bipush 100, 2) := by decide +kernel
theorem dX12_init_676 : decode cX12_init 676 = .ok (.bipush 101, 2) := by decide +kernel
theorem dX12_init_678 : decode cX12_init 678 = .ok (.bipush 97, 2) := by decide +kernel
theorem dX12_init_680 : decode cX12_init 680 = .ok (.bipush 114, 2) := by decide +kernel
theorem dX12_init_682 : decode cX12_init 682 = .ok (.bipush 101, 2) := by decide +kernel
theorem dX12_init_684 : decode cX12_init 684 = .ok (.bipush 115, 2) := by decide +kernel
theorem dX12_init_686 : decode cX12_init 686 = .ok (.bipush 116, 2) := by decide +kernel
theorem dX12_init_688 : decode cX12_init 688 = .ok (.invokestatic 194, 3) := by decide +kernel
theorem dX12_init_691 : decode cX12_init 691 = .ok (.lastore, 1) := by decide +kernel
theorem dX12_init_692 : decode cX12_init 692 = .ok (.aload_n 0, 1) := by decide +kernel
theorem dX12_init_693 : decode cX12_init 693 = .ok (.getfield 34, 3) := by decide +kernel
theorem dX12_init_696 : decode cX12_init 696 = .ok (.bipush 10, 2) := by decide +kernel
theorem dX12_init_698 : decode cX12_init 698 = .ok (.bipush 99, 2) := by decide +kernel
theorem dX12_init_700 : decode cX12_init 700 = .ok (.bipush 104, 2) := by decide +kernel
theorem dX12_init_702 : decode cX12_init 702 = .ok (.bipush 101, 2) := by decide +kernel
theorem dX12_init_704 : decode cX12_init 704 = .ok (.bipush 97, 2) := by decide +kernel
theorem dX12_init_706 : decode cX12_init 706 = .ok (.bipush 112, 2) := by decide +kernel
theorem dX12_init_708 : decode cX12_init 708 = .ok (.bipush 101, 2) := by decide +kernel
theorem dX12_init_710 : decode cX12_init 710 = .ok (.bipush 115, 2) := by decide +kernel
theorem dX12_init_712 : decode cX12_init 712 = .ok (.invokestatic 194, 3) := by decide +kernel
theorem dX12_init_715 : decode cX12_init 715 = .ok (.bipush 116, 2) := by decide +kernel
theorem dX12_init_717 : decode cX12_init 717 = .ok (.invokestatic 198, 3) := by decide +kernel
theorem dX12_init_720 : decode cX12_init 720 = .ok (.lastore, 1) := by decide +kernel
theorem dX12_init_721 : decode cX12_init 721 = .ok (.aload_n 0, 1) := by decide +kernel
theorem dX12_init_722 : decode cX12_init 722 = .ok (.getfield 34, 3) := by decide +kernel
theorem dX12_init_725 : decode cX12_init 725 = .ok (.bipush 11, 2) := by decide +kernel
theorem dX12_init_727 : decode cX12_init 727 = .ok (.bipush 99, 2) := by decide +kernel
theorem dX12_init_729 : decode cX12_init 729 = .ok (.bipush 97, 2) := by decide +kernel
theorem dX12_init_731 : decode cX12_init 731 = .ok (.bipush 108, 2) := by decide +kernel
theorem dX12_init_733 : decode cX12_init 733 = .ok (.bipush 108, 2) := by decide +kernel
theorem dX12_init_735 : decode cX12_init 735 = .ok (.iconst 0, 1) := by decide +kernel
theorem dX12_init_736 : decode cX12_init 736 = .ok (.iconst 0, 1) := by decide +kernel
theorem dX12_init_737 : decode cX12_init 737 = .ok (.iconst 0, 1) := by decide +kernel
theorem dX12_init_738 : decode cX12_init 738 = .ok (.invokestatic 194, 3) := by decide +kernel
theorem dX12_init_741 : decode cX12_init 741 = .ok (.lastore, 1) := by decide +kernel
theorem dX12_init_742 : decode cX12_init 742 = .ok (.return_, 1) := by decide +kernel
theorem dX12_is_0 : decode cX12_is 0 = .ok (.aload_n 0, 1) := by decide +kernel
theorem dX12_is_1 : decode cX12_is 1 = .ok (.getfield 236, 3) := by decide +kernel
theorem dX12_is_4 : decode cX12_is 4 = .ok (.ifCond .ne 20, 3) := by decide +kernel
theorem dX12_is_7 : decode cX12_is 7 = .ok (.aload_n 0, 1) := by decide +kernel
theorem dX12_is_8 : decode cX12_is 8 = .ok (.getfield 20, 3) := by decide +kernel
theorem dX12_is_11 : decode cX12_is 11 = .ok (.aload_n 0, 1) := by decide +kernel
theorem dX12_is_12 : decode cX12_is 12 = .ok (.getfield 239, 3) := by decide +kernel
theorem dX12_is_15 : decode cX12_is 15 = .ok (.iaload, 1) := by decide +kernel
theorem dX12_is_16 : decode cX12_is 16 = .ok (.iload_n 1, 1) := by decide +kernel
theorem dX12_is_17 : decode cX12_is 17 = .ok (.if_icmp .ne 7, 3) := by decide +kernel
theorem dX12_is_20 : decode cX12_is 20 = .ok (.iconst 1, 1) := by decide +kernel
theorem dX12_is_21 : decode cX12_is 21 = .ok (.goto 4, 3) := by decide +kernel
theorem dX12_is_25 : decode cX12_is 25 = .ok (.ireturn, 1) := by decide +kernel
theorem dX12_isAllMet_0 : decode cX12_isAllMet 0 = .ok (.iconst 0, 1) := by decide +kernel
theorem dX12_isAllMet_1 : decode cX12_isAllMet 1 = .ok (.istore_n 1, 1) := by decide +kernel
theorem dX12_isAllMet_2 : decode cX12_isAllMet 2 = .ok (.iload_n 1, 1) := by decide +kernel
theorem dX12_isAllMet_3 : decode cX12_isAllMet 3 = .ok (.bipush 8, 2) := by decide +kernel
theorem dX12_isAllMet_5 : decode cX12_isAllMet 5 = .ok (.if_icmp .ge 16, 3) := by decide +kernel
theorem dX12_isAllMet_8 : decode cX12_isAllMet 8 = .ok (.aload_n 0, 1) := by decide +kernel
theorem dX12_isAllMet_9 : decode cX12_isAllMet 9 = .ok (.getfield 185, 3) := by decide +kernel
theorem dX12_isAllMet_12 : decode cX12_isAllMet 12 = .ok (.iload_n 1, 1) := by decide +kernel
theorem dX12_isAllMet_13 : decode cX12_isAllMet 13 = .ok (.iconst 0, 1) := by decide +kernel
theorem dX12_isAllMet_14 : decode cX12_isAllMet 14 = .ok (.iastore, 1) := by decide +kernel
theorem dX12_isAllMet_15 : decode cX12_isAllMet 15 = .ok (.iinc 1 1, 3) := by decide +kernel
theorem dX12_isAllMet_18 : decode cX12_isAllMet 18 = .ok (.goto (-16), 3) := by decide +kernel
theorem dX12_isAllMet_21 : decode cX12_isAllMet 21 = .ok (.iconst 0, 1) := by decide +kernel
theorem dX12_isAllMet_22 : decode cX12_isAllMet 22 = .ok (.istore_n 1, 1) := by decide +kernel
theorem dX12_isAllMet_23 : decode cX12_isAllMet 23 = .ok (.iload_n 1, 1) := by decide +kernel
theorem dX12_isAllMet_24 : decode cX12_isAllMet 24 = .ok (.aload_n 0, 1) := by decide +kernel
theorem dX12_isAllMet_25 : decode cX12_isAllMet 25 = .ok (.getfield 74, 3) := by decide +kernel
theorem dX12_isAllMet_28 : decode cX12_isAllMet 28 = .ok (.aload_n 0, 1) := by decide +kernel
theorem dX12_isAllMet_29 : decode cX12_isAllMet 29 = .ok (.getfield 266, 3) := by decide +kernel
theorem dX12_isAllMet_32 : decode cX12_isAllMet 32 = .ok (.iaload, 1) := by decide +kernel
theorem dX12_isAllMet_33 : decode cX12_isAllMet 33 = .ok (.if_icmp .ge 61, 3) := by decide +kernel
theorem dX12_isAllMet_94 : decode cX12_isAllMet 94 = .ok (.iconst 0, 1) := by decide +kernel
theorem dX12_isAllMet_95 : decode cX12_isAllMet 95 = .ok (.istore_n 1, 1) := by decide +kernel
theorem dX12_isAllMet_96 : decode cX12_isAllMet 96 = .ok (.iload_n 1, 1) := by decide +kernel
theorem dX12_isAllMet_97 : decode cX12_isAllMet 97 = .ok (.aload_n 0, 1) := by decide +kernel
theorem dX12_isAllMet_98 : decode cX12_isAllMet 98 = .ok (.getfield 522, 3) := by decide +kernel
theorem dX12_isAllMet_101 : decode cX12_isAllMet 101 = .ok (.if_icmp .ge 31, 3) := by decide +kernel
theorem dX12_isAllMet_132 : decode cX12_isAllMet 132 = .ok (.iconst 1, 1) := by decide +kernel
theorem dX12_isAllMet_133 : decode cX12_isAllMet 133 = .ok (.ireturn, 1) := by decide +kernel
theorem dX12_isHouse_0 : decode cX12_isHouse 0 = .ok (.iload_n 1, 1) := by decide +kernel
theorem dX12_isHouse_1 : decode cX12_isHouse 1 = .ok (.iconst 0, 1) := by decide +kernel
theorem dX12_isHouse_2 : decode cX12_isHouse 2 = .ok (.aload_n 0, 1) := by decide +kernel
theorem dX12_isHouse_3 : decode cX12_isHouse 3 = .ok (.getfield 55, 3) := by decide +kernel
theorem dX12_isHouse_6 : decode cX12_isHouse 6 = .ok (.aload_n 0, 1) := by decide +kernel
theorem dX12_isHouse_7 : decode cX12_isHouse 7 = .ok (.getfield 266, 3) := by decide +kernel
theorem dX12_isHouse_10 : decode cX12_isHouse 10 = .ok (.iaload, 1) := by decide +kernel
theorem dX12_isHouse_11 : decode cX12_isHouse 11 = .ok (.iconst 1, 1) := by decide +kernel
theorem dX12_isHouse_12 : decode cX12_isHouse 12 = .ok (.isub, 1) := by decide +kernel
theorem dX12_isHouse_13 : decode cX12_isHouse 13 = .ok (.invokestatic 333, 3) := by decide +kernel
theorem dX12_isHouse_16 : decode cX12_isHouse 16 = .ok (.ireturn, 1) := by decide +kernel
theorem dX12_isMan_0 : decode cX12_isMan 0 = .ok (.iload_n 1, 1) := by decide +kernel
theorem dX12_isMan_1 : decode cX12_isMan 1 = .ok (.iconst 0, 1) := by decide +kernel
theorem dX12_isMan_2 : decode cX12_isMan 2 = .ok (.aload_n 0, 1) := by decide +kernel
theorem dX12_isMan_3 : decode cX12_isMan 3 = .ok (.getfield 74, 3) := by decide +kernel
theorem dX12_isMan_6 : decode cX12_isMan 6 = .ok (.aload_n 0, 1) := by decide +kernel
theorem dX12_isMan_7 : decode cX12_isMan 7 = .ok (.getfield 266, 3) := by decide +kernel
theorem dX12_isMan_10 : decode cX12_isMan 10 = .ok (.iaload, 1) := by decide +kernel
theorem dX12_isMan_11 : decode cX12_isMan 11 = .ok (.iconst 1, 1) := by decide +kernel
theorem dX12_isMan_12 : decode cX12_isMan 12 = .ok (.isub, 1) := by decide +kernel
theorem dX12_isMan_13 : decode cX12_isMan 13 = .ok (.invokestatic 333, 3) := by decide +kernel
theorem dX12_isMan_16 : decode cX12_isMan 16 = .ok (.ireturn, 1) := by decide +kernel
theorem dX12_isSort_0 : decode cX12_isSort 0 = .ok (.iload_n 1, 1) := by decide +kernel
theorem dX12_isSort_1 : decode cX12_isSort 1 = .ok (.iconst 0, 1) := by decide +kernel
theorem dX12_isSort_2 : decode cX12_isSort 2 = .ok (.aload_n 0, 1) := by decide +kernel
theorem dX12_isSort_3 : decode cX12_isSort 3 = .ok (.getfield 49, 3) := by decide +kernel
theorem dX12_isSort_6 : decode cX12_isSort 6 = .ok (.aload_n 0, 1) := by decide +kernel
theorem dX12_isSort_7 : decode cX12_isSort 7 = .ok (.getfield 266, 3) := by decide +kernel
theorem dX12_isSort_10 : decode cX12_isSort 10 = .ok (.iaload, 1) := by decide +kernel
theorem dX12_isSort_11 : decode cX12_isSort 11 = .ok (.iconst 1, 1) := by decide +kernel
theorem dX12_isSort_12 : decode cX12_isSort 12 = .ok (.isub, 1) := by decide +kernel
theorem dX12_isSort_13 : decode cX12_isSort 13 = .ok (.invokestatic 333, 3) := by decide +kernel
theorem dX12_isSort_16 : decode cX12_isSort 16 = .ok (.ireturn, 1) := by decide +kernel
theorem dX12_knows_0 : decode cX12_knows 0 = .ok (.iconst 0, 1) := by decide +kernel
theorem dX12_knows_1 : decode cX12_knows 1 = .ok (.istore_n 3, 1) := by decide +kernel
theorem dX12_knows_2 : decode cX12_knows 2 = .ok (.iload_n 3, 1) := by decide +kernel
theorem dX12_knows_3 : decode cX12_knows 3 = .ok (.bipush 50, 2) := by decide +kernel
theorem dX12_knows_5 : decode cX12_knows 5 = .ok (.if_icmp .ge 16, 3) := by decide +kernel
theorem dX12_knows_8 : decode cX12_knows 8 = .ok (.aload_n 0, 1) := by decide +kernel
theorem dX12_knows_9 : decode cX12_knows 9 = .ok (.getfield 164, 3) := by decide +kernel
theorem dX12_knows_12 : decode cX12_knows 12 = .ok (.iload_n 3, 1) := by decide +kernel
theorem dX12_knows_13 : decode cX12_knows 13 = .ok (.iconst (-1), 1) := by decide +kernel
theorem dX12_knows_14 : decode cX12_knows 14 = .ok (.iastore, 1) := by decide +kernel
theorem dX12_knows_15 : decode cX12_knows 15 = .ok (.iinc 3 1, 3) := by decide +kernel
theorem dX12_knows_18 : decode cX12_knows 18 = .ok (.goto (-16), 3) := by decide +kernel
theorem dX12_knows_21 : decode cX12_knows 21 = .ok (.iconst 0, 1) := by decide +kernel
theorem dX12_knows_22 : decode cX12_knows 22 = .ok (.istore_n 3, 1) := by decide +kernel
theorem dX12_knows_23 : decode cX12_knows 23 = .ok (.iload_n 3, 1) := by decide +kernel
theorem dX12_knows_24 : decode cX12_knows 24 = .ok (.iload_n 1, 1) := by decide +kernel
theorem dX12_knows_25 : decode cX12_knows 25 = .ok (.if_icmp .ge 35, 3) := by decide +kernel
theorem dX12_knows_60 : decode cX12_knows 60 = .ok (.aload_n 0, 1) := by decide +kernel
theorem dX12_knows_61 : decode cX12_knows 61 = .ok (.iconst 0, 1) := by decide +kernel
theorem dX12_knows_62 : decode cX12_knows 62 = .ok (.putfield 522, 3) := by decide +kernel
theorem dX12_knows_65 : decode cX12_knows 65 = .ok (.aload_n 0, 1) := by decide +kernel
theorem dX12_knows_66 : decode cX12_knows 66 = .ok (.iconst 0, 1) := by decide +kernel
theorem dX12_knows_67 : decode cX12_knows 67 = .ok (.putfield 525, 3) := by decide +kernel
theorem dX12_knows_70 : decode cX12_knows 70 = .ok (.iconst 0, 1) := by decide +kernel
theorem dX12_knows_71 : decode cX12_knows 71 = .ok (.istore_n 3, 1) := by decide +kernel
theorem dX12_knows_72 : decode cX12_knows 72 = .ok (.iload_n 3, 1) := by decide +kernel
theorem dX12_knows_73 : decode cX12_knows 73 = .ok (.bipush 50, 2) := by decide +kernel
theorem dX12_knows_75 : decode cX12_knows 75 = .ok (.if_icmp .ge 66, 3) := by decide +kernel
theorem dX12_knows_78 : decode cX12_knows 78 = .ok (.aload_n 0, 1) := by decide +kernel
theorem dX12_knows_79 : decode cX12_knows 79 = .ok (.getfield 164, 3) := by decide +kernel
theorem dX12_knows_82 : decode cX12_knows 82 = .ok (.iload_n 3, 1) := by decide +kernel
theorem dX12_knows_83 : decode cX12_knows 83 = .ok (.iaload, 1) := by decide +kernel
theorem dX12_knows_84 : decode cX12_knows 84 = .ok (.iconst 1, 1) := by decide +kernel
theorem dX12_knows_85 : decode cX12_knows 85 = .ok (.if_icmp .ge 6, 3) := by decide +kernel
theorem dX12_knows_88 : decode cX12_knows 88 = .ok (.goto 47, 3) := by decide +kernel
theorem dX12_knows_135 : decode cX12_knows 135 = .ok (.iinc 3 1, 3) := by decide +kernel
theorem dX12_knows_138 : decode cX12_knows 138 = .ok (.goto (-66), 3) := by decide +kernel
theorem dX12_knows_141 : decode cX12_knows 141 = .ok (.iconst 0, 1) := by decide +kernel
theorem dX12_knows_142 : decode cX12_knows 142 = .ok (.istore_n 3, 1) := by decide +kernel
theorem dX12_knows_143 : decode cX12_knows 143 = .ok (.iload_n 3, 1) := by decide +kernel
theorem dX12_knows_144 : decode cX12_knows 144 = .ok (.aload_n 0, 1) := by decide +kernel
theorem dX12_knows_145 : decode cX12_knows 145 = .ok (.getfield 74, 3) := by decide +kernel
theorem dX12_knows_148 : decode cX12_knows 148 = .ok (.aload_n 0, 1) := by decide +kernel
theorem dX12_knows_149 : decode cX12_knows 149 = .ok (.getfield 266, 3) := by decide +kernel
theorem dX12_knows_152 : decode cX12_knows 152 = .ok (.iaload, 1) := by decide +kernel
theorem dX12_knows_153 : decode cX12_knows 153 = .ok (.if_icmp .ge 204, 3) := by decide +kernel
theorem dX12_knows_357 : decode cX12_knows 357 = .ok (.return_, 1) := by decide +kernel
theorem dX12_man_0 : decode cX12_man 0 = .ok (.aload_n 0, 1) := by decide +kernel
theorem dX12_man_1 : decode cX12_man 1 = .ok (.iload_n 1, 1) := by decide +kernel
theorem dX12_man_2 : decode cX12_man 2 = .ok (.invokevirtual 356, 3) := by decide +kernel
theorem dX12_man_5 : decode cX12_man 5 = .ok (.ifCond .ne 5, 3) := by decide +kernel
theorem dX12_man_8 : decode cX12_man 8 = .ok (.iconst (-1), 1) := by decide +kernel
theorem dX12_man_9 : decode cX12_man 9 = .ok (.ireturn, 1) := by decide +kernel
theorem dX12_may_0 : decode cX12_may 0 = .ok (.aload_n 0, 1) := by decide +kernel
theorem dX12_may_1 : decode cX12_may 1 = .ok (.iload_n 1, 1) := by decide +kernel
theorem dX12_may_2 : decode cX12_may 2 = .ok (.invokevirtual 356, 3) := by decide +kernel
theorem dX12_may_5 : decode cX12_may 5 = .ok (.ifCond .eq 28, 3) := by decide +kernel
theorem dX12_may_33 : decode cX12_may 33 = .ok (.iconst (-1), 1) := by decide +kernel
theorem dX12_may_34 : decode cX12_may 34 = .ok (.ireturn, 1) := by decide +kernel
theorem dX12_meet_0 : decode cX12_meet 0 = .ok (.aload_n 0, 1) := by decide +kernel
theorem dX12_meet_1 : decode cX12_meet 1 = .ok (.iload_n 1, 1) := by decide +kernel
theorem dX12_meet_2 : decode cX12_meet 2 = .ok (.invokevirtual 356, 3) := by decide +kernel
theorem dX12_meet_5 : decode cX12_meet 5 = .ok (.ifCond .eq 25, 3) := by decide +kernel
theorem dX12_meet_30 : decode cX12_meet 30 = .ok (.iconst (-1), 1) := by decide +kernel
theorem dX12_meet_31 : decode cX12_meet 31 = .ok (.ireturn, 1) := by decide +kernel
theorem dX12_most_0 : decode cX12_most 0 = .ok (.aload_n 0, 1) := by decide +kernel
theorem dX12_most_1 : decode cX12_most 1 = .ok (.iload_n 1, 1) := by decide +kernel
theorem dX12_most_2 : decode cX12_most 2 = .ok (.invokevirtual 356, 3) := by decide +kernel
theorem dX12_most_5 : decode cX12_most 5 = .ok (.ifCond .eq 11, 3) := by decide +kernel
theorem dX12_most_16 : decode cX12_most 16 = .ok (.iconst (-1), 1) := by decide +kernel
theorem dX12_most_17 : decode cX12_most 17 = .ok (.ireturn, 1) := by decide +kernel
theorem dX12_place_0 : decode cX12_place 0 = .ok (.aload_n 0, 1) := by decide +kernel
theorem dX12_place_1 : decode cX12_place 1 = .ok (.getfield 37, 3) := by decide +kernel
theorem dX12_place_4 : decode cX12_place 4 = .ok (.ireturn, 1) := by decide +kernel
theorem dX12_put_0 : decode cX12_put 0 = .ok (.bipush 24, 2) := by decide +kernel
theorem dX12_put_2 : decode cX12_put 2 = .ok (.istore_n 2, 1) := by decide +kernel
theorem dX12_put_3 : decode cX12_put 3 = .ok (.iload_n 2, 1) := by decide +kernel
theorem dX12_put_4 : decode cX12_put 4 = .ok (.ifCond .lt 32, 3) := by decide +kernel
theorem dX12_put_7 : decode cX12_put 7 = .ok (.aload_n 0, 1) := by decide +kernel
theorem dX12_put_8 : decode cX12_put 8 = .ok (.getfield 13, 3) := by decide +kernel
theorem dX12_put_11 : decode cX12_put 11 = .ok (.aload_n 0, 1) := by decide +kernel
theorem dX12_put_12 : decode cX12_put 12 = .ok (.getfield 202, 3) := by decide +kernel
theorem dX12_put_15 : decode cX12_put 15 = .ok (.iload_n 1, 1) := by decide +kernel
theorem dX12_put_16 : decode cX12_put 16 = .ok (.iload_n 2, 1) := by decide +kernel
theorem dX12_put_17 : decode cX12_put 17 = .ok (.ishr, 1) := by decide +kernel
theorem dX12_put_18 : decode cX12_put 18 = .ok (.i2b, 1) := by decide +kernel
theorem dX12_put_19 : decode cX12_put 19 = .ok (.bastore, 1) := by decide +kernel
theorem dX12_put_20 : decode cX12_put 20 = .ok (.aload_n 0, 1) := by decide +kernel
theorem dX12_put_21 : decode cX12_put 21 = .ok (.dup, 1) := by decide +kernel
theorem dX12_put_22 : decode cX12_put 22 = .ok (.getfield 202, 3) := by decide +kernel
theorem dX12_put_25 : decode cX12_put 25 = .ok (.iconst 1, 1) := by decide +kernel
theorem dX12_put_26 : decode cX12_put 26 = .ok (.iadd, 1) := by decide +kernel
theorem dX12_put_27 : decode cX12_put 27 = .ok (.putfield 202, 3) := by decide +kernel
theorem dX12_put_30 : decode cX12_put 30 = .ok (.iinc 2 (-8), 3) := by decide +kernel
theorem dX12_put_33 : decode cX12_put 33 = .ok (.goto (-30), 3) := by decide +kernel
theorem dX12_put_36 : decode cX12_put 36 = .ok (.return_, 1) := by decide +kernel
theorem dX12_read_0 : decode cX12_read 0 = .ok (.aload_n 0, 1) := by decide +kernel
theorem dX12_read_1 : decode cX12_read 1 = .ok (.aload_n 0, 1) := by decide +kernel
theorem dX12_read_2 : decode cX12_read 2 = .ok (.getfield 202, 3) := by decide +kernel
theorem dX12_read_5 : decode cX12_read 5 = .ok (.putfield 209, 3) := by decide +kernel
theorem dX12_read_8 : decode cX12_read 8 = .ok (.iconst 0, 1) := by decide +kernel
theorem dX12_read_9 : decode cX12_read 9 = .ok (.istore_n 1, 1) := by decide +kernel
theorem dX12_read_10 : decode cX12_read 10 = .ok (.iload_n 1, 1) := by decide +kernel
theorem dX12_read_11 : decode cX12_read 11 = .ok (.aload_n 0, 1) := by decide +kernel
theorem dX12_read_12 : decode cX12_read 12 = .ok (.getfield 209, 3) := by decide +kernel
theorem dX12_read_15 : decode cX12_read 15 = .ok (.if_icmp .ge 21, 3) := by decide +kernel
theorem dX12_read_36 : decode cX12_read 36 = .ok (.aload_n 0, 1) := by decide +kernel
theorem dX12_read_37 : decode cX12_read 37 = .ok (.iconst 0, 1) := by decide +kernel
theorem dX12_read_38 : decode cX12_read 38 = .ok (.putfield 202, 3) := by decide +kernel
theorem dX12_read_41 : decode cX12_read 41 = .ok (.aload_n 0, 1) := by decide +kernel
theorem dX12_read_42 : decode cX12_read 42 = .ok (.invokevirtual 260, 3) := by decide +kernel
theorem dX12_read_45 : decode cX12_read 45 = .ok (.aload_n 0, 1) := by decide +kernel
theorem dX12_read_46 : decode cX12_read 46 = .ok (.iconst 0, 1) := by decide +kernel
theorem dX12_read_47 : decode cX12_read 47 = .ok (.putfield 239, 3) := by decide +kernel
theorem dX12_read_50 : decode cX12_read 50 = .ok (.aload_n 0, 1) := by decide +kernel
theorem dX12_read_51 : decode cX12_read 51 = .ok (.iconst 0, 1) := by decide +kernel
theorem dX12_read_52 : decode cX12_read 52 = .ok (.putfield 263, 3) := by decide +kernel
theorem dX12_read_55 : decode cX12_read 55 = .ok (.aload_n 0, 1) := by decide +kernel
theorem dX12_read_56 : decode cX12_read 56 = .ok (.iconst 0, 1) := by decide +kernel
theorem dX12_read_57 : decode cX12_read 57 = .ok (.putfield 236, 3) := by decide +kernel
theorem dX12_read_60 : decode cX12_read 60 = .ok (.aload_n 0, 1) := by decide +kernel
theorem dX12_read_61 : decode cX12_read 61 = .ok (.iconst 0, 1) := by decide +kernel
theorem dX12_read_62 : decode cX12_read 62 = .ok (.putfield 245, 3) := by decide +kernel
theorem dX12_read_65 : decode cX12_read 65 = .ok (.aload_n 0, 1) := by decide +kernel
theorem dX12_read_66 : decode cX12_read 66 = .ok (.iconst 1, 1) := by decide +kernel
theorem dX12_read_67 : decode cX12_read 67 = .ok (.aload_n 0, 1) := by decide +kernel
theorem dX12_read_68 : decode cX12_read 68 = .ok (.getfield 266, 3) := by decide +kernel
theorem dX12_read_71 : decode cX12_read 71 = .ok (.isub, 1) := by decide +kernel
theorem dX12_read_72 : decode cX12_read 72 = .ok (.putfield 269, 3) := by decide +kernel
theorem dX12_read_75 : decode cX12_read 75 = .ok (.aload_n 0, 1) := by decide +kernel
theorem dX12_read_76 : decode cX12_read 76 = .ok (.iconst 0, 1) := by decide +kernel
theorem dX12_read_77 : decode cX12_read 77 = .ok (.putfield 272, 3) := by decide +kernel
theorem dX12_read_80 : decode cX12_read 80 = .ok (.aload_n 0, 1) := by decide +kernel
theorem dX12_read_81 : decode cX12_read 81 = .ok (.getfield 49, 3) := by decide +kernel
theorem dX12_read_84 : decode cX12_read 84 = .ok (.aload_n 0, 1) := by decide +kernel
theorem dX12_read_85 : decode cX12_read 85 = .ok (.getfield 269, 3) := by decide +kernel
theorem dX12_read_88 : decode cX12_read 88 = .ok (.iconst 0, 1) := by decide +kernel
theorem dX12_read_89 : decode cX12_read 89 = .ok (.iastore, 1) := by decide +kernel
theorem dX12_read_90 : decode cX12_read 90 = .ok (.aload_n 0, 1) := by decide +kernel
theorem dX12_read_91 : decode cX12_read 91 = .ok (.getfield 55, 3) := by decide +kernel
theorem dX12_read_94 : decode cX12_read 94 = .ok (.aload_n 0, 1) := by decide +kernel
theorem dX12_read_95 : decode cX12_read 95 = .ok (.getfield 269, 3) := by decide +kernel
theorem dX12_read_98 : decode cX12_read 98 = .ok (.iconst 0, 1) := by decide +kernel
theorem dX12_read_99 : decode cX12_read 99 = .ok (.iastore, 1) := by decide +kernel
theorem dX12_read_100 : decode cX12_read 100 = .ok (.aload_n 0, 1) := by decide +kernel
theorem dX12_read_101 : decode cX12_read 101 = .ok (.getfield 68, 3) := by decide +kernel
theorem dX12_read_104 : decode cX12_read 104 = .ok (.aload_n 0, 1) := by decide +kernel
theorem dX12_read_105 : decode cX12_read 105 = .ok (.getfield 269, 3) := by decide +kernel
theorem dX12_read_108 : decode cX12_read 108 = .ok (.iconst 0, 1) := by decide +kernel
theorem dX12_read_109 : decode cX12_read 109 = .ok (.iastore, 1) := by decide +kernel
theorem dX12_read_110 : decode cX12_read 110 = .ok (.aload_n 0, 1) := by decide +kernel
theorem dX12_read_111 : decode cX12_read 111 = .ok (.getfield 74, 3) := by decide +kernel
theorem dX12_read_114 : decode cX12_read 114 = .ok (.aload_n 0, 1) := by decide +kernel
theorem dX12_read_115 : decode cX12_read 115 = .ok (.getfield 269, 3) := by decide +kernel
theorem dX12_read_118 : decode cX12_read 118 = .ok (.iconst 0, 1) := by decide +kernel
theorem dX12_read_119 : decode cX12_read 119 = .ok (.iastore, 1) := by decide +kernel
theorem dX12_read_120 : decode cX12_read 120 = .ok (.aload_n 0, 1) := by decide +kernel
theorem dX12_read_121 : decode cX12_read 121 = .ok (.getfield 83, 3) := by decide +kernel
theorem dX12_read_124 : decode cX12_read 124 = .ok (.aload_n 0, 1) := by decide +kernel
theorem dX12_read_125 : decode cX12_read 125 = .ok (.getfield 269, 3) := by decide +kernel
theorem dX12_read_128 : decode cX12_read 128 = .ok (.iconst 0, 1) := by decide +kernel
theorem dX12_read_129 : decode cX12_read 129 = .ok (.iastore, 1) := by decide +kernel
theorem dX12_read_130 : decode cX12_read 130 = .ok (.aload_n 0, 1) := by decide +kernel
theorem dX12_read_131 : decode cX12_read 131 = .ok (.getfield 86, 3) := by decide +kernel
theorem dX12_read_134 : decode cX12_read 134 = .ok (.aload_n 0, 1) := by decide +kernel
theorem dX12_read_135 : decode cX12_read 135 = .ok (.getfield 269, 3) := by decide +kernel
theorem dX12_read_138 : decode cX12_read 138 = .ok (.iconst 0, 1) := by decide +kernel
theorem dX12_read_139 : decode cX12_read 139 = .ok (.iastore, 1) := by decide +kernel
theorem dX12_read_140 : decode cX12_read 140 = .ok (.iconst 0, 1) := by decide +kernel
theorem dX12_read_141 : decode cX12_read 141 = .ok (.istore_n 1, 1) := by decide +kernel
theorem dX12_read_142 : decode cX12_read 142 = .ok (.iload_n 1, 1) := by decide +kernel
theorem dX12_read_143 : decode cX12_read 143 = .ok (.bipush 50, 2) := by decide +kernel
theorem dX12_read_145 : decode cX12_read 145 = .ok (.if_icmp .ge 54, 3) := by decide +kernel
theorem dX12_read_148 : decode cX12_read 148 = .ok (.aload_n 0, 1) := by decide +kernel
theorem dX12_read_149 : decode cX12_read 149 = .ok (.getfield 58, 3) := by decide +kernel
theorem dX12_read_152 : decode cX12_read 152 = .ok (.bipush 50, 2) := by decide +kernel
theorem dX12_read_154 : decode cX12_read 154 = .ok (.aload_n 0, 1) := by decide +kernel
theorem dX12_read_155 : decode cX12_read 155 = .ok (.getfield 269, 3) := by decide +kernel
theorem dX12_read_158 : decode cX12_read 158 = .ok (.imul, 1) := by decide +kernel
theorem dX12_read_159 : decode cX12_read 159 = .ok (.iload_n 1, 1) := by decide +kernel
theorem dX12_read_160 : decode cX12_read 160 = .ok (.iadd, 1) := by decide +kernel
theorem dX12_read_161 : decode cX12_read 161 = .ok (.iconst (-1), 1) := by decide +kernel
theorem dX12_read_162 : decode cX12_read 162 = .ok (.iastore, 1) := by decide +kernel
theorem dX12_read_163 : decode cX12_read 163 = .ok (.aload_n 0, 1) := by decide +kernel
theorem dX12_read_164 : decode cX12_read 164 = .ok (.getfield 61, 3) := by decide +kernel
theorem dX12_read_167 : decode cX12_read 167 = .ok (.bipush 50, 2) := by decide +kernel
theorem dX12_read_169 : decode cX12_read 169 = .ok (.aload_n 0, 1) := by decide +kernel
theorem dX12_read_170 : decode cX12_read 170 = .ok (.getfield 269, 3) := by decide +kernel
theorem dX12_read_173 : decode cX12_read 173 = .ok (.imul, 1) := by decide +kernel
theorem dX12_read_174 : decode cX12_read 174 = .ok (.iload_n 1, 1) := by decide +kernel
theorem dX12_read_175 : decode cX12_read 175 = .ok (.iadd, 1) := by decide +kernel
theorem dX12_read_176 : decode cX12_read 176 = .ok (.iconst 0, 1) := by decide +kernel
theorem dX12_read_177 : decode cX12_read 177 = .ok (.iastore, 1) := by decide +kernel
theorem dX12_read_178 : decode cX12_read 178 = .ok (.aload_n 0, 1) := by decide +kernel
theorem dX12_read_179 : decode cX12_read 179 = .ok (.getfield 64, 3) := by decide +kernel
theorem dX12_read_182 : decode cX12_read 182 = .ok (.bipush 50, 2) := by decide +kernel
theorem dX12_read_184 : decode cX12_read 184 = .ok (.aload_n 0, 1) := by decide +kernel
theorem dX12_read_185 : decode cX12_read 185 = .ok (.getfield 269, 3) := by decide +kernel
theorem dX12_read_188 : decode cX12_read 188 = .ok (.imul, 1) := by decide +kernel
theorem dX12_read_189 : decode cX12_read 189 = .ok (.iload_n 1, 1) := by decide +kernel
theorem dX12_read_190 : decode cX12_read 190 = .ok (.iadd, 1) := by decide +kernel
theorem dX12_read_191 : decode cX12_read 191 = .ok (.iconst 0, 1) := by decide +kernel
theorem dX12_read_192 : decode cX12_read 192 = .ok (.bastore, 1) := by decide +kernel
theorem dX12_read_193 : decode cX12_read 193 = .ok (.iinc 1 1, 3) := by decide +kernel
theorem dX12_read_196 : decode cX12_read 196 = .ok (.goto (-54), 3) := by decide +kernel
theorem dX12_read_199 : decode cX12_read 199 = .ok (.iconst 0, 1) := by decide +kernel
theorem dX12_read_200 : decode cX12_read 200 = .ok (.istore_n 1, 1) := by decide +kernel
theorem dX12_read_201 : decode cX12_read 201 = .ok (.iload_n 1, 1) := by decide +kernel
theorem dX12_read_202 : decode cX12_read 202 = .ok (.bipush 100, 2) := by decide +kernel
theorem dX12_read_204 : decode cX12_read 204 = .ok (.if_icmp .ge 24, 3) := by decide +kernel
theorem dX12_read_207 : decode cX12_read 207 = .ok (.aload_n 0, 1) := by decide +kernel
theorem dX12_read_208 : decode cX12_read 208 = .ok (.getfield 71, 3) := by decide +kernel
theorem dX12_read_211 : decode cX12_read 211 = .ok (.bipush 100, 2) := by decide +kernel
theorem dX12_read_213 : decode cX12_read 213 = .ok (.aload_n 0, 1) := by decide +kernel
theorem dX12_read_214 : decode cX12_read 214 = .ok (.getfield 269, 3) := by decide +kernel
theorem dX12_read_217 : decode cX12_read 217 = .ok (.imul, 1) := by decide +kernel
theorem dX12_read_218 : decode cX12_read 218 = .ok (.iload_n 1, 1) := by decide +kernel
theorem dX12_read_219 : decode cX12_read 219 = .ok (.iadd, 1) := by decide +kernel
theorem dX12_read_220 : decode cX12_read 220 = .ok (.iconst 0, 1) := by decide +kernel
theorem dX12_read_221 : decode cX12_read 221 = .ok (.iastore, 1) := by decide +kernel
theorem dX12_read_222 : decode cX12_read 222 = .ok (.iinc 1 1, 3) := by decide +kernel
theorem dX12_read_225 : decode cX12_read 225 = .ok (.goto (-24), 3) := by decide +kernel
theorem dX12_read_228 : decode cX12_read 228 = .ok (.aload_n 0, 1) := by decide +kernel
theorem dX12_read_229 : decode cX12_read 229 = .ok (.getfield 236, 3) := by decide +kernel
theorem dX12_read_232 : decode cX12_read 232 = .ok (.ifCond .ne 18, 3) := by decide +kernel
theorem dX12_read_235 : decode cX12_read 235 = .ok (.aload_n 0, 1) := by decide +kernel
theorem dX12_read_236 : decode cX12_read 236 = .ok (.iconst 0, 1) := by decide +kernel
theorem dX12_read_237 : decode cX12_read 237 = .ok (.invokevirtual 254, 3) := by decide +kernel
theorem dX12_read_240 : decode cX12_read 240 = .ok (.ifCond .ne 10, 3) := by decide +kernel
theorem dX12_read_250 : decode cX12_read 250 = .ok (.aload_n 0, 1) := by decide +kernel
theorem dX12_read_251 : decode cX12_read 251 = .ok (.aload_n 0, 1) := by decide +kernel
theorem dX12_read_252 : decode cX12_read 252 = .ok (.getfield 236, 3) := by decide +kernel
theorem dX12_read_255 : decode cX12_read 255 = .ok (.ifCond .le 10, 3) := by decide +kernel
theorem dX12_read_265 : decode cX12_read 265 = .ok (.aload_n 0, 1) := by decide +kernel
theorem dX12_read_266 : decode cX12_read 266 = .ok (.getfield 245, 3) := by decide +kernel
theorem dX12_read_269 : decode cX12_read 269 = .ok (.ifCond .le 10, 3) := by decide +kernel
theorem dX12_read_279 : decode cX12_read 279 = .ok (.iconst (-1), 1) := by decide +kernel
theorem dX12_read_280 : decode cX12_read 280 = .ok (.putfield 37, 3) := by decide +kernel
theorem dX12_read_283 : decode cX12_read 283 = .ok (.aload_n 0, 1) := by decide +kernel
theorem dX12_read_284 : decode cX12_read 284 = .ok (.getfield 236, 3) := by decide +kernel
theorem dX12_read_287 : decode cX12_read 287 = .ok (.ifCond .le 8, 3) := by decide +kernel
theorem dX12_read_295 : decode cX12_read 295 = .ok (.aload_n 0, 1) := by decide +kernel
theorem dX12_read_296 : decode cX12_read 296 = .ok (.getfield 245, 3) := by decide +kernel
theorem dX12_read_299 : decode cX12_read 299 = .ok (.ifCond .le 8, 3) := by decide +kernel
theorem dX12_read_307 : decode cX12_read 307 = .ok (.aload_n 0, 1) := by decide +kernel
theorem dX12_read_308 : decode cX12_read 308 = .ok (.aload_n 0, 1) := by decide +kernel
theorem dX12_read_309 : decode cX12_read 309 = .ok (.getfield 269, 3) := by decide +kernel
theorem dX12_read_312 : decode cX12_read 312 = .ok (.putfield 266, 3) := by decide +kernel
theorem dX12_read_315 : decode cX12_read 315 = .ok (.aload_n 0, 1) := by decide +kernel
theorem dX12_read_316 : decode cX12_read 316 = .ok (.invokevirtual 278, 3) := by decide +kernel
theorem dX12_read_319 : decode cX12_read 319 = .ok (.aload_n 0, 1) := by decide +kernel
theorem dX12_read_320 : decode cX12_read 320 = .ok (.iconst 0, 1) := by decide +kernel
theorem dX12_read_321 : decode cX12_read 321 = .ok (.putfield 281, 3) := by decide +kernel
theorem dX12_read_324 : decode cX12_read 324 = .ok (.aload_n 0, 1) := by decide +kernel
theorem dX12_read_325 : decode cX12_read 325 = .ok (.iconst 0, 1) := by decide +kernel
theorem dX12_read_326 : decode cX12_read 326 = .ok (.putfield 284, 3) := by decide +kernel
theorem dX12_read_329 : decode cX12_read 329 = .ok (.iconst 0, 1) := by decide +kernel
theorem dX12_read_330 : decode cX12_read 330 = .ok (.istore_n 1, 1) := by decide +kernel
theorem dX12_read_331 : decode cX12_read 331 = .ok (.iload_n 1, 1) := by decide +kernel
theorem dX12_read_332 : decode cX12_read 332 = .ok (.iconst 3, 1) := by decide +kernel
theorem dX12_read_333 : decode cX12_read 333 = .ok (.if_icmp .ge 16, 3) := by decide +kernel
theorem dX12_read_336 : decode cX12_read 336 = .ok (.aload_n 0, 1) := by decide +kernel
theorem dX12_read_337 : decode cX12_read 337 = .ok (.getfield 188, 3) := by decide +kernel
theorem dX12_read_340 : decode cX12_read 340 = .ok (.iload_n 1, 1) := by decide +kernel
theorem dX12_read_341 : decode cX12_read 341 = .ok (.iconst 0, 1) := by decide +kernel
theorem dX12_read_342 : decode cX12_read 342 = .ok (.bastore, 1) := by decide +kernel
theorem dX12_read_343 : decode cX12_read 343 = .ok (.iinc 1 1, 3) := by decide +kernel
theorem dX12_read_346 : decode cX12_read 346 = .ok (.goto (-15), 3) := by decide +kernel
theorem dX12_read_349 : decode cX12_read 349 = .ok (.iconst 0, 1) := by decide +kernel
theorem dX12_read_350 : decode cX12_read 350 = .ok (.ireturn, 1) := by decide +kernel
theorem dX12_rest_0 : decode cX12_rest 0 = .ok (.iload_n 1, 1) := by decide +kernel
theorem dX12_rest_1 : decode cX12_rest 1 = .ok (.iconst 0, 1) := by decide +kernel
theorem dX12_rest_2 : decode cX12_rest 2 = .ok (.iconst 2, 1) := by decide +kernel
theorem dX12_rest_3 : decode cX12_rest 3 = .ok (.invokestatic 333, 3) := by decide +kernel
theorem dX12_rest_6 : decode cX12_rest 6 = .ok (.ifCond .ne 5, 3) := by decide +kernel
theorem dX12_rest_9 : decode cX12_rest 9 = .ok (.iconst (-1), 1) := by decide +kernel
theorem dX12_rest_10 : decode cX12_rest 10 = .ok (.ireturn, 1) := by decide +kernel
theorem dX12_rest_11 : decode cX12_rest 11 = .ok (.aload_n 0, 1) := by decide +kernel
theorem dX12_rest_12 : decode cX12_rest 12 = .ok (.getfield 86, 3) := by decide +kernel
theorem dX12_rest_15 : decode cX12_rest 15 = .ok (.aload_n 0, 1) := by decide +kernel
theorem dX12_rest_16 : decode cX12_rest 16 = .ok (.getfield 266, 3) := by decide +kernel
theorem dX12_rest_19 : decode cX12_rest 19 = .ok (.iaload, 1) := by decide +kernel
theorem dX12_rest_20 : decode cX12_rest 20 = .ok (.istore_n 2, 1) := by decide +kernel
theorem dX12_rest_21 : decode cX12_rest 21 = .ok (.iconst 0, 1) := by decide +kernel
theorem dX12_rest_22 : decode cX12_rest 22 = .ok (.istore_n 3, 1) := by decide +kernel
theorem dX12_rest_23 : decode cX12_rest 23 = .ok (.iconst 0, 1) := by decide +kernel
theorem dX12_rest_24 : decode cX12_rest 24 = .ok (.istore 4, 2) := by decide +kernel
theorem dX12_rest_26 : decode cX12_rest 26 = .ok (.iconst 0, 1) := by decide +kernel
theorem dX12_rest_27 : decode cX12_rest 27 = .ok (.istore 5, 2) := by decide +kernel
theorem dX12_rest_29 : decode cX12_rest 29 = .ok (.iload 5, 2) := by decide +kernel
theorem dX12_rest_31 : decode cX12_rest 31 = .ok (.aload_n 0, 1) := by decide +kernel
theorem dX12_rest_32 : decode cX12_rest 32 = .ok (.getfield 74, 3) := by decide +kernel
theorem dX12_rest_35 : decode cX12_rest 35 = .ok (.aload_n 0, 1) := by decide +kernel
theorem dX12_rest_36 : decode cX12_rest 36 = .ok (.getfield 266, 3) := by decide +kernel
theorem dX12_rest_39 : decode cX12_rest 39 = .ok (.iaload, 1) := by decide +kernel
theorem dX12_rest_40 : decode cX12_rest 40 = .ok (.if_icmp .ge 22, 3) := by decide +kernel
theorem dX12_rest_62 : decode cX12_rest 62 = .ok (.iconst 0, 1) := by decide +kernel
theorem dX12_rest_63 : decode cX12_rest 63 = .ok (.istore 5, 2) := by decide +kernel
theorem dX12_rest_65 : decode cX12_rest 65 = .ok (.iload 5, 2) := by decide +kernel
theorem dX12_rest_67 : decode cX12_rest 67 = .ok (.iload_n 2, 1) := by decide +kernel
theorem dX12_rest_68 : decode cX12_rest 68 = .ok (.if_icmp .ge 53, 3) := by decide +kernel
theorem dX12_rest_121 : decode cX12_rest 121 = .ok (.iconst 0, 1) := by decide +kernel
theorem dX12_rest_122 : decode cX12_rest 122 = .ok (.istore 5, 2) := by decide +kernel
theorem dX12_rest_124 : decode cX12_rest 124 = .ok (.iload 5, 2) := by decide +kernel
theorem dX12_rest_126 : decode cX12_rest 126 = .ok (.iload_n 2, 1) := by decide +kernel
theorem dX12_rest_127 : decode cX12_rest 127 = .ok (.if_icmp .ge 157, 3) := by decide +kernel
theorem dX12_rest_284 : decode cX12_rest 284 = .ok (.iload_n 1, 1) := by decide +kernel
theorem dX12_rest_285 : decode cX12_rest 285 = .ok (.ifCond .ne 5, 3) := by decide +kernel
theorem dX12_rest_288 : decode cX12_rest 288 = .ok (.iload_n 3, 1) := by decide +kernel
theorem dX12_rest_289 : decode cX12_rest 289 = .ok (.ireturn, 1) := by decide +kernel
theorem dX12_rest_290 : decode cX12_rest 290 = .ok (.iload_n 1, 1) := by decide +kernel
theorem dX12_rest_291 : decode cX12_rest 291 = .ok (.iconst 1, 1) := by decide +kernel
theorem dX12_rest_292 : decode cX12_rest 292 = .ok (.if_icmp .ne 6, 3) := by decide +kernel
theorem dX12_rest_295 : decode cX12_rest 295 = .ok (.iload 4, 2) := by decide +kernel
theorem dX12_rest_297 : decode cX12_rest 297 = .ok (.ireturn, 1) := by decide +kernel
theorem dX12_rest_298 : decode cX12_rest 298 = .ok (.iconst 0, 1) := by decide +kernel
theorem dX12_rest_299 : decode cX12_rest 299 = .ok (.istore 5, 2) := by decide +kernel
theorem dX12_rest_301 : decode cX12_rest 301 = .ok (.iconst 0, 1) := by decide +kernel
theorem dX12_rest_302 : decode cX12_rest 302 = .ok (.istore 6, 2) := by decide +kernel
theorem dX12_rest_304 : decode cX12_rest 304 = .ok (.iload 6, 2) := by decide +kernel
theorem dX12_rest_306 : decode cX12_rest 306 = .ok (.aload_n 0, 1) := by decide +kernel
theorem dX12_rest_307 : decode cX12_rest 307 = .ok (.getfield 74, 3) := by decide +kernel
theorem dX12_rest_310 : decode cX12_rest 310 = .ok (.aload_n 0, 1) := by decide +kernel
theorem dX12_rest_311 : decode cX12_rest 311 = .ok (.getfield 266, 3) := by decide +kernel
theorem dX12_rest_314 : decode cX12_rest 314 = .ok (.iaload, 1) := by decide +kernel
theorem dX12_rest_315 : decode cX12_rest 315 = .ok (.if_icmp .ge 24, 3) := by decide +kernel
theorem dX12_rest_339 : decode cX12_rest 339 = .ok (.iload 5, 2) := by decide +kernel
theorem dX12_rest_341 : decode cX12_rest 341 = .ok (.ireturn, 1) := by decide +kernel
theorem dX12_restore_0 : decode cX12_restore 0 = .ok (.iload_n 1, 1) := by decide +kernel
theorem dX12_restore_1 : decode cX12_restore 1 = .ok (.iconst 0, 1) := by decide +kernel
theorem dX12_restore_2 : decode cX12_restore 2 = .ok (.iconst 2, 1) := by decide +kernel
theorem dX12_restore_3 : decode cX12_restore 3 = .ok (.invokestatic 333, 3) := by decide +kernel
theorem dX12_restore_6 : decode cX12_restore 6 = .ok (.ifCond .eq 12, 3) := by decide +kernel
theorem dX12_restore_9 : decode cX12_restore 9 = .ok (.aload_n 0, 1) := by decide +kernel
theorem dX12_restore_10 : decode cX12_restore 10 = .ok (.getfield 188, 3) := by decide +kernel
theorem dX12_restore_13 : decode cX12_restore 13 = .ok (.iload_n 1, 1) := by decide +kernel
theorem dX12_restore_14 : decode cX12_restore 14 = .ok (.baload, 1) := by decide +kernel
theorem dX12_restore_15 : decode cX12_restore 15 = .ok (.ifCond .ne 5, 3) := by decide +kernel
theorem dX12_restore_18 : decode cX12_restore 18 = .ok (.iconst 0, 1) := by decide +kernel
theorem dX12_restore_19 : decode cX12_restore 19 = .ok (.ireturn, 1) := by decide +kernel
theorem dX12_riches_0 : decode cX12_riches 0 = .ok (.iload_n 1, 1) := by decide +kernel
theorem dX12_riches_1 : decode cX12_riches 1 = .ok (.iconst (-1), 1) := by decide +kernel
theorem dX12_riches_2 : decode cX12_riches 2 = .ok (.if_icmp .eq 21, 3) := by decide +kernel
theorem dX12_riches_5 : decode cX12_riches 5 = .ok (.aload_n 0, 1) := by decide +kernel
theorem dX12_riches_6 : decode cX12_riches 6 = .ok (.iload_n 1, 1) := by decide +kernel
theorem dX12_riches_7 : decode cX12_riches 7 = .ok (.invokevirtual 347, 3) := by decide +kernel
theorem dX12_riches_10 : decode cX12_riches 10 = .ok (.ifCond .eq 11, 3) := by decide +kernel
theorem dX12_riches_21 : decode cX12_riches 21 = .ok (.iconst (-1), 1) := by decide +kernel
theorem dX12_riches_22 : decode cX12_riches 22 = .ok (.ireturn, 1) := by decide +kernel
theorem dX12_riches_23 : decode cX12_riches 23 = .ok (.bipush (-2), 2) := by decide +kernel
theorem dX12_riches_25 : decode cX12_riches 25 = .ok (.istore_n 2, 1) := by decide +kernel
theorem dX12_riches_26 : decode cX12_riches 26 = .ok (.iconst 0, 1) := by decide +kernel
theorem dX12_riches_27 : decode cX12_riches 27 = .ok (.istore_n 3, 1) := by decide +kernel
theorem dX12_riches_28 : decode cX12_riches 28 = .ok (.iload_n 3, 1) := by decide +kernel
theorem dX12_riches_29 : decode cX12_riches 29 = .ok (.aload_n 0, 1) := by decide +kernel
theorem dX12_riches_30 : decode cX12_riches 30 = .ok (.getfield 55, 3) := by decide +kernel
theorem dX12_riches_33 : decode cX12_riches 33 = .ok (.aload_n 0, 1) := by decide +kernel
theorem dX12_riches_34 : decode cX12_riches 34 = .ok (.getfield 266, 3) := by decide +kernel
theorem dX12_riches_37 : decode cX12_riches 37 = .ok (.iaload, 1) := by decide +kernel
theorem dX12_riches_38 : decode cX12_riches 38 = .ok (.if_icmp .ge 28, 3) := by decide +kernel
theorem dX12_riches_66 : decode cX12_riches 66 = .ok (.iload_n 2, 1) := by decide +kernel
theorem dX12_riches_67 : decode cX12_riches 67 = .ok (.ireturn, 1) := by decide +kernel
theorem dX12_rid_0 : decode cX12_rid 0 = .ok (.aload_n 0, 1) := by decide +kernel
theorem dX12_rid_1 : decode cX12_rid 1 = .ok (.iload_n 1, 1) := by decide +kernel
theorem dX12_rid_2 : decode cX12_rid 2 = .ok (.invokevirtual 356, 3) := by decide +kernel
theorem dX12_rid_5 : decode cX12_rid 5 = .ok (.ifCond .eq 30, 3) := by decide +kernel
theorem dX12_rid_35 : decode cX12_rid 35 = .ok (.iconst (-1), 1) := by decide +kernel
theorem dX12_rid_36 : decode cX12_rid 36 = .ok (.ireturn, 1) := by decide +kernel
theorem dX12_round_0 : decode cX12_round 0 = .ok (.aload_n 0, 1) := by decide +kernel
theorem dX12_round_1 : decode cX12_round 1 = .ok (.iload_n 1, 1) := by decide +kernel
theorem dX12_round_2 : decode cX12_round 2 = .ok (.invokevirtual 356, 3) := by decide +kernel
theorem dX12_round_5 : decode cX12_round 5 = .ok (.ifCond .eq 24, 3) := by decide +kernel
theorem dX12_round_29 : decode cX12_round 29 = .ok (.iconst (-1), 1) := by decide +kernel
theorem dX12_round_30 : decode cX12_round 30 = .ok (.ireturn, 1) := by decide +kernel
theorem dX12_see_0 : decode cX12_see 0 = .ok (.aload_n 0, 1) := by decide +kernel
theorem dX12_see_1 : decode cX12_see 1 = .ok (.getfield 284, 3) := by decide +kernel
theorem dX12_see_4 : decode cX12_see 4 = .ok (.bipush 30, 2) := by decide +kernel
theorem dX12_see_6 : decode cX12_see 6 = .ok (.if_icmp .eq 29, 3) := by decide +kernel
theorem dX12_see_9 : decode cX12_see 9 = .ok (.aload_n 0, 1) := by decide +kernel
theorem dX12_see_10 : decode cX12_see 10 = .ok (.iload_n 1, 1) := by decide +kernel
theorem dX12_see_11 : decode cX12_see 11 = .ok (.invokevirtual 347, 3) := by decide +kernel
theorem dX12_see_14 : decode cX12_see 14 = .ok (.ifCond .eq 21, 3) := by decide +kernel
theorem dX12_see_35 : decode cX12_see 35 = .ok (.iconst (-1), 1) := by decide +kernel
theorem dX12_see_36 : decode cX12_see 36 = .ok (.ireturn, 1) := by decide +kernel
theorem dX12_step_0 : decode cX12_step 0 = .ok (.aload_n 0, 1) := by decide +kernel
theorem dX12_step_1 : decode cX12_step 1 = .ok (.iload_n 1, 1) := by decide +kernel
theorem dX12_step_2 : decode cX12_step 2 = .ok (.iload_n 2, 1) := by decide +kernel
theorem dX12_step_3 : decode cX12_step 3 = .ok (.iload_n 3, 1) := by decide +kernel
theorem dX12_step_4 : decode cX12_step 4 = .ok (.iload 4, 2) := by decide +kernel
theorem dX12_step_6 : decode cX12_step 6 = .ok (.invokevirtual 445, 3) := by decide +kernel
theorem dX12_step_9 : decode cX12_step 9 = .ok (.ifCond .ne 5, 3) := by decide +kernel
theorem dX12_step_12 : decode cX12_step 12 = .ok (.iconst (-1), 1) := by decide +kernel
theorem dX12_step_13 : decode cX12_step 13 = .ok (.ireturn, 1) := by decide +kernel
theorem dX12_table_0 : decode cX12_table 0 = .ok (.aload_n 0, 1) := by decide +kernel
theorem dX12_table_1 : decode cX12_table 1 = .ok (.iload_n 1, 1) := by decide +kernel
theorem dX12_table_2 : decode cX12_table 2 = .ok (.invokevirtual 347, 3) := by decide +kernel
theorem dX12_table_5 : decode cX12_table 5 = .ok (.ifCond .eq 24, 3) := by decide +kernel
theorem dX12_table_29 : decode cX12_table 29 = .ok (.iconst (-1), 1) := by decide +kernel
theorem dX12_table_30 : decode cX12_table 30 = .ok (.ireturn, 1) := by decide +kernel
theorem dX12_token_0 : decode cX12_token 0 = .ok (.aload_n 0, 1) := by decide +kernel
theorem dX12_token_1 : decode cX12_token 1 = .ok (.getfield 20, 3) := by decide +kernel
theorem dX12_token_4 : decode cX12_token 4 = .ok (.aload_n 0, 1) := by decide +kernel
theorem dX12_token_5 : decode cX12_token 5 = .ok (.getfield 214, 3) := by decide +kernel
theorem dX12_token_8 : decode cX12_token 8 = .ok (.iload_n 1, 1) := by decide +kernel
theorem dX12_token_9 : decode cX12_token 9 = .ok (.iastore, 1) := by decide +kernel
theorem dX12_token_10 : decode cX12_token 10 = .ok (.aload_n 0, 1) := by decide +kernel
theorem dX12_token_11 : decode cX12_token 11 = .ok (.getfield 24, 3) := by decide +kernel
theorem dX12_token_14 : decode cX12_token 14 = .ok (.aload_n 0, 1) := by decide +kernel
theorem dX12_token_15 : decode cX12_token 15 = .ok (.getfield 214, 3) := by decide +kernel
theorem dX12_token_18 : decode cX12_token 18 = .ok (.iload_n 2, 1) := by decide +kernel
theorem dX12_token_19 : decode cX12_token 19 = .ok (.iastore, 1) := by decide +kernel
theorem dX12_token_20 : decode cX12_token 20 = .ok (.aload_n 0, 1) := by decide +kernel
theorem dX12_token_21 : decode cX12_token 21 = .ok (.getfield 27, 3) := by decide +kernel
theorem dX12_token_24 : decode cX12_token 24 = .ok (.aload_n 0, 1) := by decide +kernel
theorem dX12_token_25 : decode cX12_token 25 = .ok (.getfield 214, 3) := by decide +kernel
theorem dX12_token_28 : decode cX12_token 28 = .ok (.iload_n 3, 1) := by decide +kernel
theorem dX12_token_29 : decode cX12_token 29 = .ok (.iastore, 1) := by decide +kernel
theorem dX12_token_30 : decode cX12_token 30 = .ok (.aload_n 0, 1) := by decide +kernel
theorem dX12_token_31 : decode cX12_token 31 = .ok (.getfield 30, 3) := by decide +kernel
theorem dX12_token_34 : decode cX12_token 34 = .ok (.aload_n 0, 1) := by decide +kernel
theorem dX12_token_35 : decode cX12_token 35 = .ok (.getfield 214, 3) := by decide +kernel
theorem dX12_token_38 : decode cX12_token 38 = .ok (.lload 4, 2) := by decide +kernel
theorem dX12_token_40 : decode cX12_token 40 = .ok (.lastore, 1) := by decide +kernel
theorem dX12_token_41 : decode cX12_token 41 = .ok (.aload_n 0, 1) := by decide +kernel
theorem dX12_token_42 : decode cX12_token 42 = .ok (.dup, 1) := by decide +kernel
theorem dX12_token_43 : decode cX12_token 43 = .ok (.getfield 214, 3) := by decide +kernel
theorem dX12_token_46 : decode cX12_token 46 = .ok (.iconst 1, 1) := by decide +kernel
theorem dX12_token_47 : decode cX12_token 47 = .ok (.iadd, 1) := by decide +kernel
theorem dX12_token_48 : decode cX12_token 48 = .ok (.putfield 214, 3) := by decide +kernel
theorem dX12_token_51 : decode cX12_token 51 = .ok (.return_, 1) := by decide +kernel
theorem dX12_turned_0 : decode cX12_turned 0 = .ok (.aload_n 0, 1) := by decide +kernel
theorem dX12_turned_1 : decode cX12_turned 1 = .ok (.iload_n 1, 1) := by decide +kernel
theorem dX12_turned_2 : decode cX12_turned 2 = .ok (.invokevirtual 353, 3) := by decide +kernel
theorem dX12_turned_5 : decode cX12_turned 5 = .ok (.ifCond .eq 11, 3) := by decide +kernel
theorem dX12_turned_16 : decode cX12_turned 16 = .ok (.iconst (-1), 1) := by decide +kernel
theorem dX12_turned_17 : decode cX12_turned 17 = .ok (.ireturn, 1) := by decide +kernel
theorem dX12_undo_0 : decode cX12_undo 0 = .ok (.aload_n 0, 1) := by decide +kernel
theorem dX12_undo_1 : decode cX12_undo 1 = .ok (.getfield 281, 3) := by decide +kernel
theorem dX12_undo_4 : decode cX12_undo 4 = .ok (.ifCond .ne 5, 3) := by decide +kernel
theorem dX12_undo_7 : decode cX12_undo 7 = .ok (.iconst 0, 1) := by decide +kernel
theorem dX12_undo_8 : decode cX12_undo 8 = .ok (.ireturn, 1) := by decide +kernel
theorem dX12_visitors_0 : decode cX12_visitors 0 = .ok (.aload_n 0, 1) := by decide +kernel
theorem dX12_visitors_1 : decode cX12_visitors 1 = .ok (.iload_n 1, 1) := by decide +kernel
theorem dX12_visitors_2 : decode cX12_visitors 2 = .ok (.invokevirtual 347, 3) := by decide +kernel
theorem dX12_visitors_5 : decode cX12_visitors 5 = .ok (.ifCond .eq 15, 3) := by decide +kernel
theorem dX12_visitors_20 : decode cX12_visitors 20 = .ok (.iconst (-1), 1) := by decide +kernel
theorem dX12_visitors_21 : decode cX12_visitors 21 = .ok (.ireturn, 1) := by decide +kernel
theorem dX12_way_0 : decode cX12_way 0 = .ok (.aload_n 0, 1) := by decide +kernel
theorem dX12_way_1 : decode cX12_way 1 = .ok (.iload_n 1, 1) := by decide +kernel
theorem dX12_way_2 : decode cX12_way 2 = .ok (.iload_n 2, 1) := by decide +kernel
theorem dX12_way_3 : decode cX12_way 3 = .ok (.iload_n 3, 1) := by decide +kernel
theorem dX12_way_4 : decode cX12_way 4 = .ok (.iload 4, 2) := by decide +kernel
theorem dX12_way_6 : decode cX12_way 6 = .ok (.invokevirtual 445, 3) := by decide +kernel
theorem dX12_way_9 : decode cX12_way 9 = .ok (.ifCond .eq 13, 3) := by decide +kernel
theorem dX12_way_22 : decode cX12_way 22 = .ok (.iconst (-1), 1) := by decide +kernel
theorem dX12_way_23 : decode cX12_way 23 = .ok (.ireturn, 1) := by decide +kernel
theorem dX12_word_0 : decode cX12_word 0 = .ok (.lconst 0, 1) := by decide +kernel
theorem dX12_word_1 : decode cX12_word 1 = .ok (.iload_n 0, 1) := by decide +kernel
theorem dX12_word_2 : decode cX12_word 2 = .ok (.invokestatic 198, 3) := by decide +kernel
theorem dX12_word_5 : decode cX12_word 5 = .ok (.iload_n 1, 1) := by decide +kernel
theorem dX12_word_6 : decode cX12_word 6 = .ok (.invokestatic 198, 3) := by decide +kernel
theorem dX12_word_9 : decode cX12_word 9 = .ok (.iload_n 2, 1) := by decide +kernel
theorem dX12_word_10 : decode cX12_word 10 = .ok (.invokestatic 198, 3) := by decide +kernel
theorem dX12_word_13 : decode cX12_word 13 = .ok (.iload_n 3, 1) := by decide +kernel
theorem dX12_word_14 : decode cX12_word 14 = .ok (.invokestatic 198, 3) := by decide +kernel
theorem dX12_word_17 : decode cX12_word 17 = .ok (.iload 4, 2) := by decide +kernel
theorem dX12_word_19 : decode cX12_word 19 = .ok (.invokestatic 198, 3) := by decide +kernel
theorem dX12_word_22 : decode cX12_word 22 = .ok (.iload 5, 2) := by decide +kernel
theorem dX12_word_24 : decode cX12_word 24 = .ok (.invokestatic 198, 3) := by decide +kernel
theorem dX12_word_27 : decode cX12_word 27 = .ok (.iload 6, 2) := by decide +kernel
theorem dX12_word_29 : decode cX12_word 29 = .ok (.invokestatic 198, 3) := by decide +kernel
theorem dX12_word_32 : decode cX12_word 32 = .ok (.lreturn, 1) := by decide +kernel
theorem dX12_worth_0 : decode cX12_worth 0 = .ok (.aload_n 0, 1) := by decide +kernel
theorem dX12_worth_1 : decode cX12_worth 1 = .ok (.iload_n 2, 1) := by decide +kernel
theorem dX12_worth_2 : decode cX12_worth 2 = .ok (.invokevirtual 353, 3) := by decide +kernel
theorem dX12_worth_5 : decode cX12_worth 5 = .ok (.ifCond .eq 16, 3) := by decide +kernel
theorem dX12_worth_21 : decode cX12_worth 21 = .ok (.iconst (-1), 1) := by decide +kernel
theorem dX12_worth_22 : decode cX12_worth 22 = .ok (.ireturn, 1) := by decide +kernel
theorem dX12_year_0 : decode cX12_year 0 = .ok (.iload_n 2, 1) := by decide +kernel
theorem dX12_year_1 : decode cX12_year 1 = .ok (.iconst 1, 1) := by decide +kernel
theorem dX12_year_2 : decode cX12_year 2 = .ok (.sipush 400, 3) := by decide +kernel
theorem dX12_year_5 : decode cX12_year 5 = .ok (.invokestatic 333, 3) := by decide +kernel
theorem dX12_year_8 : decode cX12_year 8 = .ok (.ifCond .eq 12, 3) := by decide +kernel
theorem dX12_year_11 : decode cX12_year 11 = .ok (.iload_n 3, 1) := by decide +kernel
theorem dX12_year_12 : decode cX12_year 12 = .ok (.iconst 0, 1) := by decide +kernel
theorem dX12_year_13 : decode cX12_year 13 = .ok (.iconst 3, 1) := by decide +kernel
theorem dX12_year_14 : decode cX12_year 14 = .ok (.invokestatic 333, 3) := by decide +kernel
theorem dX12_year_17 : decode cX12_year 17 = .ok (.ifCond .ne 5, 3) := by decide +kernel
theorem dX12_year_20 : decode cX12_year 20 = .ok (.iconst (-1), 1) := by decide +kernel
theorem dX12_year_21 : decode cX12_year 21 = .ok (.ireturn, 1) := by decide +kernel
theorem dX12_year_22 : decode cX12_year 22 = .ok (.iconst 0, 1) := by decide +kernel
theorem dX12_year_23 : decode cX12_year 23 = .ok (.istore 4, 2) := by decide +kernel
theorem dX12_year_25 : decode cX12_year 25 = .ok (.iconst 0, 1) := by decide +kernel
theorem dX12_year_26 : decode cX12_year 26 = .ok (.istore 5, 2) := by decide +kernel
theorem dX12_year_28 : decode cX12_year 28 = .ok (.iconst 0, 1) := by decide +kernel
theorem dX12_year_29 : decode cX12_year 29 = .ok (.istore 6, 2) := by decide +kernel
theorem dX12_year_31 : decode cX12_year 31 = .ok (.iload 6, 2) := by decide +kernel
theorem dX12_year_33 : decode cX12_year 33 = .ok (.aload_n 0, 1) := by decide +kernel
theorem dX12_year_34 : decode cX12_year 34 = .ok (.getfield 74, 3) := by decide +kernel
theorem dX12_year_37 : decode cX12_year 37 = .ok (.aload_n 0, 1) := by decide +kernel
theorem dX12_year_38 : decode cX12_year 38 = .ok (.getfield 266, 3) := by decide +kernel
theorem dX12_year_41 : decode cX12_year 41 = .ok (.iaload, 1) := by decide +kernel
theorem dX12_year_42 : decode cX12_year 42 = .ok (.if_icmp .ge 35, 3) := by decide +kernel
theorem dX12_year_77 : decode cX12_year 77 = .ok (.iconst 0, 1) := by decide +kernel
theorem dX12_year_78 : decode cX12_year 78 = .ok (.istore 6, 2) := by decide +kernel
theorem dX12_year_80 : decode cX12_year 80 = .ok (.iload 6, 2) := by decide +kernel
theorem dX12_year_82 : decode cX12_year 82 = .ok (.iload_n 2, 1) := by decide +kernel
theorem dX12_year_83 : decode cX12_year 83 = .ok (.if_icmp .ge 170, 3) := by decide +kernel
theorem dX12_year_86 : decode cX12_year 86 = .ok (.iconst 0, 1) := by decide +kernel
theorem dX12_year_87 : decode cX12_year 87 = .ok (.istore 7, 2) := by decide +kernel
theorem dX12_year_89 : decode cX12_year 89 = .ok (.iload 7, 2) := by decide +kernel
theorem dX12_year_91 : decode cX12_year 91 = .ok (.aload_n 0, 1) := by decide +kernel
theorem dX12_year_92 : decode cX12_year 92 = .ok (.getfield 74, 3) := by decide +kernel
theorem dX12_year_95 : decode cX12_year 95 = .ok (.aload_n 0, 1) := by decide +kernel
theorem dX12_year_96 : decode cX12_year 96 = .ok (.getfield 266, 3) := by decide +kernel
theorem dX12_year_99 : decode cX12_year 99 = .ok (.iaload, 1) := by decide +kernel
theorem dX12_year_100 : decode cX12_year 100 = .ok (.if_icmp .ge 147, 3) := by decide +kernel
theorem dX12_year_247 : decode cX12_year 247 = .ok (.iinc 6 1, 3) := by decide +kernel
theorem dX12_year_250 : decode cX12_year 250 = .ok (.goto (-170), 3) := by decide +kernel
theorem dX12_year_253 : decode cX12_year 253 = .ok (.iload_n 3, 1) := by decide +kernel
theorem dX12_year_254 : decode cX12_year 254 = .ok (.ifCond .ne 6, 3) := by decide +kernel
theorem dX12_year_257 : decode cX12_year 257 = .ok (.iload 4, 2) := by decide +kernel
theorem dX12_year_259 : decode cX12_year 259 = .ok (.ireturn, 1) := by decide +kernel
theorem dX12_year_260 : decode cX12_year 260 = .ok (.iload_n 3, 1) := by decide +kernel
theorem dX12_year_261 : decode cX12_year 261 = .ok (.iconst 1, 1) := by decide +kernel
theorem dX12_year_262 : decode cX12_year 262 = .ok (.if_icmp .ne 6, 3) := by decide +kernel
theorem dX12_year_265 : decode cX12_year 265 = .ok (.iload 5, 2) := by decide +kernel
theorem dX12_year_267 : decode cX12_year 267 = .ok (.ireturn, 1) := by decide +kernel
theorem dX12_year_268 : decode cX12_year 268 = .ok (.iconst 0, 1) := by decide +kernel
theorem dX12_year_269 : decode cX12_year 269 = .ok (.istore 6, 2) := by decide +kernel
theorem dX12_year_271 : decode cX12_year 271 = .ok (.iconst 0, 1) := by decide +kernel
theorem dX12_year_272 : decode cX12_year 272 = .ok (.istore 7, 2) := by decide +kernel
theorem dX12_year_274 : decode cX12_year 274 = .ok (.iconst 0, 1) := by decide +kernel
theorem dX12_year_275 : decode cX12_year 275 = .ok (.istore 8, 2) := by decide +kernel
theorem dX12_year_277 : decode cX12_year 277 = .ok (.iload 8, 2) := by decide +kernel
theorem dX12_year_279 : decode cX12_year 279 = .ok (.aload_n 0, 1) := by decide +kernel
theorem dX12_year_280 : decode cX12_year 280 = .ok (.getfield 74, 3) := by decide +kernel
theorem dX12_year_283 : decode cX12_year 283 = .ok (.aload_n 0, 1) := by decide +kernel
theorem dX12_year_284 : decode cX12_year 284 = .ok (.getfield 266, 3) := by decide +kernel
theorem dX12_year_287 : decode cX12_year 287 = .ok (.iaload, 1) := by decide +kernel
theorem dX12_year_288 : decode cX12_year 288 = .ok (.if_icmp .ge 43, 3) := by decide +kernel
theorem dX12_year_331 : decode cX12_year 331 = .ok (.iload_n 3, 1) := by decide +kernel
theorem dX12_year_332 : decode cX12_year 332 = .ok (.iconst 2, 1) := by decide +kernel
theorem dX12_year_333 : decode cX12_year 333 = .ok (.if_icmp .ne 8, 3) := by decide +kernel
theorem dX12_year_336 : decode cX12_year 336 = .ok (.iload 6, 2) := by decide +kernel
theorem dX12_year_338 : decode cX12_year 338 = .ok (.goto 5, 3) := by decide +kernel
theorem dX12_year_341 : decode cX12_year 341 = .ok (.iload 7, 2) := by decide +kernel
theorem dX12_year_343 : decode cX12_year 343 = .ok (.ireturn, 1) := by decide +kernel
theorem dX1_init_0 : decode cX1_init 0 = .ok (.aload_n 0, 1) := by decide +kernel
theorem dX1_init_1 : decode cX1_init 1 = .ok (.invokespecial 3, 3) := by decide +kernel
theorem dX1_init_4 : decode cX1_init 4 = .ok (.aload_n 0, 1) := by decide +kernel
theorem dX1_init_5 : decode cX1_init 5 = .ok (.bipush 10, 2) := by decide +kernel
theorem dX1_init_7 : decode cX1_init 7 = .ok (.newarray .int, 2) := by decide +kernel
theorem dX1_init_9 : decode cX1_init 9 = .ok (.putfield 9, 3) := by decide +kernel
theorem dX1_init_12 : decode cX1_init 12 = .ok (.aload_n 0, 1) := by decide +kernel
theorem dX1_init_13 : decode cX1_init 13 = .ok (.bipush 10, 2) := by decide +kernel
theorem dX1_init_15 : decode cX1_init 15 = .ok (.newarray .int, 2) := by decide +kernel
theorem dX1_init_17 : decode cX1_init 17 = .ok (.putfield 15, 3) := by decide +kernel
theorem dX1_init_20 : decode cX1_init 20 = .ok (.aload_n 0, 1) := by decide +kernel
theorem dX1_init_21 : decode cX1_init 21 = .ok (.bipush 20, 2) := by decide +kernel
theorem dX1_init_23 : decode cX1_init 23 = .ok (.newarray .int, 2) := by decide +kernel
theorem dX1_init_25 : decode cX1_init 25 = .ok (.putfield 18, 3) := by decide +kernel
theorem dX1_init_28 : decode cX1_init 28 = .ok (.aload_n 0, 1) := by decide +kernel
theorem dX1_init_29 : decode cX1_init 29 = .ok (.bipush 20, 2) := by decide +kernel
theorem dX1_init_31 : decode cX1_init 31 = .ok (.newarray .int, 2) := by decide +kernel
theorem dX1_init_33 : decode cX1_init 33 = .ok (.putfield 21, 3) := by decide +kernel
theorem dX1_init_36 : decode cX1_init 36 = .ok (.aload_n 0, 1) := by decide +kernel
theorem dX1_init_37 : decode cX1_init 37 = .ok (.bipush 20, 2) := by decide +kernel
theorem dX1_init_39 : decode cX1_init 39 = .ok (.newarray .int, 2) := by decide +kernel
theorem dX1_init_41 : decode cX1_init 41 = .ok (.putfield 24, 3) := by decide +kernel
theorem dX1_init_44 : decode cX1_init 44 = .ok (.aload_n 0, 1) := by decide +kernel
theorem dX1_init_45 : decode cX1_init 45 = .ok (.sipush 210, 3) := by decide +kernel
theorem dX1_init_48 : decode cX1_init 48 = .ok (.newarray .int, 2) := by decide +kernel
theorem dX1_init_50 : decode cX1_init 50 = .ok (.putfield 27, 3) := by decide +kernel
theorem dX1_init_53 : decode cX1_init 53 = .ok (.aload_n 0, 1) := by decide +kernel
theorem dX1_init_54 : decode cX1_init 54 = .ok (.sipush 210, 3) := by decide +kernel
theorem dX1_init_57 : decode cX1_init 57 = .ok (.newarray .int, 2) := by decide +kernel
theorem dX1_init_59 : decode cX1_init 59 = .ok (.putfield 30, 3) := by decide +kernel
theorem dX1_init_62 : decode cX1_init 62 = .ok (.aload_n 0, 1) := by decide +kernel
theorem dX1_init_63 : decode cX1_init 63 = .ok (.sipush 210, 3) := by decide +kernel
theorem dX1_init_66 : decode cX1_init 66 = .ok (.newarray .int, 2) := by decide +kernel
theorem dX1_init_68 : decode cX1_init 68 = .ok (.putfield 33, 3) := by decide +kernel
theorem dX1_init_71 : decode cX1_init 71 = .ok (.aload_n 0, 1) := by decide +kernel
theorem dX1_init_72 : decode cX1_init 72 = .ok (.sipush 210, 3) := by decide +kernel
theorem dX1_init_75 : decode cX1_init 75 = .ok (.newarray .int, 2) := by decide +kernel
theorem dX1_init_77 : decode cX1_init 77 = .ok (.putfield 36, 3) := by decide +kernel
theorem dX1_init_80 : decode cX1_init 80 = .ok (.return_, 1) := by decide +kernel
theorem dX2_init_0 : decode cX2_init 0 = .ok (.aload_n 0, 1) := by decide +kernel
theorem dX2_init_1 : decode cX2_init 1 = .ok (.invokespecial 3, 3) := by decide +kernel
theorem dX2_init_4 : decode cX2_init 4 = .ok (.aload_n 0, 1) := by decide +kernel
theorem dX2_init_5 : decode cX2_init 5 = .ok (.sipush 10240, 3) := by decide +kernel
theorem dX2_init_8 : decode cX2_init 8 = .ok (.newarray .long, 2) := by decide +kernel
theorem dX2_init_10 : decode cX2_init 10 = .ok (.putfield 11, 3) := by decide +kernel
theorem dX2_init_13 : decode cX2_init 13 = .ok (.aload_n 0, 1) := by decide +kernel
theorem dX2_init_14 : decode cX2_init 14 = .ok (.sipush 10240, 3) := by decide +kernel
theorem dX2_init_17 : decode cX2_init 17 = .ok (.newarray .int, 2) := by decide +kernel
theorem dX2_init_19 : decode cX2_init 19 = .ok (.putfield 17, 3) := by decide +kernel
theorem dX2_init_22 : decode cX2_init 22 = .ok (.aload_n 0, 1) := by decide +kernel
theorem dX2_init_23 : decode cX2_init 23 = .ok (.sipush 10240, 3) := by decide +kernel
theorem dX2_init_26 : decode cX2_init 26 = .ok (.newarray .int, 2) := by decide +kernel
theorem dX2_init_28 : decode cX2_init 28 = .ok (.putfield 21, 3) := by decide +kernel
theorem dX2_init_31 : decode cX2_init 31 = .ok (.return_, 1) := by decide +kernel
theorem dX3_init_0 : decode cX3_init 0 = .ok (.aload_n 0, 1) := by decide +kernel
theorem dX3_init_1 : decode cX3_init 1 = .ok (.invokespecial 3, 3) := by decide +kernel
theorem dX3_init_4 : decode cX3_init 4 = .ok (.aload_n 0, 1) := by decide +kernel
theorem dX3_init_5 : decode cX3_init 5 = .ok (.sipush 10240, 3) := by decide +kernel
theorem dX3_init_8 : decode cX3_init 8 = .ok (.newarray .int, 2) := by decide +kernel
theorem dX3_init_10 : decode cX3_init 10 = .ok (.putfield 9, 3) := by decide +kernel
theorem dX3_init_13 : decode cX3_init 13 = .ok (.aload_n 0, 1) := by decide +kernel
theorem dX3_init_14 : decode cX3_init 14 = .ok (.sipush 10240, 3) := by decide +kernel
theorem dX3_init_17 : decode cX3_init 17 = .ok (.newarray .int, 2) := by decide +kernel
theorem dX3_init_19 : decode cX3_init 19 = .ok (.putfield 15, 3) := by decide +kernel
theorem dX3_init_22 : decode cX3_init 22 = .ok (.aload_n 0, 1) := by decide +kernel
theorem dX3_init_23 : decode cX3_init 23 = .ok (.new 18, 3) := by decide +kernel
theorem dX3_init_26 : decode cX3_init 26 = .ok (.dup, 1) := by decide +kernel
theorem dX3_init_27 : decode cX3_init 27 = .ok (.invokespecial 20, 3) := by decide +kernel
theorem dX3_init_30 : decode cX3_init 30 = .ok (.putfield 21, 3) := by decide +kernel
theorem dX3_init_33 : decode cX3_init 33 = .ok (.return_, 1) := by decide +kernel
theorem dX4_begin_0 : decode cX4_begin 0 = .ok (.aload_n 0, 1) := by decide +kernel
theorem dX4_begin_1 : decode cX4_begin 1 = .ok (.aload_n 1, 1) := by decide +kernel
theorem dX4_begin_2 : decode cX4_begin 2 = .ok (.getfield 27, 3) := by decide +kernel
theorem dX4_begin_5 : decode cX4_begin 5 = .ok (.putfield 33, 3) := by decide +kernel
theorem dX4_begin_8 : decode cX4_begin 8 = .ok (.aload_n 1, 1) := by decide +kernel
theorem dX4_begin_9 : decode cX4_begin 9 = .ok (.getfield 34, 3) := by decide +kernel
theorem dX4_begin_12 : decode cX4_begin 12 = .ok (.iconst 0, 1) := by decide +kernel
theorem dX4_begin_13 : decode cX4_begin 13 = .ok (.aload_n 0, 1) := by decide +kernel
theorem dX4_begin_14 : decode cX4_begin 14 = .ok (.getfield 9, 3) := by decide +kernel
theorem dX4_begin_17 : decode cX4_begin 17 = .ok (.iconst 0, 1) := by decide +kernel
theorem dX4_begin_18 : decode cX4_begin 18 = .ok (.bipush 6, 2) := by decide +kernel
theorem dX4_begin_20 : decode cX4_begin 20 = .ok (.invokestatic 37, 3) := by decide +kernel
theorem dX4_begin_23 : decode cX4_begin 23 = .ok (.aload_n 1, 1) := by decide +kernel
theorem dX4_begin_24 : decode cX4_begin 24 = .ok (.getfield 43, 3) := by decide +kernel
theorem dX4_begin_27 : decode cX4_begin 27 = .ok (.iconst 0, 1) := by decide +kernel
theorem dX4_begin_28 : decode cX4_begin 28 = .ok (.aload_n 0, 1) := by decide +kernel
theorem dX4_begin_29 : decode cX4_begin 29 = .ok (.getfield 15, 3) := by decide +kernel
theorem dX4_begin_32 : decode cX4_begin 32 = .ok (.iconst 0, 1) := by decide +kernel
theorem dX4_begin_33 : decode cX4_begin 33 = .ok (.bipush 6, 2) := by decide +kernel
theorem dX4_begin_35 : decode cX4_begin 35 = .ok (.invokestatic 37, 3) := by decide +kernel
theorem dX4_begin_38 : decode cX4_begin 38 = .ok (.aload_n 1, 1) := by decide +kernel
theorem dX4_begin_39 : decode cX4_begin 39 = .ok (.getfield 44, 3) := by decide +kernel
theorem dX4_begin_42 : decode cX4_begin 42 = .ok (.iconst 0, 1) := by decide +kernel
theorem dX4_begin_43 : decode cX4_begin 43 = .ok (.aload_n 0, 1) := by decide +kernel
theorem dX4_begin_44 : decode cX4_begin 44 = .ok (.getfield 24, 3) := by decide +kernel
theorem dX4_begin_47 : decode cX4_begin 47 = .ok (.iconst 0, 1) := by decide +kernel
theorem dX4_begin_48 : decode cX4_begin 48 = .ok (.aload_n 0, 1) := by decide +kernel
theorem dX4_begin_49 : decode cX4_begin 49 = .ok (.getfield 24, 3) := by decide +kernel
theorem dX4_begin_52 : decode cX4_begin 52 = .ok (.arraylength, 1) := by decide +kernel
theorem dX4_begin_53 : decode cX4_begin 53 = .ok (.invokestatic 37, 3) := by decide +kernel
theorem dX4_begin_56 : decode cX4_begin 56 = .ok (.aload_n 0, 1) := by decide +kernel
theorem dX4_begin_57 : decode cX4_begin 57 = .ok (.getfield 18, 3) := by decide +kernel
theorem dX4_begin_60 : decode cX4_begin 60 = .ok (.iconst 0, 1) := by decide +kernel
theorem dX4_begin_61 : decode cX4_begin 61 = .ok (.invokestatic 45, 3) := by decide +kernel
theorem dX4_begin_64 : decode cX4_begin 64 = .ok (.aload_n 0, 1) := by decide +kernel
theorem dX4_begin_65 : decode cX4_begin 65 = .ok (.getfield 21, 3) := by decide +kernel
theorem dX4_begin_68 : decode cX4_begin 68 = .ok (.iconst 0, 1) := by decide +kernel
theorem dX4_begin_69 : decode cX4_begin 69 = .ok (.invokestatic 45, 3) := by decide +kernel
theorem dX4_begin_72 : decode cX4_begin 72 = .ok (.return_, 1) := by decide +kernel
theorem dX4_copyOf_0 : decode cX4_copyOf 0 = .ok (.aload_n 0, 1) := by decide +kernel
theorem dX4_copyOf_1 : decode cX4_copyOf 1 = .ok (.aload_n 1, 1) := by decide +kernel
theorem dX4_copyOf_2 : decode cX4_copyOf 2 = .ok (.getfield 33, 3) := by decide +kernel
theorem dX4_copyOf_5 : decode cX4_copyOf 5 = .ok (.putfield 33, 3) := by decide +kernel
theorem dX4_copyOf_8 : decode cX4_copyOf 8 = .ok (.aload_n 1, 1) := by decide +kernel
theorem dX4_copyOf_9 : decode cX4_copyOf 9 = .ok (.getfield 9, 3) := by decide +kernel
theorem dX4_copyOf_12 : decode cX4_copyOf 12 = .ok (.iconst 0, 1) := by decide +kernel
theorem dX4_copyOf_13 : decode cX4_copyOf 13 = .ok (.aload_n 0, 1) := by decide +kernel
theorem dX4_copyOf_14 : decode cX4_copyOf 14 = .ok (.getfield 9, 3) := by decide +kernel
theorem dX4_copyOf_17 : decode cX4_copyOf 17 = .ok (.iconst 0, 1) := by decide +kernel
theorem dX4_copyOf_18 : decode cX4_copyOf 18 = .ok (.bipush 6, 2) := by decide +kernel
theorem dX4_copyOf_20 : decode cX4_copyOf 20 = .ok (.invokestatic 37, 3) := by decide +kernel
theorem dX4_copyOf_23 : decode cX4_copyOf 23 = .ok (.aload_n 1, 1) := by decide +kernel
theorem dX4_copyOf_24 : decode cX4_copyOf 24 = .ok (.getfield 15, 3) := by decide +kernel
theorem dX4_copyOf_27 : decode cX4_copyOf 27 = .ok (.iconst 0, 1) := by decide +kernel
theorem dX4_copyOf_28 : decode cX4_copyOf 28 = .ok (.aload_n 0, 1) := by decide +kernel
theorem dX4_copyOf_29 : decode cX4_copyOf 29 = .ok (.getfield 15, 3) := by decide +kernel
theorem dX4_copyOf_32 : decode cX4_copyOf 32 = .ok (.iconst 0, 1) := by decide +kernel
theorem dX4_copyOf_33 : decode cX4_copyOf 33 = .ok (.bipush 6, 2) := by decide +kernel
theorem dX4_copyOf_35 : decode cX4_copyOf 35 = .ok (.invokestatic 37, 3) := by decide +kernel
theorem dX4_copyOf_38 : decode cX4_copyOf 38 = .ok (.aload_n 1, 1) := by decide +kernel
theorem dX4_copyOf_39 : decode cX4_copyOf 39 = .ok (.getfield 24, 3) := by decide +kernel
theorem dX4_copyOf_42 : decode cX4_copyOf 42 = .ok (.iconst 0, 1) := by decide +kernel
theorem dX4_copyOf_43 : decode cX4_copyOf 43 = .ok (.aload_n 0, 1) := by decide +kernel
theorem dX4_copyOf_44 : decode cX4_copyOf 44 = .ok (.getfield 24, 3) := by decide +kernel
theorem dX4_copyOf_47 : decode cX4_copyOf 47 = .ok (.iconst 0, 1) := by decide +kernel
theorem dX4_copyOf_48 : decode cX4_copyOf 48 = .ok (.aload_n 0, 1) := by decide +kernel
theorem dX4_copyOf_49 : decode cX4_copyOf 49 = .ok (.getfield 24, 3) := by decide +kernel
theorem dX4_copyOf_52 : decode cX4_copyOf 52 = .ok (.arraylength, 1) := by decide +kernel
theorem dX4_copyOf_53 : decode cX4_copyOf 53 = .ok (.invokestatic 37, 3) := by decide +kernel
theorem dX4_copyOf_56 : decode cX4_copyOf 56 = .ok (.aload_n 1, 1) := by decide +kernel
theorem dX4_copyOf_57 : decode cX4_copyOf 57 = .ok (.getfield 18, 3) := by decide +kernel
theorem dX4_copyOf_60 : decode cX4_copyOf 60 = .ok (.iconst 0, 1) := by decide +kernel
theorem dX4_copyOf_61 : decode cX4_copyOf 61 = .ok (.aload_n 0, 1) := by decide +kernel
theorem dX4_copyOf_62 : decode cX4_copyOf 62 = .ok (.getfield 18, 3) := by decide +kernel
theorem dX4_copyOf_65 : decode cX4_copyOf 65 = .ok (.iconst 0, 1) := by decide +kernel
theorem dX4_copyOf_66 : decode cX4_copyOf 66 = .ok (.bipush 6, 2) := by decide +kernel
theorem dX4_copyOf_68 : decode cX4_copyOf 68 = .ok (.invokestatic 37, 3) := by decide +kernel
theorem dX4_copyOf_71 : decode cX4_copyOf 71 = .ok (.aload_n 1, 1) := by decide +kernel
theorem dX4_copyOf_72 : decode cX4_copyOf 72 = .ok (.getfield 21, 3) := by decide +kernel
theorem dX4_copyOf_75 : decode cX4_copyOf 75 = .ok (.iconst 0, 1) := by decide +kernel
theorem dX4_copyOf_76 : decode cX4_copyOf 76 = .ok (.aload_n 0, 1) := by decide +kernel
theorem dX4_copyOf_77 : decode cX4_copyOf 77 = .ok (.getfield 21, 3) := by decide +kernel
theorem dX4_copyOf_80 : decode cX4_copyOf 80 = .ok (.iconst 0, 1) := by decide +kernel
theorem dX4_copyOf_81 : decode cX4_copyOf 81 = .ok (.bipush 6, 2) := by decide +kernel
theorem dX4_copyOf_83 : decode cX4_copyOf 83 = .ok (.invokestatic 37, 3) := by decide +kernel
theorem dX4_copyOf_86 : decode cX4_copyOf 86 = .ok (.return_, 1) := by decide +kernel
theorem dX4_init_0 : decode cX4_init 0 = .ok (.aload_n 0, 1) := by decide +kernel
theorem dX4_init_1 : decode cX4_init 1 = .ok (.invokespecial 3, 3) := by decide +kernel
theorem dX4_init_4 : decode cX4_init 4 = .ok (.aload_n 0, 1) := by decide +kernel
theorem dX4_init_5 : decode cX4_init 5 = .ok (.bipush 6, 2) := by decide +kernel
theorem dX4_init_7 : decode cX4_init 7 = .ok (.newarray .int, 2) := by decide +kernel
theorem dX4_init_9 : decode cX4_init 9 = .ok (.putfield 9, 3) := by decide +kernel
theorem dX4_init_12 : decode cX4_init 12 = .ok (.aload_n 0, 1) := by decide +kernel
theorem dX4_init_13 : decode cX4_init 13 = .ok (.bipush 6, 2) := by decide +kernel
theorem dX4_init_15 : decode cX4_init 15 = .ok (.newarray .int, 2) := by decide +kernel
theorem dX4_init_17 : decode cX4_init 17 = .ok (.putfield 15, 3) := by decide +kernel
theorem dX4_init_20 : decode cX4_init 20 = .ok (.aload_n 0, 1) := by decide +kernel
theorem dX4_init_21 : decode cX4_init 21 = .ok (.bipush 6, 2) := by decide +kernel
theorem dX4_init_23 : decode cX4_init 23 = .ok (.newarray .int, 2) := by decide +kernel
theorem dX4_init_25 : decode cX4_init 25 = .ok (.putfield 18, 3) := by decide +kernel
theorem dX4_init_28 : decode cX4_init 28 = .ok (.aload_n 0, 1) := by decide +kernel
theorem dX4_init_29 : decode cX4_init 29 = .ok (.bipush 6, 2) := by decide +kernel
theorem dX4_init_31 : decode cX4_init 31 = .ok (.newarray .int, 2) := by decide +kernel
theorem dX4_init_33 : decode cX4_init 33 = .ok (.putfield 21, 3) := by decide +kernel
theorem dX4_init_36 : decode cX4_init 36 = .ok (.aload_n 0, 1) := by decide +kernel
theorem dX4_init_37 : decode cX4_init 37 = .ok (.bipush 50, 2) := by decide +kernel
theorem dX4_init_39 : decode cX4_init 39 = .ok (.newarray .int, 2) := by decide +kernel
theorem dX4_init_41 : decode cX4_init 41 = .ok (.putfield 24, 3) := by decide +kernel
theorem dX4_init_44 : decode cX4_init 44 = .ok (.return_, 1) := by decide +kernel
theorem dX4_menAtHome_0 : decode cX4_menAtHome 0 = .ok (.iconst 0, 1) := by decide +kernel
theorem dX4_menAtHome_1 : decode cX4_menAtHome 1 = .ok (.istore_n 2, 1) := by decide +kernel
theorem dX4_menAtHome_2 : decode cX4_menAtHome 2 = .ok (.iconst 0, 1) := by decide +kernel
theorem dX4_menAtHome_3 : decode cX4_menAtHome 3 = .ok (.istore_n 3, 1) := by decide +kernel
theorem dX4_menAtHome_4 : decode cX4_menAtHome 4 = .ok (.iload_n 3, 1) := by decide +kernel
theorem dX4_menAtHome_5 : decode cX4_menAtHome 5 = .ok (.aload_n 0, 1) := by decide +kernel
theorem dX4_menAtHome_6 : decode cX4_menAtHome 6 = .ok (.getfield 33, 3) := by decide +kernel
theorem dX4_menAtHome_9 : decode cX4_menAtHome 9 = .ok (.if_icmp .ge 32, 3) := by decide +kernel
theorem dX4_menAtHome_41 : decode cX4_menAtHome 41 = .ok (.iload_n 2, 1) := by decide +kernel
theorem dX4_menAtHome_42 : decode cX4_menAtHome 42 = .ok (.ireturn, 1) := by decide +kernel
theorem dX4_thingsCarried_0 : decode cX4_thingsCarried 0 = .ok (.iconst 0, 1) := by decide +kernel
theorem dX4_thingsCarried_1 : decode cX4_thingsCarried 1 = .ok (.istore_n 1, 1) := by decide +kernel
theorem dX4_thingsCarried_2 : decode cX4_thingsCarried 2 = .ok (.iconst 0, 1) := by decide +kernel
theorem dX4_thingsCarried_3 : decode cX4_thingsCarried 3 = .ok (.istore_n 2, 1) := by decide +kernel
theorem dX4_thingsCarried_4 : decode cX4_thingsCarried 4 = .ok (.iload_n 2, 1) := by decide +kernel
theorem dX4_thingsCarried_5 : decode cX4_thingsCarried 5 = .ok (.aload_n 0, 1) := by decide +kernel
theorem dX4_thingsCarried_6 : decode cX4_thingsCarried 6 = .ok (.getfield 33, 3) := by decide +kernel
theorem dX4_thingsCarried_9 : decode cX4_thingsCarried 9 = .ok (.if_icmp .ge 21, 3) := by decide +kernel
theorem dX4_thingsCarried_30 : decode cX4_thingsCarried 30 = .ok (.iload_n 1, 1) := by decide +kernel
theorem dX4_thingsCarried_31 : decode cX4_thingsCarried 31 = .ok (.ireturn, 1) := by decide +kernel
theorem dX4_thingsOnTables_0 : decode cX4_thingsOnTables 0 = .ok (.iconst 0, 1) := by decide +kernel
theorem dX4_thingsOnTables_1 : decode cX4_thingsOnTables 1 = .ok (.istore_n 1, 1) := by decide +kernel
theorem dX4_thingsOnTables_2 : decode cX4_thingsOnTables 2 = .ok (.iconst 0, 1) := by decide +kernel
theorem dX4_thingsOnTables_3 : decode cX4_thingsOnTables 3 = .ok (.istore_n 2, 1) := by decide +kernel
theorem dX4_thingsOnTables_4 : decode cX4_thingsOnTables 4 = .ok (.iload_n 2, 1) := by decide +kernel
theorem dX4_thingsOnTables_5 : decode cX4_thingsOnTables 5 = .ok (.aload_n 0, 1) := by decide +kernel
theorem dX4_thingsOnTables_6 : decode cX4_thingsOnTables 6 = .ok (.getfield 24, 3) := by decide +kernel
theorem dX4_thingsOnTables_9 : decode cX4_thingsOnTables 9 = .ok (.arraylength, 1) := by decide +kernel
theorem dX4_thingsOnTables_10 : decode cX4_thingsOnTables 10 = .ok (.if_icmp .ge 18, 3) := by decide +kernel
theorem dX4_thingsOnTables_13 : decode cX4_thingsOnTables 13 = .ok (.iload_n 1, 1) := by decide +kernel
theorem dX4_thingsOnTables_14 : decode cX4_thingsOnTables 14 = .ok (.aload_n 0, 1) := by decide +kernel
theorem dX4_thingsOnTables_15 : decode cX4_thingsOnTables 15 = .ok (.getfield 24, 3) := by decide +kernel
theorem dX4_thingsOnTables_18 : decode cX4_thingsOnTables 18 = .ok (.iload_n 2, 1) := by decide +kernel
theorem dX4_thingsOnTables_19 : decode cX4_thingsOnTables 19 = .ok (.iaload, 1) := by decide +kernel
theorem dX4_thingsOnTables_20 : decode cX4_thingsOnTables 20 = .ok (.iadd, 1) := by decide +kernel
theorem dX4_thingsOnTables_21 : decode cX4_thingsOnTables 21 = .ok (.istore_n 1, 1) := by decide +kernel
theorem dX4_thingsOnTables_22 : decode cX4_thingsOnTables 22 = .ok (.iinc 2 1, 3) := by decide +kernel
theorem dX4_thingsOnTables_25 : decode cX4_thingsOnTables 25 = .ok (.goto (-21), 3) := by decide +kernel
theorem dX4_thingsOnTables_28 : decode cX4_thingsOnTables 28 = .ok (.iload_n 1, 1) := by decide +kernel
theorem dX4_thingsOnTables_29 : decode cX4_thingsOnTables 29 = .ok (.ireturn, 1) := by decide +kernel
theorem dX5_exchange_0 : decode cX5_exchange 0 = .ok (.aload_n 0, 1) := by decide +kernel
theorem dX5_exchange_1 : decode cX5_exchange 1 = .ok (.getfield 21, 3) := by decide +kernel
theorem dX5_exchange_4 : decode cX5_exchange 4 = .ok (.astore_n 2, 1) := by decide +kernel
theorem dX5_exchange_5 : decode cX5_exchange 5 = .ok (.aload_n 0, 1) := by decide +kernel
theorem dX5_exchange_6 : decode cX5_exchange 6 = .ok (.aload_n 1, 1) := by decide +kernel
theorem dX5_exchange_7 : decode cX5_exchange 7 = .ok (.putfield 21, 3) := by decide +kernel
theorem dX5_exchange_10 : decode cX5_exchange 10 = .ok (.aload_n 2, 1) := by decide +kernel
theorem dX5_exchange_11 : decode cX5_exchange 11 = .ok (.areturn, 1) := by decide +kernel
theorem dX5_init_0 : decode cX5_init 0 = .ok (.aload_n 0, 1) := by decide +kernel
theorem dX5_init_1 : decode cX5_init 1 = .ok (.invokespecial 3, 3) := by decide +kernel
theorem dX5_init_4 : decode cX5_init 4 = .ok (.aload_n 0, 1) := by decide +kernel
theorem dX5_init_5 : decode cX5_init 5 = .ok (.new 9, 3) := by decide +kernel
theorem dX5_init_8 : decode cX5_init 8 = .ok (.dup, 1) := by decide +kernel
theorem dX5_init_9 : decode cX5_init 9 = .ok (.invokespecial 11, 3) := by decide +kernel
theorem dX5_init_12 : decode cX5_init 12 = .ok (.putfield 12, 3) := by decide +kernel
theorem dX5_init_15 : decode cX5_init 15 = .ok (.aload_n 0, 1) := by decide +kernel
theorem dX5_init_16 : decode cX5_init 16 = .ok (.new 18, 3) := by decide +kernel
theorem dX5_init_19 : decode cX5_init 19 = .ok (.dup, 1) := by decide +kernel
theorem dX5_init_20 : decode cX5_init 20 = .ok (.invokespecial 20, 3) := by decide +kernel
theorem dX5_init_23 : decode cX5_init 23 = .ok (.putfield 21, 3) := by decide +kernel
theorem dX5_init_26 : decode cX5_init 26 = .ok (.return_, 1) := by decide +kernel
theorem dX5_tellAll_0 : decode cX5_tellAll 0 = .ok (.aload_n 0, 1) := by decide +kernel
theorem dX5_tellAll_1 : decode cX5_tellAll 1 = .ok (.getfield 21, 3) := by decide +kernel
theorem dX5_tellAll_4 : decode cX5_tellAll 4 = .ok (.invokevirtual 25, 3) := by decide +kernel
theorem dX5_tellAll_7 : decode cX5_tellAll 7 = .ok (.aload_n 0, 1) := by decide +kernel
theorem dX5_tellAll_8 : decode cX5_tellAll 8 = .ok (.iconst 0, 1) := by decide +kernel
theorem dX5_tellAll_9 : decode cX5_tellAll 9 = .ok (.putfield 28, 3) := by decide +kernel
theorem dX5_tellAll_12 : decode cX5_tellAll 12 = .ok (.iconst 0, 1) := by decide +kernel
theorem dX5_tellAll_13 : decode cX5_tellAll 13 = .ok (.istore_n 1, 1) := by decide +kernel
theorem dX5_tellAll_14 : decode cX5_tellAll 14 = .ok (.iload_n 1, 1) := by decide +kernel
theorem dX5_tellAll_15 : decode cX5_tellAll 15 = .ok (.sipush 400, 3) := by decide +kernel
theorem dX5_tellAll_18 : decode cX5_tellAll 18 = .ok (.if_icmp .ge 70, 3) := by decide +kernel
theorem dX5_tellAll_21 : decode cX5_tellAll 21 = .ok (.aload_n 0, 1) := by decide +kernel
theorem dX5_tellAll_22 : decode cX5_tellAll 22 = .ok (.getfield 28, 3) := by decide +kernel
theorem dX5_tellAll_25 : decode cX5_tellAll 25 = .ok (.aload_n 0, 1) := by decide +kernel
theorem dX5_tellAll_26 : decode cX5_tellAll 26 = .ok (.getfield 12, 3) := by decide +kernel
theorem dX5_tellAll_29 : decode cX5_tellAll 29 = .ok (.getfield 32, 3) := by decide +kernel
theorem dX5_tellAll_32 : decode cX5_tellAll 32 = .ok (.if_icmp .ge 56, 3) := by decide +kernel
theorem dX5_tellAll_88 : decode cX5_tellAll 88 = .ok (.return_, 1) := by decide +kernel
theorem dX6_append_0 : decode cX6_append 0 = .ok (.bipush 24, 2) := by decide +kernel
theorem dX6_append_2 : decode cX6_append 2 = .ok (.istore_n 2, 1) := by decide +kernel
theorem dX6_append_3 : decode cX6_append 3 = .ok (.iload_n 2, 1) := by decide +kernel
theorem dX6_append_4 : decode cX6_append 4 = .ok (.ifCond .lt 42, 3) := by decide +kernel
theorem dX6_append_7 : decode cX6_append 7 = .ok (.aload_n 0, 1) := by decide +kernel
theorem dX6_append_8 : decode cX6_append 8 = .ok (.getfield 64, 3) := by decide +kernel
theorem dX6_append_11 : decode cX6_append 11 = .ok (.sipush 2000, 3) := by decide +kernel
theorem dX6_append_14 : decode cX6_append 14 = .ok (.if_icmp .ge 32, 3) := by decide +kernel
theorem dX6_append_17 : decode cX6_append 17 = .ok (.aload_n 0, 1) := by decide +kernel
theorem dX6_append_18 : decode cX6_append 18 = .ok (.getfield 15, 3) := by decide +kernel
theorem dX6_append_21 : decode cX6_append 21 = .ok (.aload_n 0, 1) := by decide +kernel
theorem dX6_append_22 : decode cX6_append 22 = .ok (.getfield 64, 3) := by decide +kernel
theorem dX6_append_25 : decode cX6_append 25 = .ok (.iload_n 1, 1) := by decide +kernel
theorem dX6_append_26 : decode cX6_append 26 = .ok (.iload_n 2, 1) := by decide +kernel
theorem dX6_append_27 : decode cX6_append 27 = .ok (.ishr, 1) := by decide +kernel
theorem dX6_append_28 : decode cX6_append 28 = .ok (.i2b, 1) := by decide +kernel
theorem dX6_append_29 : decode cX6_append 29 = .ok (.bastore, 1) := by decide +kernel
theorem dX6_append_30 : decode cX6_append 30 = .ok (.aload_n 0, 1) := by decide +kernel
theorem dX6_append_31 : decode cX6_append 31 = .ok (.dup, 1) := by decide +kernel
theorem dX6_append_32 : decode cX6_append 32 = .ok (.getfield 64, 3) := by decide +kernel
theorem dX6_append_35 : decode cX6_append 35 = .ok (.iconst 1, 1) := by decide +kernel
theorem dX6_append_36 : decode cX6_append 36 = .ok (.iadd, 1) := by decide +kernel
theorem dX6_append_37 : decode cX6_append 37 = .ok (.putfield 64, 3) := by decide +kernel
theorem dX6_append_40 : decode cX6_append 40 = .ok (.iinc 2 (-8), 3) := by decide +kernel
theorem dX6_append_43 : decode cX6_append 43 = .ok (.goto (-40), 3) := by decide +kernel
theorem dX6_append_46 : decode cX6_append 46 = .ok (.return_, 1) := by decide +kernel
theorem dX6_check_0 : decode cX6_check 0 = .ok (.aload_n 0, 1) := by decide +kernel
theorem dX6_check_1 : decode cX6_check 1 = .ok (.iconst 0, 1) := by decide +kernel
theorem dX6_check_2 : decode cX6_check 2 = .ok (.iconst (-1), 1) := by decide +kernel
theorem dX6_check_3 : decode cX6_check 3 = .ok (.invokevirtual 73, 3) := by decide +kernel
theorem dX6_check_6 : decode cX6_check 6 = .ok (.aload_n 0, 1) := by decide +kernel
theorem dX6_check_7 : decode cX6_check 7 = .ok (.iconst 0, 1) := by decide +kernel
theorem dX6_check_8 : decode cX6_check 8 = .ok (.putfield 67, 3) := by decide +kernel
theorem dX6_check_11 : decode cX6_check 11 = .ok (.aload_n 0, 1) := by decide +kernel
theorem dX6_check_12 : decode cX6_check 12 = .ok (.getfield 30, 3) := by decide +kernel
theorem dX6_check_15 : decode cX6_check 15 = .ok (.iconst 0, 1) := by decide +kernel
theorem dX6_check_16 : decode cX6_check 16 = .ok (.invokestatic 77, 3) := by decide +kernel
theorem dX6_check_19 : decode cX6_check 19 = .ok (.iconst (-1), 1) := by decide +kernel
theorem dX6_check_20 : decode cX6_check 20 = .ok (.istore_n 1, 1) := by decide +kernel
theorem dX6_check_21 : decode cX6_check 21 = .ok (.iconst 0, 1) := by decide +kernel
theorem dX6_check_22 : decode cX6_check 22 = .ok (.istore_n 2, 1) := by decide +kernel
theorem dX6_check_23 : decode cX6_check 23 = .ok (.aload_n 0, 1) := by decide +kernel
theorem dX6_check_24 : decode cX6_check 24 = .ok (.iconst 0, 1) := by decide +kernel
theorem dX6_check_25 : decode cX6_check 25 = .ok (.invokevirtual 83, 3) := by decide +kernel
theorem dX6_check_28 : decode cX6_check 28 = .ok (.istore_n 3, 1) := by decide +kernel
theorem dX6_check_29 : decode cX6_check 29 = .ok (.iconst 0, 1) := by decide +kernel
theorem dX6_check_30 : decode cX6_check 30 = .ok (.istore 4, 2) := by decide +kernel
theorem dX6_check_32 : decode cX6_check 32 = .ok (.iload 4, 2) := by decide +kernel
theorem dX6_check_34 : decode cX6_check 34 = .ok (.sipush 2000, 3) := by decide +kernel
theorem dX6_check_37 : decode cX6_check 37 = .ok (.if_icmp .gt 138, 3) := by decide +kernel
theorem dX6_check_40 : decode cX6_check 40 = .ok (.iload_n 3, 1) := by decide +kernel
theorem dX6_check_41 : decode cX6_check 41 = .ok (.aload_n 0, 1) := by decide +kernel
theorem dX6_check_42 : decode cX6_check 42 = .ok (.getfield 64, 3) := by decide +kernel
theorem dX6_check_45 : decode cX6_check 45 = .ok (.if_icmp .ge 130, 3) := by decide +kernel
theorem dX6_check_175 : decode cX6_check 175 = .ok (.iload_n 1, 1) := by decide +kernel
theorem dX6_check_176 : decode cX6_check 176 = .ok (.iconst (-1), 1) := by decide +kernel
theorem dX6_check_177 : decode cX6_check 177 = .ok (.if_icmp .eq 12, 3) := by decide +kernel
theorem dX6_check_189 : decode cX6_check 189 = .ok (.return_, 1) := by decide +kernel
theorem dX6_code_0 : decode cX6_code 0 = .ok (.lconst 0, 1) := by decide +kernel
theorem dX6_code_1 : decode cX6_code 1 = .ok (.lstore_n 1, 1) := by decide +kernel
theorem dX6_code_2 : decode cX6_code 2 = .ok (.iconst 0, 1) := by decide +kernel
theorem dX6_code_3 : decode cX6_code 3 = .ok (.istore_n 3, 1) := by decide +kernel
theorem dX6_code_4 : decode cX6_code 4 = .ok (.iload_n 3, 1) := by decide +kernel
theorem dX6_code_5 : decode cX6_code 5 = .ok (.aload_n 0, 1) := by decide +kernel
theorem dX6_code_6 : decode cX6_code 6 = .ok (.invokevirtual 114, 3) := by decide +kernel
theorem dX6_code_9 : decode cX6_code 9 = .ok (.if_icmp .ge 19, 3) := by decide +kernel
theorem dX6_code_12 : decode cX6_code 12 = .ok (.lload_n 1, 1) := by decide +kernel
theorem dX6_code_13 : decode cX6_code 13 = .ok (.aload_n 0, 1) := by decide +kernel
theorem dX6_code_14 : decode cX6_code 14 = .ok (.iload_n 3, 1) := by decide +kernel
theorem dX6_code_15 : decode cX6_code 15 = .ok (.invokevirtual 119, 3) := by decide +kernel
theorem dX6_code_18 : decode cX6_code 18 = .ok (.invokestatic 153, 3) := by decide +kernel
theorem dX6_code_21 : decode cX6_code 21 = .ok (.lstore_n 1, 1) := by decide +kernel
theorem dX6_code_22 : decode cX6_code 22 = .ok (.iinc 3 1, 3) := by decide +kernel
theorem dX6_code_25 : decode cX6_code 25 = .ok (.goto (-21), 3) := by decide +kernel
theorem dX6_code_28 : decode cX6_code 28 = .ok (.lload_n 1, 1) := by decide +kernel
theorem dX6_code_29 : decode cX6_code 29 = .ok (.lreturn, 1) := by decide +kernel
theorem dX6_codeWith_0 : decode cX6_codeWith 0 = .ok (.lload_n 0, 1) := by decide +kernel
theorem dX6_codeWith_1 : decode cX6_codeWith 1 = .ok (.ldc2_w 159, 3) := by decide +kernel
theorem dX6_codeWith_4 : decode cX6_codeWith 4 = .ok (.lmul, 1) := by decide +kernel
theorem dX6_codeWith_5 : decode cX6_codeWith 5 = .ok (.iload_n 2, 1) := by decide +kernel
theorem dX6_codeWith_6 : decode cX6_codeWith 6 = .ok (.bipush 97, 2) := by decide +kernel
theorem dX6_codeWith_8 : decode cX6_codeWith 8 = .ok (.isub, 1) := by decide +kernel
theorem dX6_codeWith_9 : decode cX6_codeWith 9 = .ok (.iconst 1, 1) := by decide +kernel
theorem dX6_codeWith_10 : decode cX6_codeWith 10 = .ok (.iadd, 1) := by decide +kernel
theorem dX6_codeWith_11 : decode cX6_codeWith 11 = .ok (.i2l, 1) := by decide +kernel
theorem dX6_codeWith_12 : decode cX6_codeWith 12 = .ok (.ladd, 1) := by decide +kernel
theorem dX6_codeWith_13 : decode cX6_codeWith 13 = .ok (.lreturn, 1) := by decide +kernel
theorem dX6_hasRoomFor_0 : decode cX6_hasRoomFor 0 = .ok (.aload_n 0, 1) := by decide +kernel
theorem dX6_hasRoomFor_1 : decode cX6_hasRoomFor 1 = .ok (.getfield 64, 3) := by decide +kernel
theorem dX6_hasRoomFor_4 : decode cX6_hasRoomFor 4 = .ok (.iload_n 1, 1) := by decide +kernel
theorem dX6_hasRoomFor_5 : decode cX6_hasRoomFor 5 = .ok (.iadd, 1) := by decide +kernel
theorem dX6_hasRoomFor_6 : decode cX6_hasRoomFor 6 = .ok (.sipush 2000, 3) := by decide +kernel
theorem dX6_hasRoomFor_9 : decode cX6_hasRoomFor 9 = .ok (.if_icmp .gt 7, 3) := by decide +kernel
theorem dX6_hasRoomFor_12 : decode cX6_hasRoomFor 12 = .ok (.iconst 1, 1) := by decide +kernel
theorem dX6_hasRoomFor_13 : decode cX6_hasRoomFor 13 = .ok (.goto 4, 3) := by decide +kernel
theorem dX6_hasRoomFor_17 : decode cX6_hasRoomFor 17 = .ok (.ireturn, 1) := by decide +kernel
theorem dX6_init_0 : decode cX6_init 0 = .ok (.aload_n 0, 1) := by decide +kernel
theorem dX6_init_1 : decode cX6_init 1 = .ok (.invokespecial 3, 3) := by decide +kernel
theorem dX6_init_4 : decode cX6_init 4 = .ok (.aload_n 0, 1) := by decide +kernel
theorem dX6_init_5 : decode cX6_init 5 = .ok (.iconst (-1), 1) := by decide +kernel
theorem dX6_init_6 : decode cX6_init 6 = .ok (.putfield 9, 3) := by decide +kernel
theorem dX6_init_9 : decode cX6_init 9 = .ok (.aload_n 0, 1) := by decide +kernel
theorem dX6_init_10 : decode cX6_init 10 = .ok (.sipush 2000, 3) := by decide +kernel
theorem dX6_init_13 : decode cX6_init 13 = .ok (.newarray .byte, 2) := by decide +kernel
theorem dX6_init_15 : decode cX6_init 15 = .ok (.putfield 15, 3) := by decide +kernel
theorem dX6_init_18 : decode cX6_init 18 = .ok (.aload_n 0, 1) := by decide +kernel
theorem dX6_init_19 : decode cX6_init 19 = .ok (.sipush 400, 3) := by decide +kernel
theorem dX6_init_22 : decode cX6_init 22 = .ok (.newarray .int, 2) := by decide +kernel
theorem dX6_init_24 : decode cX6_init 24 = .ok (.putfield 19, 3) := by decide +kernel
theorem dX6_init_27 : decode cX6_init 27 = .ok (.aload_n 0, 1) := by decide +kernel
theorem dX6_init_28 : decode cX6_init 28 = .ok (.sipush 400, 3) := by decide +kernel
theorem dX6_init_31 : decode cX6_init 31 = .ok (.newarray .long, 2) := by decide +kernel
theorem dX6_init_33 : decode cX6_init 33 = .ok (.putfield 23, 3) := by decide +kernel
theorem dX6_init_36 : decode cX6_init 36 = .ok (.aload_n 0, 1) := by decide +kernel
theorem dX6_init_37 : decode cX6_init 37 = .ok (.sipush 400, 3) := by decide +kernel
theorem dX6_init_40 : decode cX6_init 40 = .ok (.newarray .int, 2) := by decide +kernel
theorem dX6_init_42 : decode cX6_init 42 = .ok (.putfield 27, 3) := by decide +kernel
theorem dX6_init_45 : decode cX6_init 45 = .ok (.aload_n 0, 1) := by decide +kernel
theorem dX6_init_46 : decode cX6_init 46 = .ok (.bipush 9, 2) := by decide +kernel
theorem dX6_init_48 : decode cX6_init 48 = .ok (.newarray .int, 2) := by decide +kernel
theorem dX6_init_50 : decode cX6_init 50 = .ok (.putfield 30, 3) := by decide +kernel
theorem dX6_init_53 : decode cX6_init 53 = .ok (.aload_n 0, 1) := by decide +kernel
theorem dX6_init_54 : decode cX6_init 54 = .ok (.bipush 12, 2) := by decide +kernel
theorem dX6_init_56 : decode cX6_init 56 = .ok (.newarray .long, 2) := by decide +kernel
theorem dX6_init_58 : decode cX6_init 58 = .ok (.dup, 1) := by decide +kernel
theorem dX6_init_59 : decode cX6_init 59 = .ok (.iconst 0, 1) := by decide +kernel
theorem dX6_init_60 : decode cX6_init 60 = .ok (.ldc 33, 2) := by decide +kernel
theorem dX6_init_62 : decode cX6_init 62 = .ok (.invokestatic 35, 3) := by decide +kernel
theorem dX6_init_65 : decode cX6_init 65 = .ok (.lastore, 1) := by decide +kernel
theorem dX6_init_66 : decode cX6_init 66 = .ok (.dup, 1) := by decide +kernel
theorem dX6_init_67 : decode cX6_init 67 = .ok (.iconst 1, 1) := by decide +kernel
theorem dX6_init_68 : decode cX6_init 68 = .ok (.ldc 39, 2) := by decide +kernel
theorem dX6_init_70 : decode cX6_init 70 = .ok (.invokestatic 35, 3) := by decide +kernel
theorem dX6_init_73 : decode cX6_init 73 = .ok (.lastore, 1) := by decide +kernel
theorem dX6_init_74 : decode cX6_init 74 = .ok (.dup, 1) := by decide +kernel
theorem dX6_init_75 : decode cX6_init 75 = .ok (.iconst 2, 1) := by decide +kernel
theorem dX6_init_76 : decode cX6_init 76 = .ok (.ldc 41, 2) := by decide +kernel
theorem dX6_init_78 : decode cX6_init 78 = .ok (.invokestatic 35, 3) := by decide +kernel
theorem dX6_init_81 : decode cX6_init 81 = .ok (.lastore, 1) := by decide +kernel
theorem dX6_init_82 : decode cX6_init 82 = .ok (.dup, 1) := by decide +kernel
theorem dX6_init_83 : decode cX6_init 83 = .ok (.iconst 3, 1) := by decide +kernel
theorem dX6_init_84 : decode cX6_init 84 = .ok (.ldc 43, 2) := by decide +kernel
theorem dX6_init_86 : decode cX6_init 86 = .ok (.invokestatic 35, 3) := by decide +kernel
theorem dX6_init_89 : decode cX6_init 89 = .ok (.lastore, 1) := by decide +kernel
theorem dX6_init_90 : decode cX6_init 90 = .ok (.dup, 1) := by decide +kernel
theorem dX6_init_91 : decode cX6_init 91 = .ok (.iconst 4, 1) := by decide +kernel
theorem dX6_init_92 : decode cX6_init 92 = .ok (.ldc 45, 2) := by decide +kernel
theorem dX6_init_94 : decode cX6_init 94 = .ok (.invokestatic 35, 3) := by decide +kernel
theorem dX6_init_97 : decode cX6_init 97 = .ok (.lastore, 1) := by decide +kernel
theorem dX6_init_98 : decode cX6_init 98 = .ok (.dup, 1) := by decide +kernel
theorem dX6_init_99 : decode cX6_init 99 = .ok (.iconst 5, 1) := by decide +kernel
theorem dX6_init_100 : decode cX6_init 100 = .ok (.ldc 47, 2) := by decide +kernel
theorem dX6_init_102 : decode cX6_init 102 = .ok (.invokestatic 35, 3) := by decide +kernel
theorem dX6_init_105 : decode cX6_init 105 = .ok (.lastore, 1) := by decide +kernel
theorem dX6_init_106 : decode cX6_init 106 = .ok (.dup, 1) := by decide +kernel
theorem dX6_init_107 : decode cX6_init 107 = .ok (.bipush 6, 2) := by decide +kernel
theorem dX6_init_109 : decode cX6_init 109 = .ok (.ldc 49, 2) := by decide +kernel
theorem dX6_init_111 : decode cX6_init 111 = .ok (.invokestatic 35, 3) := by decide +kernel
theorem dX6_init_114 : decode cX6_init 114 = .ok (.lastore, 1) := by decide +kernel
theorem dX6_init_115 : decode cX6_init 115 = .ok (.dup, 1) := by decide +kernel
theorem dX6_init_116 : decode cX6_init 116 = .ok (.bipush 7, 2) := by decide +kernel
theorem dX6_init_118 : decode cX6_init 118 = .ok (.ldc 51, 2) := by decide +kernel
theorem dX6_init_120 : decode cX6_init 120 = .ok (.invokestatic 35, 3) := by decide +kernel
theorem dX6_init_123 : decode cX6_init 123 = .ok (.lastore, 1) := by decide +kernel
theorem dX6_init_124 : decode cX6_init 124 = .ok (.dup, 1) := by decide +kernel
theorem dX6_init_125 : decode cX6_init 125 = .ok (.bipush 8, 2) := by decide +kernel
theorem dX6_init_127 : decode cX6_init 127 = .ok (.ldc 53, 2) := by decide +kernel
theorem dX6_init_129 : decode cX6_init 129 = .ok (.invokestatic 35, 3) := by decide +kernel
theorem dX6_init_132 : decode cX6_init 132 = .ok (.lastore, 1) := by decide +kernel
theorem dX6_init_133 : decode cX6_init 133 = .ok (.dup, 1) := by decide +kernel
theorem dX6_init_134 : decode cX6_init 134 = .ok (.bipush 9, 2) := by decide +kernel
theorem dX6_init_136 : decode cX6_init 136 = .ok (.ldc 55, 2) := by decide +kernel
theorem dX6_init_138 : decode cX6_init 138 = .ok (.invokestatic 35, 3) := by decide +kernel
theorem dX6_init_141 : decode cX6_init 141 = .ok (.lastore, 1) := by decide +kernel
theorem dX6_init_142 : decode cX6_init 142 = .ok (.dup, 1) := by decide +kernel
theorem dX6_init_143 : decode cX6_init 143 = .ok (.bipush 10, 2) := by decide +kernel
theorem dX6_init_145 : decode cX6_init 145 = .ok (.ldc 57, 2) := by decide +kernel
theorem dX6_init_147 : decode cX6_init 147 = .ok (.invokestatic 35, 3) := by decide +kernel
theorem dX6_init_150 : decode cX6_init 150 = .ok (.lastore, 1) := by decide +kernel
theorem dX6_init_151 : decode cX6_init 151 = .ok (.dup, 1) := by decide +kernel
theorem dX6_init_152 : decode cX6_init 152 = .ok (.bipush 11, 2) := by decide +kernel
theorem dX6_init_154 : decode cX6_init 154 = .ok (.ldc 59, 2) := by decide +kernel
theorem dX6_init_156 : decode cX6_init 156 = .ok (.invokestatic 35, 3) := by decide +kernel
theorem dX6_init_159 : decode cX6_init 159 = .ok (.lastore, 1) := by decide +kernel
theorem dX6_init_160 : decode cX6_init 160 = .ok (.putfield 61, 3) := by decide +kernel
theorem dX6_init_163 : decode cX6_init 163 = .ok (.return_, 1) := by decide +kernel
theorem dX6_note_0 : decode cX6_note 0 = .ok (.aload_n 0, 1) := by decide +kernel
theorem dX6_note_1 : decode cX6_note 1 = .ok (.iload_n 1, 1) := by decide +kernel
theorem dX6_note_2 : decode cX6_note 2 = .ok (.putfield 70, 3) := by decide +kernel
theorem dX6_note_5 : decode cX6_note 5 = .ok (.aload_n 0, 1) := by decide +kernel
theorem dX6_note_6 : decode cX6_note 6 = .ok (.iload_n 2, 1) := by decide +kernel
theorem dX6_note_7 : decode cX6_note 7 = .ok (.putfield 9, 3) := by decide +kernel
theorem dX6_note_10 : decode cX6_note 10 = .ok (.return_, 1) := by decide +kernel
theorem dX6_pastBlanks_0 : decode cX6_pastBlanks 0 = .ok (.iload_n 1, 1) := by decide +kernel
theorem dX6_pastBlanks_1 : decode cX6_pastBlanks 1 = .ok (.istore_n 2, 1) := by decide +kernel
theorem dX6_pastBlanks_2 : decode cX6_pastBlanks 2 = .ok (.iload_n 2, 1) := by decide +kernel
theorem dX6_pastBlanks_3 : decode cX6_pastBlanks 3 = .ok (.aload_n 0, 1) := by decide +kernel
theorem dX6_pastBlanks_4 : decode cX6_pastBlanks 4 = .ok (.getfield 64, 3) := by decide +kernel
theorem dX6_pastBlanks_7 : decode cX6_pastBlanks 7 = .ok (.if_icmp .ge 41, 3) := by decide +kernel
theorem dX6_pastBlanks_48 : decode cX6_pastBlanks 48 = .ok (.aload_n 0, 1) := by decide +kernel
theorem dX6_pastBlanks_49 : decode cX6_pastBlanks 49 = .ok (.getfield 64, 3) := by decide +kernel
theorem dX6_pastBlanks_52 : decode cX6_pastBlanks 52 = .ok (.ireturn, 1) := by decide +kernel
theorem dX7_clear_0 : decode cX7_clear 0 = .ok (.aload_n 0, 1) := by decide +kernel
theorem dX7_clear_1 : decode cX7_clear 1 = .ok (.iconst 0, 1) := by decide +kernel
theorem dX7_clear_2 : decode cX7_clear 2 = .ok (.putfield 49, 3) := by decide +kernel
theorem dX7_clear_5 : decode cX7_clear 5 = .ok (.aload_n 0, 1) := by decide +kernel
theorem dX7_clear_6 : decode cX7_clear 6 = .ok (.iconst 0, 1) := by decide +kernel
theorem dX7_clear_7 : decode cX7_clear 7 = .ok (.putfield 53, 3) := by decide +kernel
theorem dX7_clear_10 : decode cX7_clear 10 = .ok (.aload_n 0, 1) := by decide +kernel
theorem dX7_clear_11 : decode cX7_clear 11 = .ok (.iconst 0, 1) := by decide +kernel
theorem dX7_clear_12 : decode cX7_clear 12 = .ok (.putfield 56, 3) := by decide +kernel
theorem dX7_clear_15 : decode cX7_clear 15 = .ok (.aload_n 0, 1) := by decide +kernel
theorem dX7_clear_16 : decode cX7_clear 16 = .ok (.iconst 0, 1) := by decide +kernel
theorem dX7_clear_17 : decode cX7_clear 17 = .ok (.putfield 59, 3) := by decide +kernel
theorem dX7_clear_20 : decode cX7_clear 20 = .ok (.aload_n 0, 1) := by decide +kernel
theorem dX7_clear_21 : decode cX7_clear 21 = .ok (.iconst 0, 1) := by decide +kernel
theorem dX7_clear_22 : decode cX7_clear 22 = .ok (.putfield 62, 3) := by decide +kernel
theorem dX7_clear_25 : decode cX7_clear 25 = .ok (.aload_n 0, 1) := by decide +kernel
theorem dX7_clear_26 : decode cX7_clear 26 = .ok (.iconst 0, 1) := by decide +kernel
theorem dX7_clear_27 : decode cX7_clear 27 = .ok (.putfield 65, 3) := by decide +kernel
theorem dX7_clear_30 : decode cX7_clear 30 = .ok (.aload_n 0, 1) := by decide +kernel
theorem dX7_clear_31 : decode cX7_clear 31 = .ok (.getfield 28, 3) := by decide +kernel
theorem dX7_clear_34 : decode cX7_clear 34 = .ok (.iconst 0, 1) := by decide +kernel
theorem dX7_clear_35 : decode cX7_clear 35 = .ok (.invokestatic 68, 3) := by decide +kernel
theorem dX7_clear_38 : decode cX7_clear 38 = .ok (.aload_n 0, 1) := by decide +kernel
theorem dX7_clear_39 : decode cX7_clear 39 = .ok (.getfield 31, 3) := by decide +kernel
theorem dX7_clear_42 : decode cX7_clear 42 = .ok (.iconst 0, 1) := by decide +kernel
theorem dX7_clear_43 : decode cX7_clear 43 = .ok (.invokestatic 68, 3) := by decide +kernel
theorem dX7_clear_46 : decode cX7_clear 46 = .ok (.aload_n 0, 1) := by decide +kernel
theorem dX7_clear_47 : decode cX7_clear 47 = .ok (.getfield 34, 3) := by decide +kernel
theorem dX7_clear_50 : decode cX7_clear 50 = .ok (.iconst 0, 1) := by decide +kernel
theorem dX7_clear_51 : decode cX7_clear 51 = .ok (.invokestatic 68, 3) := by decide +kernel
theorem dX7_clear_54 : decode cX7_clear 54 = .ok (.return_, 1) := by decide +kernel
theorem dX7_init_0 : decode cX7_init 0 = .ok (.aload_n 0, 1) := by decide +kernel
theorem dX7_init_1 : decode cX7_init 1 = .ok (.invokespecial 3, 3) := by decide +kernel
theorem dX7_init_4 : decode cX7_init 4 = .ok (.aload_n 0, 1) := by decide +kernel
theorem dX7_init_5 : decode cX7_init 5 = .ok (.iconst 5, 1) := by decide +kernel
theorem dX7_init_6 : decode cX7_init 6 = .ok (.newarray .long, 2) := by decide +kernel
theorem dX7_init_8 : decode cX7_init 8 = .ok (.putfield 9, 3) := by decide +kernel
theorem dX7_init_11 : decode cX7_init 11 = .ok (.aload_n 0, 1) := by decide +kernel
theorem dX7_init_12 : decode cX7_init 12 = .ok (.bipush 10, 2) := by decide +kernel
theorem dX7_init_14 : decode cX7_init 14 = .ok (.newarray .long, 2) := by decide +kernel
theorem dX7_init_16 : decode cX7_init 16 = .ok (.putfield 15, 3) := by decide +kernel
theorem dX7_init_19 : decode cX7_init 19 = .ok (.aload_n 0, 1) := by decide +kernel
theorem dX7_init_20 : decode cX7_init 20 = .ok (.bipush 6, 2) := by decide +kernel
theorem dX7_init_22 : decode cX7_init 22 = .ok (.newarray .long, 2) := by decide +kernel
theorem dX7_init_24 : decode cX7_init 24 = .ok (.putfield 18, 3) := by decide +kernel
theorem dX7_init_27 : decode cX7_init 27 = .ok (.aload_n 0, 1) := by decide +kernel
theorem dX7_init_28 : decode cX7_init 28 = .ok (.iconst 5, 1) := by decide +kernel
theorem dX7_init_29 : decode cX7_init 29 = .ok (.newarray .int, 2) := by decide +kernel
theorem dX7_init_31 : decode cX7_init 31 = .ok (.putfield 21, 3) := by decide +kernel
theorem dX7_init_34 : decode cX7_init 34 = .ok (.aload_n 0, 1) := by decide +kernel
theorem dX7_init_35 : decode cX7_init 35 = .ok (.bipush 50, 2) := by decide +kernel
theorem dX7_init_37 : decode cX7_init 37 = .ok (.newarray .int, 2) := by decide +kernel
theorem dX7_init_39 : decode cX7_init 39 = .ok (.putfield 25, 3) := by decide +kernel
theorem dX7_init_42 : decode cX7_init 42 = .ok (.aload_n 0, 1) := by decide +kernel
theorem dX7_init_43 : decode cX7_init 43 = .ok (.bipush 100, 2) := by decide +kernel
theorem dX7_init_45 : decode cX7_init 45 = .ok (.newarray .int, 2) := by decide +kernel
theorem dX7_init_47 : decode cX7_init 47 = .ok (.putfield 28, 3) := by decide +kernel
theorem dX7_init_50 : decode cX7_init 50 = .ok (.aload_n 0, 1) := by decide +kernel
theorem dX7_init_51 : decode cX7_init 51 = .ok (.bipush 10, 2) := by decide +kernel
theorem dX7_init_53 : decode cX7_init 53 = .ok (.newarray .int, 2) := by decide +kernel
theorem dX7_init_55 : decode cX7_init 55 = .ok (.putfield 31, 3) := by decide +kernel
theorem dX7_init_58 : decode cX7_init 58 = .ok (.aload_n 0, 1) := by decide +kernel
theorem dX7_init_59 : decode cX7_init 59 = .ok (.bipush 50, 2) := by decide +kernel
theorem dX7_init_61 : decode cX7_init 61 = .ok (.newarray .int, 2) := by decide +kernel
theorem dX7_init_63 : decode cX7_init 63 = .ok (.putfield 34, 3) := by decide +kernel
theorem dX7_init_66 : decode cX7_init 66 = .ok (.aload_n 0, 1) := by decide +kernel
theorem dX7_init_67 : decode cX7_init 67 = .ok (.bipush 6, 2) := by decide +kernel
theorem dX7_init_69 : decode cX7_init 69 = .ok (.newarray .int, 2) := by decide +kernel
theorem dX7_init_71 : decode cX7_init 71 = .ok (.putfield 37, 3) := by decide +kernel
theorem dX7_init_74 : decode cX7_init 74 = .ok (.aload_n 0, 1) := by decide +kernel
theorem dX7_init_75 : decode cX7_init 75 = .ok (.bipush 6, 2) := by decide +kernel
theorem dX7_init_77 : decode cX7_init 77 = .ok (.newarray .int, 2) := by decide +kernel
theorem dX7_init_79 : decode cX7_init 79 = .ok (.putfield 40, 3) := by decide +kernel
theorem dX7_init_82 : decode cX7_init 82 = .ok (.aload_n 0, 1) := by decide +kernel
theorem dX7_init_83 : decode cX7_init 83 = .ok (.bipush 20, 2) := by decide +kernel
theorem dX7_init_85 : decode cX7_init 85 = .ok (.newarray .int, 2) := by decide +kernel
theorem dX7_init_87 : decode cX7_init 87 = .ok (.putfield 43, 3) := by decide +kernel
theorem dX7_init_90 : decode cX7_init 90 = .ok (.aload_n 0, 1) := by decide +kernel
theorem dX7_init_91 : decode cX7_init 91 = .ok (.bipush 20, 2) := by decide +kernel
theorem dX7_init_93 : decode cX7_init 93 = .ok (.newarray .int, 2) := by decide +kernel
theorem dX7_init_95 : decode cX7_init 95 = .ok (.putfield 46, 3) := by decide +kernel
theorem dX7_init_98 : decode cX7_init 98 = .ok (.return_, 1) := by decide +kernel
theorem dX7_isHouse_0 : decode cX7_isHouse 0 = .ok (.iload_n 1, 1) := by decide +kernel
theorem dX7_isHouse_1 : decode cX7_isHouse 1 = .ok (.ifCond .lt 15, 3) := by decide +kernel
theorem dX7_isHouse_4 : decode cX7_isHouse 4 = .ok (.iload_n 1, 1) := by decide +kernel
theorem dX7_isHouse_5 : decode cX7_isHouse 5 = .ok (.aload_n 0, 1) := by decide +kernel
theorem dX7_isHouse_6 : decode cX7_isHouse 6 = .ok (.getfield 53, 3) := by decide +kernel
theorem dX7_isHouse_9 : decode cX7_isHouse 9 = .ok (.if_icmp .ge 7, 3) := by decide +kernel
theorem dX7_isHouse_16 : decode cX7_isHouse 16 = .ok (.iconst 0, 1) := by decide +kernel
theorem dX7_isHouse_17 : decode cX7_isHouse 17 = .ok (.ireturn, 1) := by decide +kernel
theorem dX7_isMan_0 : decode cX7_isMan 0 = .ok (.iload_n 1, 1) := by decide +kernel
theorem dX7_isMan_1 : decode cX7_isMan 1 = .ok (.ifCond .lt 15, 3) := by decide +kernel
theorem dX7_isMan_4 : decode cX7_isMan 4 = .ok (.iload_n 1, 1) := by decide +kernel
theorem dX7_isMan_5 : decode cX7_isMan 5 = .ok (.aload_n 0, 1) := by decide +kernel
theorem dX7_isMan_6 : decode cX7_isMan 6 = .ok (.getfield 59, 3) := by decide +kernel
theorem dX7_isMan_9 : decode cX7_isMan 9 = .ok (.if_icmp .ge 7, 3) := by decide +kernel
theorem dX7_isMan_16 : decode cX7_isMan 16 = .ok (.iconst 0, 1) := by decide +kernel
theorem dX7_isMan_17 : decode cX7_isMan 17 = .ok (.ireturn, 1) := by decide +kernel
theorem dX7_isSort_0 : decode cX7_isSort 0 = .ok (.iload_n 1, 1) := by decide +kernel
theorem dX7_isSort_1 : decode cX7_isSort 1 = .ok (.ifCond .lt 15, 3) := by decide +kernel
theorem dX7_isSort_4 : decode cX7_isSort 4 = .ok (.iload_n 1, 1) := by decide +kernel
theorem dX7_isSort_5 : decode cX7_isSort 5 = .ok (.aload_n 0, 1) := by decide +kernel
theorem dX7_isSort_6 : decode cX7_isSort 6 = .ok (.getfield 49, 3) := by decide +kernel
theorem dX7_isSort_9 : decode cX7_isSort 9 = .ok (.if_icmp .ge 7, 3) := by decide +kernel
theorem dX7_isSort_16 : decode cX7_isSort 16 = .ok (.iconst 0, 1) := by decide +kernel
theorem dX7_isSort_17 : decode cX7_isSort 17 = .ok (.ireturn, 1) := by decide +kernel
theorem dX8_clear_0 : decode cX8_clear 0 = .ok (.aload_n 0, 1) := by decide +kernel
theorem dX8_clear_1 : decode cX8_clear 1 = .ok (.iconst 0, 1) := by decide +kernel
theorem dX8_clear_2 : decode cX8_clear 2 = .ok (.putfield 24, 3) := by decide +kernel
theorem dX8_clear_5 : decode cX8_clear 5 = .ok (.return_, 1) := by decide +kernel
theorem dX8_init_0 : decode cX8_init 0 = .ok (.aload_n 0, 1) := by decide +kernel
theorem dX8_init_1 : decode cX8_init 1 = .ok (.invokespecial 3, 3) := by decide +kernel
theorem dX8_init_4 : decode cX8_init 4 = .ok (.aload_n 0, 1) := by decide +kernel
theorem dX8_init_5 : decode cX8_init 5 = .ok (.bipush 60, 2) := by decide +kernel
theorem dX8_init_7 : decode cX8_init 7 = .ok (.newarray .int, 2) := by decide +kernel
theorem dX8_init_9 : decode cX8_init 9 = .ok (.putfield 11, 3) := by decide +kernel
theorem dX8_init_12 : decode cX8_init 12 = .ok (.aload_n 0, 1) := by decide +kernel
theorem dX8_init_13 : decode cX8_init 13 = .ok (.bipush 60, 2) := by decide +kernel
theorem dX8_init_15 : decode cX8_init 15 = .ok (.newarray .int, 2) := by decide +kernel
theorem dX8_init_17 : decode cX8_init 17 = .ok (.putfield 15, 3) := by decide +kernel
theorem dX8_init_20 : decode cX8_init 20 = .ok (.aload_n 0, 1) := by decide +kernel
theorem dX8_init_21 : decode cX8_init 21 = .ok (.bipush 60, 2) := by decide +kernel
theorem dX8_init_23 : decode cX8_init 23 = .ok (.newarray .int, 2) := by decide +kernel
theorem dX8_init_25 : decode cX8_init 25 = .ok (.putfield 18, 3) := by decide +kernel
theorem dX8_init_28 : decode cX8_init 28 = .ok (.aload_n 0, 1) := by decide +kernel
theorem dX8_init_29 : decode cX8_init 29 = .ok (.bipush 60, 2) := by decide +kernel
theorem dX8_init_31 : decode cX8_init 31 = .ok (.newarray .int, 2) := by decide +kernel
theorem dX8_init_33 : decode cX8_init 33 = .ok (.putfield 21, 3) := by decide +kernel
theorem dX8_init_36 : decode cX8_init 36 = .ok (.return_, 1) := by decide +kernel
theorem dX8_takeLast_0 : decode cX8_takeLast 0 = .ok (.aload_n 0, 1) := by decide +kernel
theorem dX8_takeLast_1 : decode cX8_takeLast 1 = .ok (.getfield 24, 3) := by decide +kernel
theorem dX8_takeLast_4 : decode cX8_takeLast 4 = .ok (.ifCond .ne 5, 3) := by decide +kernel
theorem dX8_takeLast_7 : decode cX8_takeLast 7 = .ok (.iconst (-1), 1) := by decide +kernel
theorem dX8_takeLast_8 : decode cX8_takeLast 8 = .ok (.ireturn, 1) := by decide +kernel
theorem dX9_clear_0 : decode cX9_clear 0 = .ok (.aload_n 0, 1) := by decide +kernel
theorem dX9_clear_1 : decode cX9_clear 1 = .ok (.iconst 0, 1) := by decide +kernel
theorem dX9_clear_2 : decode cX9_clear 2 = .ok (.putfield 31, 3) := by decide +kernel
theorem dX9_clear_5 : decode cX9_clear 5 = .ok (.return_, 1) := by decide +kernel
theorem dX9_init_0 : decode cX9_init 0 = .ok (.aload_n 0, 1) := by decide +kernel
theorem dX9_init_1 : decode cX9_init 1 = .ok (.invokespecial 3, 3) := by decide +kernel
theorem dX9_init_4 : decode cX9_init 4 = .ok (.aload_n 0, 1) := by decide +kernel
theorem dX9_init_5 : decode cX9_init 5 = .ok (.bipush 30, 2) := by decide +kernel
theorem dX9_init_7 : decode cX9_init 7 = .ok (.newarray .int, 2) := by decide +kernel
theorem dX9_init_9 : decode cX9_init 9 = .ok (.putfield 11, 3) := by decide +kernel
theorem dX9_init_12 : decode cX9_init 12 = .ok (.aload_n 0, 1) := by decide +kernel
theorem dX9_init_13 : decode cX9_init 13 = .ok (.bipush 30, 2) := by decide +kernel
theorem dX9_init_15 : decode cX9_init 15 = .ok (.newarray .int, 2) := by decide +kernel
theorem dX9_init_17 : decode cX9_init 17 = .ok (.putfield 15, 3) := by decide +kernel
theorem dX9_init_20 : decode cX9_init 20 = .ok (.aload_n 0, 1) := by decide +kernel
theorem dX9_init_21 : decode cX9_init 21 = .ok (.bipush 50, 2) := by decide +kernel
theorem dX9_init_23 : decode cX9_init 23 = .ok (.newarray .int, 2) := by decide +kernel
theorem dX9_init_25 : decode cX9_init 25 = .ok (.putfield 18, 3) := by decide +kernel
theorem dX9_init_28 : decode cX9_init 28 = .ok (.aload_n 0, 1) := by decide +kernel
theorem dX9_init_29 : decode cX9_init 29 = .ok (.bipush 50, 2) := by decide +kernel
theorem dX9_init_31 : decode cX9_init 31 = .ok (.newarray .int, 2) := by decide +kernel
theorem dX9_init_33 : decode cX9_init 33 = .ok (.putfield 21, 3) := by decide +kernel
theorem dX9_init_36 : decode cX9_init 36 = .ok (.aload_n 0, 1) := by decide +kernel
theorem dX9_init_37 : decode cX9_init 37 = .ok (.bipush 64, 2) := by decide +kernel
theorem dX9_init_39 : decode cX9_init 39 = .ok (.newarray .long, 2) := by decide +kernel
theorem dX9_init_41 : decode cX9_init 41 = .ok (.putfield 24, 3) := by decide +kernel
theorem dX9_init_44 : decode cX9_init 44 = .ok (.aload_n 0, 1) := by decide +kernel
theorem dX9_init_45 : decode cX9_init 45 = .ok (.bipush 64, 2) := by decide +kernel
theorem dX9_init_47 : decode cX9_init 47 = .ok (.newarray .long, 2) := by decide +kernel
theorem dX9_init_49 : decode cX9_init 49 = .ok (.putfield 28, 3) := by decide +kernel
theorem dX9_init_52 : decode cX9_init 52 = .ok (.return_, 1) := by decide +kernel
theorem dX9_isKnown_0 : decode cX9_isKnown 0 = .ok (.iload_n 1, 1) := by decide +kernel
theorem dX9_isKnown_1 : decode cX9_isKnown 1 = .ok (.ifCond .lt 15, 3) := by decide +kernel
theorem dX9_isKnown_4 : decode cX9_isKnown 4 = .ok (.iload_n 1, 1) := by decide +kernel
theorem dX9_isKnown_5 : decode cX9_isKnown 5 = .ok (.aload_n 0, 1) := by decide +kernel
theorem dX9_isKnown_6 : decode cX9_isKnown 6 = .ok (.getfield 31, 3) := by decide +kernel
theorem dX9_isKnown_9 : decode cX9_isKnown 9 = .ok (.if_icmp .gt 7, 3) := by decide +kernel
theorem dX9_isKnown_12 : decode cX9_isKnown 12 = .ok (.iconst 1, 1) := by decide +kernel
theorem dX9_isKnown_13 : decode cX9_isKnown 13 = .ok (.goto 4, 3) := by decide +kernel
theorem dX9_isKnown_16 : decode cX9_isKnown 16 = .ok (.iconst 0, 1) := by decide +kernel
theorem dX9_isKnown_17 : decode cX9_isKnown 17 = .ok (.ireturn, 1) := by decide +kernel
theorem dX9_know_0 : decode cX9_know 0 = .ok (.aload_n 0, 1) := by decide +kernel
theorem dX9_know_1 : decode cX9_know 1 = .ok (.getfield 18, 3) := by decide +kernel
theorem dX9_know_4 : decode cX9_know 4 = .ok (.iconst (-1), 1) := by decide +kernel
theorem dX9_know_5 : decode cX9_know 5 = .ok (.invokestatic 41, 3) := by decide +kernel
theorem dX9_know_8 : decode cX9_know 8 = .ok (.iconst 0, 1) := by decide +kernel
theorem dX9_know_9 : decode cX9_know 9 = .ok (.istore_n 3, 1) := by decide +kernel
theorem dX9_know_10 : decode cX9_know 10 = .ok (.iload_n 3, 1) := by decide +kernel
theorem dX9_know_11 : decode cX9_know 11 = .ok (.iload_n 2, 1) := by decide +kernel
theorem dX9_know_12 : decode cX9_know 12 = .ok (.if_icmp .ge 32, 3) := by decide +kernel
theorem dX9_know_44 : decode cX9_know 44 = .ok (.iconst 0, 1) := by decide +kernel
theorem dX9_know_45 : decode cX9_know 45 = .ok (.istore_n 3, 1) := by decide +kernel
theorem dX9_know_46 : decode cX9_know 46 = .ok (.aload_n 0, 1) := by decide +kernel
theorem dX9_know_47 : decode cX9_know 47 = .ok (.iconst 1, 1) := by decide +kernel
theorem dX9_know_48 : decode cX9_know 48 = .ok (.putfield 47, 3) := by decide +kernel
theorem dX9_know_51 : decode cX9_know 51 = .ok (.iconst 0, 1) := by decide +kernel
theorem dX9_know_52 : decode cX9_know 52 = .ok (.istore 4, 2) := by decide +kernel
theorem dX9_know_54 : decode cX9_know 54 = .ok (.iload 4, 2) := by decide +kernel
theorem dX9_know_56 : decode cX9_know 56 = .ok (.aload_n 0, 1) := by decide +kernel
theorem dX9_know_57 : decode cX9_know 57 = .ok (.getfield 18, 3) := by decide +kernel
theorem dX9_know_60 : decode cX9_know 60 = .ok (.arraylength, 1) := by decide +kernel
theorem dX9_know_61 : decode cX9_know 61 = .ok (.if_icmp .ge 66, 3) := by decide +kernel
theorem dX9_know_64 : decode cX9_know 64 = .ok (.iload_n 3, 1) := by decide +kernel
theorem dX9_know_65 : decode cX9_know 65 = .ok (.aload_n 0, 1) := by decide +kernel
theorem dX9_know_66 : decode cX9_know 66 = .ok (.getfield 18, 3) := by decide +kernel
theorem dX9_know_69 : decode cX9_know 69 = .ok (.iload 4, 2) := by decide +kernel
theorem dX9_know_71 : decode cX9_know 71 = .ok (.iaload, 1) := by decide +kernel
theorem dX9_know_72 : decode cX9_know 72 = .ok (.iconst 0, 1) := by decide +kernel
theorem dX9_know_73 : decode cX9_know 73 = .ok (.invokestatic 50, 3) := by decide +kernel
theorem dX9_know_76 : decode cX9_know 76 = .ok (.iadd, 1) := by decide +kernel
theorem dX9_know_77 : decode cX9_know 77 = .ok (.istore_n 3, 1) := by decide +kernel
theorem dX9_know_78 : decode cX9_know 78 = .ok (.iload_n 3, 1) := by decide +kernel
theorem dX9_know_79 : decode cX9_know 79 = .ok (.aload_n 1, 1) := by decide +kernel
theorem dX9_know_80 : decode cX9_know 80 = .ok (.getfield 55, 3) := by decide +kernel
theorem dX9_know_83 : decode cX9_know 83 = .ok (.if_icmp .le 5, 3) := by decide +kernel
theorem dX9_know_88 : decode cX9_know 88 = .ok (.aload_n 0, 1) := by decide +kernel
theorem dX9_know_89 : decode cX9_know 89 = .ok (.getfield 21, 3) := by decide +kernel
theorem dX9_know_92 : decode cX9_know 92 = .ok (.iload 4, 2) := by decide +kernel
theorem dX9_know_94 : decode cX9_know 94 = .ok (.aload_n 0, 1) := by decide +kernel
theorem dX9_know_95 : decode cX9_know 95 = .ok (.getfield 47, 3) := by decide +kernel
theorem dX9_know_98 : decode cX9_know 98 = .ok (.iastore, 1) := by decide +kernel
theorem dX9_know_99 : decode cX9_know 99 = .ok (.aload_n 0, 1) := by decide +kernel
theorem dX9_know_100 : decode cX9_know 100 = .ok (.dup, 1) := by decide +kernel
theorem dX9_know_101 : decode cX9_know 101 = .ok (.getfield 47, 3) := by decide +kernel
theorem dX9_know_104 : decode cX9_know 104 = .ok (.aload_n 0, 1) := by decide +kernel
theorem dX9_know_105 : decode cX9_know 105 = .ok (.getfield 18, 3) := by decide +kernel
theorem dX9_know_108 : decode cX9_know 108 = .ok (.iload 4, 2) := by decide +kernel
theorem dX9_know_110 : decode cX9_know 110 = .ok (.iaload, 1) := by decide +kernel
theorem dX9_know_111 : decode cX9_know 111 = .ok (.iconst 0, 1) := by decide +kernel
theorem dX9_know_112 : decode cX9_know 112 = .ok (.invokestatic 50, 3) := by decide +kernel
theorem dX9_know_115 : decode cX9_know 115 = .ok (.iconst 1, 1) := by decide +kernel
theorem dX9_know_116 : decode cX9_know 116 = .ok (.iadd, 1) := by decide +kernel
theorem dX9_know_117 : decode cX9_know 117 = .ok (.imul, 1) := by decide +kernel
theorem dX9_know_118 : decode cX9_know 118 = .ok (.putfield 47, 3) := by decide +kernel
theorem dX9_know_121 : decode cX9_know 121 = .ok (.iinc 4 1, 3) := by decide +kernel
theorem dX9_know_124 : decode cX9_know 124 = .ok (.goto (-70), 3) := by decide +kernel
theorem dX9_know_127 : decode cX9_know 127 = .ok (.aload_n 0, 1) := by decide +kernel
theorem dX9_know_128 : decode cX9_know 128 = .ok (.getfield 47, 3) := by decide +kernel
theorem dX9_know_131 : decode cX9_know 131 = .ok (.bipush 64, 2) := by decide +kernel
theorem dX9_know_133 : decode cX9_know 133 = .ok (.if_icmp .gt 7, 3) := by decide +kernel
theorem dX9_know_136 : decode cX9_know 136 = .ok (.iconst 1, 1) := by decide +kernel
theorem dX9_know_137 : decode cX9_know 137 = .ok (.goto 4, 3) := by decide +kernel
theorem dX9_know_141 : decode cX9_know 141 = .ok (.ireturn, 1) := by decide +kernel
theorem dX9_ways_0 : decode cX9_ways 0 = .ok (.aload_n 0, 1) := by decide +kernel
theorem dX9_ways_1 : decode cX9_ways 1 = .ok (.getfield 24, 3) := by decide +kernel
theorem dX9_ways_4 : decode cX9_ways 4 = .ok (.lconst 0, 1) := by decide +kernel
theorem dX9_ways_5 : decode cX9_ways 5 = .ok (.invokestatic 58, 3) := by decide +kernel
theorem dX9_ways_8 : decode cX9_ways 8 = .ok (.aload_n 0, 1) := by decide +kernel
theorem dX9_ways_9 : decode cX9_ways 9 = .ok (.getfield 24, 3) := by decide +kernel
theorem dX9_ways_12 : decode cX9_ways 12 = .ok (.iconst 0, 1) := by decide +kernel
theorem dX9_ways_13 : decode cX9_ways 13 = .ok (.lconst 1, 1) := by decide +kernel
theorem dX9_ways_14 : decode cX9_ways 14 = .ok (.lastore, 1) := by decide +kernel
theorem dX9_ways_15 : decode cX9_ways 15 = .ok (.iconst 0, 1) := by decide +kernel
theorem dX9_ways_16 : decode cX9_ways 16 = .ok (.istore 4, 2) := by decide +kernel
theorem dX9_ways_18 : decode cX9_ways 18 = .ok (.iload 4, 2) := by decide +kernel
theorem dX9_ways_20 : decode cX9_ways 20 = .ok (.aload_n 1, 1) := by decide +kernel
theorem dX9_ways_21 : decode cX9_ways 21 = .ok (.getfield 55, 3) := by decide +kernel
theorem dX9_ways_24 : decode cX9_ways 24 = .ok (.if_icmp .ge 121, 3) := by decide +kernel
theorem dX9_ways_145 : decode cX9_ways 145 = .ok (.aload_n 0, 1) := by decide +kernel
theorem dX9_ways_146 : decode cX9_ways 146 = .ok (.getfield 24, 3) := by decide +kernel
theorem dX9_ways_149 : decode cX9_ways 149 = .ok (.aload_n 0, 1) := by decide +kernel
theorem dX9_ways_150 : decode cX9_ways 150 = .ok (.getfield 47, 3) := by decide +kernel
theorem dX9_ways_153 : decode cX9_ways 153 = .ok (.iconst 1, 1) := by decide +kernel
theorem dX9_ways_154 : decode cX9_ways 154 = .ok (.isub, 1) := by decide +kernel
theorem dX9_ways_155 : decode cX9_ways 155 = .ok (.laload, 1) := by decide +kernel
theorem dX9_ways_156 : decode cX9_ways 156 = .ok (.lreturn, 1) := by decide +kernel
set_option maxRecDepth 20000 in
theorem ggJ0_charAt_5068e_J0_isLatin1_aae02 : GoodIn wsJ0_charAt_5068e wsJ0_isLatin1_aae02 := goodIn_r _ [6, 7, 8] (by decide +kernel) (by decide +kernel)
set_option maxRecDepth 20000 in
theorem gJ0_charAt_5068e_J0_isLatin1_aae02 : GoodIn wsJ0_charAt_5068e (wsV RJ0 492 RJ0 yJ0_isLatin1_aae02 wsJ0_isLatin1_aae02) := goodIn_app (goodIn_of _ (by decide +kernel)) ggJ0_charAt_5068e_J0_isLatin1_aae02
set_option maxRecDepth 20000 in
theorem ggJ0_charAt_5068e_J1_charAt_3b067 : GoodIn wsJ0_charAt_5068e wsJ1_charAt_3b067 := goodIn_r _ [12, 13, 14, 5, 15, 16, 17, 18, 19, 20] (by decide +kernel) (by decide +kernel)
set_option maxRecDepth 20000 in
theorem gJ0_charAt_5068e_J1_charAt_3b067 : GoodIn wsJ0_charAt_5068e (va_wsS RJ0 495 yJ1_charAt_3b067 wsJ1_charAt_3b067) := goodIn_app (goodIn_of _ (by decide +kernel)) ggJ0_charAt_5068e_J1_charAt_3b067
set_option maxRecDepth 20000 in
theorem ggJ0_checkIndex_df160_J3_checkIndex_8e157 : GoodIn wsJ0_checkIndex_df160 wsJ3_checkIndex_8e157 := goodIn_r _ [5] (by decide +kernel) (by decide +kernel)
set_option maxRecDepth 20000 in
theorem gJ0_checkIndex_df160_J3_checkIndex_8e157 : GoodIn wsJ0_checkIndex_df160 (va_wsS RJ0 1059 yJ3_checkIndex_8e157 wsJ3_checkIndex_8e157) := goodIn_app (goodIn_of _ (by decide +kernel)) ggJ0_checkIndex_df160_J3_checkIndex_8e157
set_option maxRecDepth 20000 in
theorem ggJ0_length_8abf5_J0_coder_7d493 : GoodIn wsJ0_length_8abf5 wsJ0_coder_7d493 := goodIn_r _ [6, 7, 8] (by decide +kernel) (by decide +kernel)
set_option maxRecDepth 20000 in
theorem gJ0_length_8abf5_J0_coder_7d493 : GoodIn wsJ0_length_8abf5 (wsV RJ0 335 RJ0 yJ0_coder_7d493 wsJ0_coder_7d493) := goodIn_app (goodIn_of _ (by decide +kernel)) ggJ0_length_8abf5_J0_coder_7d493
set_option maxRecDepth 20000 in
theorem ggJ1_charAt_3b067_J0_checkIndex_df160 : GoodIn wsJ1_charAt_3b067 wsJ0_checkIndex_df160 := goodIn_r _ [4, 5, 6, 7, 8, 9] (by decide +kernel) (by decide +kernel)
set_option maxRecDepth 20000 in
theorem gJ1_charAt_3b067_J0_checkIndex_df160 : GoodIn wsJ1_charAt_3b067 (va_wsS RJ1 9 yJ0_checkIndex_df160 wsJ0_checkIndex_df160) := goodIn_app (goodIn_of _ (by decide +kernel)) ggJ1_charAt_3b067_J0_checkIndex_df160
set_option maxRecDepth 20000 in
theorem ggX0_live_X4_copyOf : GoodIn wsX0_live wsX4_copyOf := goodIn_r _ [9, 10, 11, 12, 13, 14, 15, 16, 17, 18, 19, 27, 28, 29, 30, 31, 32, 33] (by decide +kernel) (by decide +kernel)
set_option maxRecDepth 20000 in
theorem gX0_live_X4_copyOf : GoodIn wsX0_live (wsV RX0 30 RX4 yX4_copyOf wsX4_copyOf) := goodIn_app (goodIn_of _ (by decide +kernel)) ggX0_live_X4_copyOf
set_option maxRecDepth 20000 in
theorem ggX0_payAll_X4_begin : GoodIn wsX0_payAll wsX4_begin := goodIn_r _ [11, 12, 13, 14, 15, 16, 17, 18, 19, 20, 21, 22, 23, 24, 25, 26, 27, 28, 29, 37, 38, 39, 40, 41, 42, 43, 44, 45, 46, 47, 48, 49, 50, 51, 52, 53, 54, 55, 56, 57, 58, 59, 60, 61] (by decide +kernel) (by decide +kernel)
set_option maxRecDepth 20000 in
theorem gX0_payAll_X4_begin : GoodIn wsX0_payAll (wsV RX0 87 RX4 yX4_begin wsX4_begin) := goodIn_app (goodIn_of _ (by decide +kernel)) ggX0_payAll_X4_begin
set_option maxRecDepth 20000 in
theorem ggX11_buy_X7_isMan : GoodIn wsX11_buy wsX7_isMan := goodIn_r _ [6, 7, 8, 9, 10, 11, 12, 13, 14, 15, 16, 17, 18, 19, 20, 21, 22, 23, 24, 25] (by decide +kernel) (by decide +kernel)
set_option maxRecDepth 20000 in
theorem gX11_buy_X7_isMan : GoodIn wsX11_buy (wsV RX11 152 RX7 yX7_isMan wsX7_isMan) := goodIn_app (goodIn_of _ (by decide +kernel)) ggX11_buy_X7_isMan
set_option maxRecDepth 20000 in
theorem ggX11_carried_X7_isSort : GoodIn wsX11_carried wsX7_isSort := goodIn_r _ [6, 7, 8, 9, 10, 11, 12, 13, 14, 15, 16, 17, 18, 19, 20, 21, 22, 23, 24, 25] (by decide +kernel) (by decide +kernel)
set_option maxRecDepth 20000 in
theorem gX11_carried_X7_isSort : GoodIn wsX11_carried (wsV RX11 136 RX7 yX7_isSort wsX7_isSort) := goodIn_app (goodIn_of _ (by decide +kernel)) ggX11_carried_X7_isSort
set_option maxRecDepth 20000 in
theorem ggX11_count_X11_slotsHeld : GoodIn wsX11_count wsX11_slotsHeld := goodIn_r _ [19, 20, 21, 33, 34, 35, 36, 37, 38, 39, 84, 85, 86, 87, 88, 89, 90, 91, 92, 93, 94] (by decide +kernel) (by decide +kernel)
set_option maxRecDepth 20000 in
theorem gX11_count_X11_slotsHeld : GoodIn wsX11_count (wsV RX11 335 RX11 yX11_slotsHeld wsX11_slotsHeld) := goodIn_app (goodIn_of _ (by decide +kernel)) ggX11_count_X11_slotsHeld
set_option maxRecDepth 20000 in
theorem ggX11_count_X4_thingsCarried : GoodIn wsX11_count wsX4_thingsCarried := goodIn_r _ [31, 32, 33, 34, 35, 36, 37, 38, 39] (by decide +kernel) (by decide +kernel)
set_option maxRecDepth 20000 in
theorem gX11_count_X4_thingsCarried : GoodIn wsX11_count (wsV RX11 284 RX4 yX4_thingsCarried wsX4_thingsCarried) := goodIn_app (goodIn_of _ (by decide +kernel)) ggX11_count_X4_thingsCarried
set_option maxRecDepth 20000 in
theorem ggX11_count_X4_thingsOnTables : GoodIn wsX11_count wsX4_thingsOnTables := goodIn_r _ [26, 27, 33, 34, 35, 36, 37, 38, 39] (by decide +kernel) (by decide +kernel)
set_option maxRecDepth 20000 in
theorem gX11_count_X4_thingsOnTables : GoodIn wsX11_count (wsV RX11 338 RX4 yX4_thingsOnTables wsX4_thingsOnTables) := goodIn_app (goodIn_of _ (by decide +kernel)) ggX11_count_X4_thingsOnTables
set_option maxRecDepth 20000 in
theorem ggX11_door_X7_isHouse : GoodIn wsX11_door wsX7_isHouse := goodIn_r _ [6, 7, 8, 9, 10, 11, 12, 13, 14, 15, 16, 17, 18, 19, 20, 21, 22, 23, 24, 25] (by decide +kernel) (by decide +kernel)
set_option maxRecDepth 20000 in
theorem gX11_door_X7_isHouse : GoodIn wsX11_door (wsV RX11 129 RX7 yX7_isHouse wsX7_isHouse) := goodIn_app (goodIn_of _ (by decide +kernel)) ggX11_door_X7_isHouse
set_option maxRecDepth 20000 in
theorem ggX11_feed_X6_append : GoodIn wsX11_feed wsX6_append := goodIn_r _ [12, 8, 13, 14, 15, 16, 17, 18, 19, 20, 21, 22, 23, 24, 25] (by decide +kernel) (by decide +kernel)
set_option maxRecDepth 20000 in
theorem gX11_feed_X6_append : GoodIn wsX11_feed (wsV RX11 87 RX6 yX6_append wsX6_append) := goodIn_app (goodIn_of _ (by decide +kernel)) ggX11_feed_X6_append
set_option maxRecDepth 20000 in
theorem ggX11_feed_X6_hasRoomFor : GoodIn wsX11_feed wsX6_hasRoomFor := goodIn_r _ [7, 8, 14, 15, 16, 17, 18, 19, 20, 21, 22, 23, 24, 25] (by decide +kernel) (by decide +kernel)
set_option maxRecDepth 20000 in
theorem gX11_feed_X6_hasRoomFor : GoodIn wsX11_feed (wsV RX11 81 RX6 yX6_hasRoomFor wsX6_hasRoomFor) := goodIn_app (goodIn_of _ (by decide +kernel)) ggX11_feed_X6_hasRoomFor
set_option maxRecDepth 20000 in
theorem ggX11_fits_X9_isKnown : GoodIn wsX11_fits wsX9_isKnown := goodIn_r _ [8, 9, 52, 53, 54, 55, 56, 57, 58, 59] (by decide +kernel) (by decide +kernel)
set_option maxRecDepth 20000 in
theorem gX11_fits_X9_isKnown : GoodIn wsX11_fits (wsV RX11 304 RX9 yX9_isKnown wsX9_isKnown) := goodIn_app (goodIn_of _ (by decide +kernel)) ggX11_fits_X9_isKnown
set_option maxRecDepth 20000 in
theorem ggX11_fits_X9_know : GoodIn wsX11_fits wsX9_know := goodIn_r _ [13, 14, 15, 16, 17, 18, 19, 20, 21, 22, 23, 24, 25, 34, 35, 36, 37, 38, 39, 40, 41, 42, 43, 44, 45, 46, 47, 48, 49, 50, 51, 52, 53, 54, 55, 56, 57, 58, 59] (by decide +kernel) (by decide +kernel)
set_option maxRecDepth 20000 in
theorem gX11_fits_X9_know : GoodIn wsX11_fits (wsV RX11 309 RX9 yX9_know wsX9_know) := goodIn_app (goodIn_of _ (by decide +kernel)) ggX11_fits_X9_know
set_option maxRecDepth 20000 in
theorem ggX11_fits_X9_ways : GoodIn wsX11_fits wsX9_ways := goodIn_r _ [29, 30, 20, 15, 31, 32, 24, 33, 34, 35, 36, 37, 38, 39, 40, 41, 42, 43, 44, 45, 46, 47, 48, 49, 50, 51, 52, 53, 54, 55, 56, 57, 58, 59] (by decide +kernel) (by decide +kernel)
set_option maxRecDepth 20000 in
theorem gX11_fits_X9_ways : GoodIn wsX11_fits (wsV RX11 313 RX9 yX9_ways wsX9_ways) := goodIn_app (goodIn_of _ (by decide +kernel)) ggX11_fits_X9_ways
set_option maxRecDepth 20000 in
theorem ggX11_forget_X9_clear : GoodIn wsX11_forget wsX9_clear := goodIn_r _ [7, 8, 9, 10, 11, 12, 13, 14, 15, 16] (by decide +kernel) (by decide +kernel)
set_option maxRecDepth 20000 in
theorem gX11_forget_X9_clear : GoodIn wsX11_forget (wsV RX11 118 RX9 yX9_clear wsX9_clear) := goodIn_app (goodIn_of _ (by decide +kernel)) ggX11_forget_X9_clear
set_option maxRecDepth 20000 in
theorem ggX11_get_X7_isMan : GoodIn wsX11_get wsX7_isMan := goodIn_r _ [6, 7, 8, 9, 10, 11, 12, 13, 14, 15, 16, 17, 18, 19, 20, 21, 22, 23, 24, 25] (by decide +kernel) (by decide +kernel)
set_option maxRecDepth 20000 in
theorem gX11_get_X7_isMan : GoodIn wsX11_get (wsV RX11 152 RX7 yX7_isMan wsX7_isMan) := goodIn_app (goodIn_of _ (by decide +kernel)) ggX11_get_X7_isMan
set_option maxRecDepth 20000 in
theorem ggX11_go_X7_isMan : GoodIn wsX11_go wsX7_isMan := goodIn_r _ [6, 7, 8, 9, 10, 11, 12, 13, 14, 15, 16, 17, 18, 19, 20, 21, 22, 23, 24, 25] (by decide +kernel) (by decide +kernel)
set_option maxRecDepth 20000 in
theorem gX11_go_X7_isMan : GoodIn wsX11_go (wsV RX11 152 RX7 yX7_isMan wsX7_isMan) := goodIn_app (goodIn_of _ (by decide +kernel)) ggX11_go_X7_isMan
set_option maxRecDepth 20000 in
theorem ggX11_has_X7_isMan : GoodIn wsX11_has wsX7_isMan := goodIn_r _ [6, 7, 8, 9, 10, 11, 12, 13, 14, 15, 16, 17, 18, 19, 20, 21, 22, 23, 24, 25] (by decide +kernel) (by decide +kernel)
set_option maxRecDepth 20000 in
theorem gX11_has_X7_isMan : GoodIn wsX11_has (wsV RX11 152 RX7 yX7_isMan wsX7_isMan) := goodIn_app (goodIn_of _ (by decide +kernel)) ggX11_has_X7_isMan
set_option maxRecDepth 20000 in
theorem ggX11_helps_X7_isSort : GoodIn wsX11_helps wsX7_isSort := goodIn_r _ [6, 7, 8, 9, 10, 11, 12, 13, 14, 15, 16, 17, 18, 19, 20, 21, 22, 23, 24, 25] (by decide +kernel) (by decide +kernel)
set_option maxRecDepth 20000 in
theorem gX11_helps_X7_isSort : GoodIn wsX11_helps (wsV RX11 136 RX7 yX7_isSort wsX7_isSort) := goodIn_app (goodIn_of _ (by decide +kernel)) ggX11_helps_X7_isSort
set_option maxRecDepth 20000 in
theorem ggX11_hold_X4_copyOf : GoodIn wsX11_hold wsX4_copyOf := goodIn_r _ [8, 9, 10, 11, 12, 13, 14, 15, 16, 17, 18, 19, 20, 21, 22, 23, 24, 25] (by decide +kernel) (by decide +kernel)
set_option maxRecDepth 20000 in
theorem gX11_hold_X4_copyOf : GoodIn wsX11_hold (wsV RX11 319 RX4 yX4_copyOf wsX4_copyOf) := goodIn_app (goodIn_of _ (by decide +kernel)) ggX11_hold_X4_copyOf
set_option maxRecDepth 20000 in
theorem ggX11_inReach_X7_isMan : GoodIn wsX11_inReach wsX7_isMan := goodIn_r _ [6, 7, 8, 9, 10, 11, 12, 13, 14, 15, 16, 17, 18, 19, 20, 21, 22, 23, 24, 25] (by decide +kernel) (by decide +kernel)
set_option maxRecDepth 20000 in
theorem gX11_inReach_X7_isMan : GoodIn wsX11_inReach (wsV RX11 152 RX7 yX7_isMan wsX7_isMan) := goodIn_app (goodIn_of _ (by decide +kernel)) ggX11_inReach_X7_isMan
set_option maxRecDepth 20000 in
theorem ggX11_isWay_X7_isMan : GoodIn wsX11_isWay wsX7_isMan := goodIn_r _ [6, 7, 8, 9, 10, 11, 12, 13, 14, 15, 16, 17, 18, 19, 20, 21, 22, 23, 24, 25] (by decide +kernel) (by decide +kernel)
set_option maxRecDepth 20000 in
theorem gX11_isWay_X7_isMan : GoodIn wsX11_isWay (wsV RX11 152 RX7 yX7_isMan wsX7_isMan) := goodIn_app (goodIn_of _ (by decide +kernel)) ggX11_isWay_X7_isMan
set_option maxRecDepth 20000 in
theorem ggX11_man_X7_isMan : GoodIn wsX11_man wsX7_isMan := goodIn_r _ [6, 7, 8, 9, 10, 11, 12, 13, 14, 15, 16, 17, 18, 19, 20, 21, 22, 23, 24, 25] (by decide +kernel) (by decide +kernel)
set_option maxRecDepth 20000 in
theorem gX11_man_X7_isMan : GoodIn wsX11_man (wsV RX11 152 RX7 yX7_isMan wsX7_isMan) := goodIn_app (goodIn_of _ (by decide +kernel)) ggX11_man_X7_isMan
set_option maxRecDepth 20000 in
theorem ggX11_may_X7_isMan : GoodIn wsX11_may wsX7_isMan := goodIn_r _ [6, 7, 8, 9, 10, 11, 12, 13, 14, 15, 16, 17, 18, 19, 20, 21, 22, 23, 24, 25] (by decide +kernel) (by decide +kernel)
set_option maxRecDepth 20000 in
theorem gX11_may_X7_isMan : GoodIn wsX11_may (wsV RX11 152 RX7 yX7_isMan wsX7_isMan) := goodIn_app (goodIn_of _ (by decide +kernel)) ggX11_may_X7_isMan
set_option maxRecDepth 20000 in
theorem ggX11_meet_X7_isMan : GoodIn wsX11_meet wsX7_isMan := goodIn_r _ [6, 7, 8, 9, 10, 11, 12, 13, 14, 15, 16, 17, 18, 19, 20, 21, 22, 23, 24, 25] (by decide +kernel) (by decide +kernel)
set_option maxRecDepth 20000 in
theorem gX11_meet_X7_isMan : GoodIn wsX11_meet (wsV RX11 152 RX7 yX7_isMan wsX7_isMan) := goodIn_app (goodIn_of _ (by decide +kernel)) ggX11_meet_X7_isMan
set_option maxRecDepth 20000 in
theorem ggX11_most_X7_isMan : GoodIn wsX11_most wsX7_isMan := goodIn_r _ [6, 7, 8, 9, 10, 11, 12, 13, 14, 15, 16, 17, 18, 19, 20, 21, 22, 23, 24, 25] (by decide +kernel) (by decide +kernel)
set_option maxRecDepth 20000 in
theorem gX11_most_X7_isMan : GoodIn wsX11_most (wsV RX11 152 RX7 yX7_isMan wsX7_isMan) := goodIn_app (goodIn_of _ (by decide +kernel)) ggX11_most_X7_isMan
set_option maxRecDepth 20000 in
theorem ggX11_moveIn_X10_forgetLast : GoodIn wsX11_moveIn wsX10_forgetLast := goodIn_r _ [54, 55, 98, 99, 100, 101, 102, 103, 104, 105, 106, 107, 108, 109, 110, 111, 112, 113, 114, 115] (by decide +kernel) (by decide +kernel)
set_option maxRecDepth 20000 in
theorem gX11_moveIn_X10_forgetLast : GoodIn wsX11_moveIn (wsV RX11 119 RX10 yX10_forgetLast wsX10_forgetLast) := goodIn_app (goodIn_of _ (by decide +kernel)) ggX11_moveIn_X10_forgetLast
set_option maxRecDepth 20000 in
theorem ggX11_moveIn_X4_begin : GoodIn wsX11_moveIn wsX4_begin := goodIn_r _ [19, 20, 21, 22, 23, 24, 25, 26, 27, 28, 29, 30, 31, 32, 33, 34, 35, 36, 37, 56, 57, 58, 59, 60, 61, 62, 66, 67, 68, 69, 70, 71, 72, 73, 74, 75, 76, 77, 78, 79, 80, 81, 82, 83] (by decide +kernel) (by decide +kernel)
set_option maxRecDepth 20000 in
theorem gX11_moveIn_X4_begin : GoodIn wsX11_moveIn (wsV RX11 111 RX4 yX4_begin wsX4_begin) := goodIn_app (goodIn_of _ (by decide +kernel)) ggX11_moveIn_X4_begin
set_option maxRecDepth 20000 in
theorem ggX11_moveIn_X5_exchange : GoodIn wsX11_moveIn wsX5_exchange := goodIn_r _ [13, 14, 63, 64, 65] (by decide +kernel) (by decide +kernel)
set_option maxRecDepth 20000 in
theorem gX11_moveIn_X5_exchange : GoodIn wsX11_moveIn (wsV RX11 107 RX5 yX5_exchange wsX5_exchange) := goodIn_app (goodIn_of _ (by decide +kernel)) ggX11_moveIn_X5_exchange
set_option maxRecDepth 20000 in
theorem ggX11_moveIn_X8_clear : GoodIn wsX11_moveIn wsX8_clear := goodIn_r _ [42, 43, 84, 85, 86, 87, 88, 89] (by decide +kernel) (by decide +kernel)
set_option maxRecDepth 20000 in
theorem gX11_moveIn_X8_clear : GoodIn wsX11_moveIn (wsV RX11 115 RX8 yX8_clear wsX8_clear) := goodIn_app (goodIn_of _ (by decide +kernel)) ggX11_moveIn_X8_clear
set_option maxRecDepth 20000 in
theorem ggX11_moveIn_X9_clear : GoodIn wsX11_moveIn wsX9_clear := goodIn_r _ [48, 49, 90, 91, 92, 93, 94, 95, 96, 97] (by decide +kernel) (by decide +kernel)
set_option maxRecDepth 20000 in
theorem gX11_moveIn_X9_clear : GoodIn wsX11_moveIn (wsV RX11 118 RX9 yX9_clear wsX9_clear) := goodIn_app (goodIn_of _ (by decide +kernel)) ggX11_moveIn_X9_clear
set_option maxRecDepth 20000 in
theorem ggX11_read_X11_moveIn : GoodIn wsX11_read wsX11_moveIn := goodIn_r _ [55, 3, 56, 57, 58, 59, 60, 61, 62, 63, 64, 65, 30, 66, 32, 67, 68, 69, 70, 71, 72, 73, 74, 75, 76, 77, 78, 79, 80, 81, 82, 83, 84, 85, 86, 20, 21, 22, 87, 88, 89, 90, 91, 92, 93, 94, 95, 96, 97, 98, 99, 100, 101, 102, 103, 104, 105, 106, 107, 108, 109, 110, 111, 112, 113, 114, 127, 128, 129, 130, 131, 132, 133, 134, 135, 136, 137, 138, 139, 140, 141, 142, 143, 144, 145, 146, 147, 148, 149, 150, 151, 152, 153, 154, 155, 156, 157, 158, 159, 160, 161, 162, 163, 164, 165, 166, 167, 168, 169, 170, 171, 172, 173, 174, 175, 176, 177, 178, 179, 180, 181, 182, 183, 184, 185, 186, 187] (by decide +kernel) (by decide +kernel)
set_option maxRecDepth 20000 in
theorem gX11_read_X11_moveIn : GoodIn wsX11_read (wsV RX11 104 RX11 yX11_moveIn wsX11_moveIn) := goodIn_app (goodIn_of _ (by decide +kernel)) ggX11_read_X11_moveIn
set_option maxRecDepth 20000 in
theorem ggX11_read_X5_tellAll : GoodIn wsX11_read wsX5_tellAll := goodIn_r _ [31, 32, 33, 34, 35, 36, 37, 38, 39, 40, 41, 42, 43, 44, 45, 46, 47, 48, 49, 50, 20, 21, 22, 112, 113, 114, 115, 116, 117, 118, 119, 120, 121, 122, 123, 124, 125, 126, 127, 128, 129, 130, 131, 132, 133, 134, 135, 136, 137, 138, 139, 140, 141, 142, 143, 144] (by decide +kernel) (by decide +kernel)
set_option maxRecDepth 20000 in
theorem gX11_read_X5_tellAll : GoodIn wsX11_read (wsV RX11 101 RX5 yX5_tellAll wsX5_tellAll) := goodIn_app (goodIn_of _ (by decide +kernel)) ggX11_read_X5_tellAll
set_option maxRecDepth 20000 in
theorem ggX11_read_X6_check : GoodIn wsX11_read wsX6_check := goodIn_r _ [9, 10, 11, 12, 13, 14, 15, 8, 16, 17, 18, 19, 20, 21, 22, 23, 24, 25, 26, 115, 116, 117, 118, 119, 120, 121, 122, 123, 124, 125, 126] (by decide +kernel) (by decide +kernel)
set_option maxRecDepth 20000 in
theorem gX11_read_X6_check : GoodIn wsX11_read (wsV RX11 95 RX6 yX6_check wsX6_check) := goodIn_app (goodIn_of _ (by decide +kernel)) ggX11_read_X6_check
set_option maxRecDepth 20000 in
theorem ggX11_rest_X0_payAll : GoodIn wsX11_rest wsX0_payAll := goodIn_r _ [10, 11, 12, 13, 14, 15, 16, 17, 18, 19, 20, 21, 22, 23, 24, 25, 26, 27, 28, 29, 30, 31, 32, 33, 34, 35, 36, 37, 38, 39, 44, 45, 46, 47, 48, 49, 50, 51, 52, 53, 54, 55, 56, 57, 58, 59, 60, 61, 62, 63, 64, 65, 66, 67, 68, 69, 70, 71, 72, 73, 74, 75] (by decide +kernel) (by decide +kernel)
set_option maxRecDepth 20000 in
theorem gX11_rest_X0_payAll : GoodIn wsX11_rest (wsV RX11 291 RX0 yX0_payAll wsX0_payAll) := goodIn_app (goodIn_of _ (by decide +kernel)) ggX11_rest_X0_payAll
set_option maxRecDepth 20000 in
theorem ggX11_rest_X4_thingsCarried : GoodIn wsX11_rest wsX4_thingsCarried := goodIn_r _ [43, 23, 51, 52, 53, 54, 55, 56, 57] (by decide +kernel) (by decide +kernel)
set_option maxRecDepth 20000 in
theorem gX11_rest_X4_thingsCarried : GoodIn wsX11_rest (wsV RX11 284 RX4 yX4_thingsCarried wsX4_thingsCarried) := goodIn_app (goodIn_of _ (by decide +kernel)) ggX11_rest_X4_thingsCarried
set_option maxRecDepth 20000 in
theorem ggX11_riches_X7_isHouse : GoodIn wsX11_riches wsX7_isHouse := goodIn_r _ [7, 8, 9, 10, 11, 12, 13, 14, 15, 16, 17, 18, 19, 20, 21, 22, 23, 24, 25, 26] (by decide +kernel) (by decide +kernel)
set_option maxRecDepth 20000 in
theorem gX11_riches_X7_isHouse : GoodIn wsX11_riches (wsV RX11 129 RX7 yX7_isHouse wsX7_isHouse) := goodIn_app (goodIn_of _ (by decide +kernel)) ggX11_riches_X7_isHouse
set_option maxRecDepth 20000 in
theorem ggX11_rid_X7_isMan : GoodIn wsX11_rid wsX7_isMan := goodIn_r _ [6, 7, 8, 9, 10, 11, 12, 13, 14, 15, 16, 17, 18, 19, 20, 21, 22, 23, 24, 25] (by decide +kernel) (by decide +kernel)
set_option maxRecDepth 20000 in
theorem gX11_rid_X7_isMan : GoodIn wsX11_rid (wsV RX11 152 RX7 yX7_isMan wsX7_isMan) := goodIn_app (goodIn_of _ (by decide +kernel)) ggX11_rid_X7_isMan
set_option maxRecDepth 20000 in
theorem ggX11_round_X7_isMan : GoodIn wsX11_round wsX7_isMan := goodIn_r _ [6, 7, 8, 9, 10, 11, 12, 13, 14, 15, 16, 17, 18, 19, 20, 21, 22, 23, 24, 25] (by decide +kernel) (by decide +kernel)
set_option maxRecDepth 20000 in
theorem gX11_round_X7_isMan : GoodIn wsX11_round (wsV RX11 152 RX7 yX7_isMan wsX7_isMan) := goodIn_app (goodIn_of _ (by decide +kernel)) ggX11_round_X7_isMan
set_option maxRecDepth 20000 in
theorem ggX11_see_X7_isHouse : GoodIn wsX11_see wsX7_isHouse := goodIn_r _ [6, 7, 8, 9, 10, 11, 12, 13, 14, 15, 16, 17, 18, 19, 20, 21, 22, 23, 24, 25] (by decide +kernel) (by decide +kernel)
set_option maxRecDepth 20000 in
theorem gX11_see_X7_isHouse : GoodIn wsX11_see (wsV RX11 129 RX7 yX7_isHouse wsX7_isHouse) := goodIn_app (goodIn_of _ (by decide +kernel)) ggX11_see_X7_isHouse
set_option maxRecDepth 20000 in
theorem ggX11_step_X11_isWay : GoodIn wsX11_step wsX11_isWay := goodIn_r _ [6, 1, 7, 8, 9, 10, 11, 12, 13, 14, 15, 16, 17, 18, 19, 20, 21, 22, 23, 24, 25, 26, 27, 28, 29, 30, 31, 32, 33, 34, 35, 36, 37, 38, 39, 40, 41] (by decide +kernel) (by decide +kernel)
set_option maxRecDepth 20000 in
theorem gX11_step_X11_isWay : GoodIn wsX11_step (wsV RX11 204 RX11 yX11_isWay wsX11_isWay) := goodIn_app (goodIn_of _ (by decide +kernel)) ggX11_step_X11_isWay
set_option maxRecDepth 20000 in
theorem ggX11_table_X7_isHouse : GoodIn wsX11_table wsX7_isHouse := goodIn_r _ [6, 7, 8, 9, 10, 11, 12, 13, 14, 15, 16, 17, 18, 19, 20, 21, 22, 23, 24, 25] (by decide +kernel) (by decide +kernel)
set_option maxRecDepth 20000 in
theorem gX11_table_X7_isHouse : GoodIn wsX11_table (wsV RX11 129 RX7 yX7_isHouse wsX7_isHouse) := goodIn_app (goodIn_of _ (by decide +kernel)) ggX11_table_X7_isHouse
set_option maxRecDepth 20000 in
theorem ggX11_turned_X7_isSort : GoodIn wsX11_turned wsX7_isSort := goodIn_r _ [6, 7, 8, 9, 10, 11, 12, 13, 14, 15, 16, 17, 18, 19, 20, 21, 22, 23, 24, 25] (by decide +kernel) (by decide +kernel)
set_option maxRecDepth 20000 in
theorem gX11_turned_X7_isSort : GoodIn wsX11_turned (wsV RX11 136 RX7 yX7_isSort wsX7_isSort) := goodIn_app (goodIn_of _ (by decide +kernel)) ggX11_turned_X7_isSort
set_option maxRecDepth 20000 in
theorem ggX11_undo_X8_takeLast : GoodIn wsX11_undo wsX8_takeLast := goodIn_r _ [6, 7, 8, 9, 10, 11, 12, 13] (by decide +kernel) (by decide +kernel)
set_option maxRecDepth 20000 in
theorem gX11_undo_X8_takeLast : GoodIn wsX11_undo (wsV RX11 196 RX8 yX8_takeLast wsX8_takeLast) := goodIn_app (goodIn_of _ (by decide +kernel)) ggX11_undo_X8_takeLast
set_option maxRecDepth 20000 in
theorem ggX11_visitors_X7_isHouse : GoodIn wsX11_visitors wsX7_isHouse := goodIn_r _ [6, 7, 8, 9, 10, 11, 12, 13, 14, 15, 16, 17, 18, 19, 20, 21, 22, 23, 24, 25] (by decide +kernel) (by decide +kernel)
set_option maxRecDepth 20000 in
theorem gX11_visitors_X7_isHouse : GoodIn wsX11_visitors (wsV RX11 129 RX7 yX7_isHouse wsX7_isHouse) := goodIn_app (goodIn_of _ (by decide +kernel)) ggX11_visitors_X7_isHouse
set_option maxRecDepth 20000 in
theorem ggX11_way_X11_isWay : GoodIn wsX11_way wsX11_isWay := goodIn_r _ [6, 1, 7, 8, 9, 10, 11, 12, 13, 14, 15, 16, 17, 18, 19, 20, 21, 22, 23, 24, 25, 26, 27, 28, 29, 30, 31, 32, 33, 34, 35, 36, 37, 38, 39, 40, 41] (by decide +kernel) (by decide +kernel)
set_option maxRecDepth 20000 in
theorem gX11_way_X11_isWay : GoodIn wsX11_way (wsV RX11 204 RX11 yX11_isWay wsX11_isWay) := goodIn_app (goodIn_of _ (by decide +kernel)) ggX11_way_X11_isWay
set_option maxRecDepth 20000 in
theorem ggX11_worth_X7_isSort : GoodIn wsX11_worth wsX7_isSort := goodIn_r _ [6, 7, 8, 9, 10, 11, 12, 13, 14, 15, 16, 17, 18, 19, 20, 21, 22, 23, 24, 25] (by decide +kernel) (by decide +kernel)
set_option maxRecDepth 20000 in
theorem gX11_worth_X7_isSort : GoodIn wsX11_worth (wsV RX11 136 RX7 yX7_isSort wsX7_isSort) := goodIn_app (goodIn_of _ (by decide +kernel)) ggX11_worth_X7_isSort
set_option maxRecDepth 20000 in
theorem ggX11_year_X0_live : GoodIn wsX11_year wsX0_live := goodIn_r _ [11, 12, 13, 14, 15, 16, 17, 18, 19, 20, 21, 22, 23, 24, 25, 26, 27, 28, 29, 30, 39, 40, 41, 42, 43, 44, 45, 46, 47, 48, 49, 50, 51, 52, 53, 54, 55, 56, 57, 58, 59, 60, 61, 62, 63, 64, 65, 66, 67, 68, 69, 70] (by decide +kernel) (by decide +kernel)
set_option maxRecDepth 20000 in
theorem gX11_year_X0_live : GoodIn wsX11_year (wsV RX11 272 RX0 yX0_live wsX0_live) := goodIn_app (goodIn_of _ (by decide +kernel)) ggX11_year_X0_live
set_option maxRecDepth 20000 in
theorem ggX11_year_X4_menAtHome : GoodIn wsX11_year wsX4_menAtHome := goodIn_r _ [38, 21, 46, 47, 48, 49, 50, 51, 52] (by decide +kernel) (by decide +kernel)
set_option maxRecDepth 20000 in
theorem gX11_year_X4_menAtHome : GoodIn wsX11_year (wsV RX11 287 RX4 yX4_menAtHome wsX4_menAtHome) := goodIn_app (goodIn_of _ (by decide +kernel)) ggX11_year_X4_menAtHome
set_option maxRecDepth 20000 in
theorem ggX11_year_X4_thingsCarried : GoodIn wsX11_year wsX4_thingsCarried := goodIn_r _ [34, 21, 46, 47, 48, 49, 50, 51, 52] (by decide +kernel) (by decide +kernel)
set_option maxRecDepth 20000 in
theorem gX11_year_X4_thingsCarried : GoodIn wsX11_year (wsV RX11 284 RX4 yX4_thingsCarried wsX4_thingsCarried) := goodIn_app (goodIn_of _ (by decide +kernel)) ggX11_year_X4_thingsCarried
set_option maxRecDepth 20000 in
theorem ggX12_buy_X12_isMan : GoodIn wsX12_buy wsX12_isMan := goodIn_r _ [6, 7, 1, 8, 9, 5, 10, 11, 12, 13, 14, 15, 16, 17, 18, 19, 20, 21, 22, 23, 24, 25, 26, 27, 28, 29, 30, 31, 32, 33, 34, 35, 36, 37, 38, 39, 40, 41, 42, 43, 44, 45, 46, 47, 48, 49, 50, 51, 52, 53, 54, 55, 56, 57, 58, 59, 60, 61, 62, 63, 64, 65, 66, 67, 68, 69, 70, 71, 72, 73, 74, 75, 76, 77, 78, 79, 80, 81, 82, 83, 84, 85, 86, 87, 88, 89, 90, 91, 92, 93, 94, 95, 96, 97, 98, 99, 100] (by decide +kernel) (by decide +kernel)
set_option maxRecDepth 20000 in
theorem gX12_buy_X12_isMan : GoodIn wsX12_buy (wsV RX12 356 RX12 yX12_isMan wsX12_isMan) := goodIn_app (goodIn_of _ (by decide +kernel)) ggX12_buy_X12_isMan
set_option maxRecDepth 20000 in
theorem ggX12_canAsk_X12_isMan : GoodIn wsX12_canAsk wsX12_isMan := goodIn_r _ [5, 6, 7, 8, 9, 4, 10, 11, 12, 13, 14, 15, 16, 17, 18, 19, 20, 21, 22, 23, 24, 25, 26, 27, 28, 29, 30, 31, 32, 33, 34, 35, 36, 37, 38, 39, 40, 41, 42, 43, 44, 45, 46, 47, 48, 49, 50, 51, 52, 53, 54, 55, 56, 57, 58, 59, 60, 61, 62, 63, 64, 65, 66, 67, 68, 69, 70, 71, 72, 73, 74, 75, 76, 77, 78, 79, 80, 81, 82, 83, 84, 85, 86, 87, 88, 89, 90, 91, 92, 93, 94, 95, 96, 97, 98, 99, 100] (by decide +kernel) (by decide +kernel)
set_option maxRecDepth 20000 in
theorem gX12_canAsk_X12_isMan : GoodIn wsX12_canAsk (wsV RX12 356 RX12 yX12_isMan wsX12_isMan) := goodIn_app (goodIn_of _ (by decide +kernel)) ggX12_canAsk_X12_isMan
set_option maxRecDepth 20000 in
theorem ggX12_carried_X12_isSort : GoodIn wsX12_carried wsX12_isSort := goodIn_r _ [5, 6, 7, 8, 9, 4, 10, 11, 12, 13, 14, 15, 16, 17, 18, 19, 20, 21, 22, 23, 24, 25, 26, 27, 28, 29, 30, 31, 32, 33, 34, 35, 36, 37, 38, 39, 40, 41, 42, 43, 44, 45, 46, 47, 48, 49, 50, 51, 52, 53, 54, 55, 56, 57, 58, 59, 60, 61, 62, 63, 64, 65, 66, 67, 68, 69, 70, 71, 72, 73, 74, 75, 76, 77, 78, 79, 80, 81, 82, 83, 84, 85, 86, 87, 88, 89, 90, 91, 92, 93, 94, 95, 96, 97, 98, 99, 100] (by decide +kernel) (by decide +kernel)
set_option maxRecDepth 20000 in
theorem gX12_carried_X12_isSort : GoodIn wsX12_carried (wsV RX12 353 RX12 yX12_isSort wsX12_isSort) := goodIn_app (goodIn_of _ (by decide +kernel)) ggX12_carried_X12_isSort
set_option maxRecDepth 20000 in
theorem ggX12_counts_X12_adds : GoodIn wsX12_counts wsX12_adds := goodIn_r _ [22, 5, 6, 1, 23, 24, 25, 26, 27, 28, 29, 30, 31, 32, 33, 34, 35, 36, 37, 38, 39, 40, 41, 42, 43, 44, 45, 46, 47, 48, 49, 50, 51, 52, 53, 54, 55, 56, 57, 58, 59, 60, 61, 62, 63, 64, 65, 66, 67, 68, 69, 70, 71, 72, 73, 74, 75, 76, 77, 78, 79, 80, 81, 82, 83, 84, 85, 86, 87, 88, 89, 90, 91, 92, 93, 94, 95, 96, 97, 98, 99, 100, 101, 102, 103, 104, 105, 106, 107, 108, 109, 110, 111, 112] (by decide +kernel) (by decide +kernel)
set_option maxRecDepth 20000 in
theorem gX12_counts_X12_adds : GoodIn wsX12_counts (wsV RX12 538 RX12 yX12_adds wsX12_adds) := goodIn_app (goodIn_of _ (by decide +kernel)) ggX12_counts_X12_adds
set_option maxRecDepth 20000 in
theorem ggX12_counts_X12_isAllMet : GoodIn wsX12_counts wsX12_isAllMet := goodIn_r _ [17, 18, 5, 6, 7, 23, 24, 25, 26, 27, 28, 29, 30, 31, 32, 33, 34, 35, 36, 37, 38, 39, 40, 41, 42, 43, 44, 45, 46, 47, 48, 49, 50, 51, 52, 53, 54, 55, 56, 57, 58, 59, 60, 61, 62, 63, 64, 65, 66, 67, 68, 69, 70, 71, 72, 73, 74, 75, 76, 77, 78, 79, 80, 81, 82, 83, 84, 85, 86, 87, 88, 89, 90, 91, 92, 93, 94, 95, 96, 97, 98, 99, 100, 101, 102, 103, 104, 105, 106, 107, 108, 109, 110, 111, 112] (by decide +kernel) (by decide +kernel)
set_option maxRecDepth 20000 in
theorem gX12_counts_X12_isAllMet : GoodIn wsX12_counts (wsV RX12 535 RX12 yX12_isAllMet wsX12_isAllMet) := goodIn_app (goodIn_of _ (by decide +kernel)) ggX12_counts_X12_isAllMet
set_option maxRecDepth 20000 in
theorem ggX12_counts_X12_knows : GoodIn wsX12_counts wsX12_knows := goodIn_r _ [12, 13, 7, 4, 5, 6, 23, 24, 25, 26, 27, 28, 29, 30, 31, 32, 33, 34, 35, 36, 37, 38, 39, 40, 41, 42, 43, 44, 45, 46, 47, 48, 49, 50, 51, 52, 53, 54, 55, 56, 57, 58, 59, 60, 61, 62, 63, 64, 65, 66, 67, 68, 69, 70, 71, 72, 73, 74, 75, 76, 77, 78, 79, 80, 81, 82, 83, 84, 85, 86, 87, 88, 89, 90, 91, 92, 93, 94, 95, 96, 97, 98, 99, 100, 101, 102, 103, 104, 105, 106, 107, 108, 109, 110, 111, 112] (by decide +kernel) (by decide +kernel)
set_option maxRecDepth 20000 in
theorem gX12_counts_X12_knows : GoodIn wsX12_counts (wsV RX12 528 RX12 yX12_knows wsX12_knows) := goodIn_app (goodIn_of _ (by decide +kernel)) ggX12_counts_X12_knows
set_option maxRecDepth 20000 in
theorem ggX12_cut_X12_byteAt : GoodIn wsX12_cut wsX12_byteAt := goodIn_r _ [7, 2, 16, 17, 18, 19, 20, 21, 22, 23, 24, 25, 26, 27, 28, 29, 30, 31, 32, 33, 34, 35, 36, 37, 38, 39, 40, 41, 42, 43, 44, 45, 46, 47, 48, 49, 50, 51, 52, 53, 54, 55, 56, 57, 58, 59, 60, 61, 62, 63, 64, 65, 66, 67, 68, 69, 70, 71, 72, 73, 74, 75, 76, 77, 78, 79, 80, 81, 82, 83, 84, 85, 86, 87, 88, 89, 90, 91, 92, 93, 94, 95, 96, 97, 98, 99, 100, 101, 102, 103, 104, 105] (by decide +kernel) (by decide +kernel)
set_option maxRecDepth 20000 in
theorem gX12_cut_X12_byteAt : GoodIn wsX12_cut (wsV RX12 217 RX12 yX12_byteAt wsX12_byteAt) := goodIn_app (goodIn_of _ (by decide +kernel)) ggX12_cut_X12_byteAt
set_option maxRecDepth 20000 in
theorem ggX12_cut_X12_token : GoodIn wsX12_cut wsX12_token := goodIn_r _ [11, 12, 1, 13, 14, 15, 16, 17, 18, 19, 20, 21, 22, 23, 24, 25, 26, 27, 28, 29, 30, 31, 32, 33, 34, 35, 36, 37, 38, 39, 40, 41, 42, 43, 44, 45, 46, 47, 48, 49, 50, 51, 52, 53, 54, 55, 56, 57, 58, 59, 60, 61, 62, 63, 64, 65, 66, 67, 68, 69, 70, 71, 72, 73, 74, 75, 76, 77, 78, 79, 80, 81, 82, 83, 84, 85, 86, 87, 88, 89, 90, 91, 92, 93, 94, 95, 96, 97, 98, 99, 100, 101, 102, 103, 104, 105] (by decide +kernel) (by decide +kernel)
set_option maxRecDepth 20000 in
theorem gX12_cut_X12_token : GoodIn wsX12_cut (wsV RX12 221 RX12 yX12_token wsX12_token) := goodIn_app (goodIn_of _ (by decide +kernel)) ggX12_cut_X12_token
set_option maxRecDepth 20000 in
theorem ggX12_door_X12_isHouse : GoodIn wsX12_door wsX12_isHouse := goodIn_r _ [5, 6, 7, 8, 9, 4, 10, 11, 12, 13, 14, 15, 16, 17, 18, 19, 20, 21, 22, 23, 24, 25, 26, 27, 28, 29, 30, 31, 32, 33, 34, 35, 36, 37, 38, 39, 40, 41, 42, 43, 44, 45, 46, 47, 48, 49, 50, 51, 52, 53, 54, 55, 56, 57, 58, 59, 60, 61, 62, 63, 64, 65, 66, 67, 68, 69, 70, 71, 72, 73, 74, 75, 76, 77, 78, 79, 80, 81, 82, 83, 84, 85, 86, 87, 88, 89, 90, 91, 92, 93, 94, 95, 96, 97, 98, 99, 100] (by decide +kernel) (by decide +kernel)
set_option maxRecDepth 20000 in
theorem gX12_door_X12_isHouse : GoodIn wsX12_door (wsV RX12 347 RX12 yX12_isHouse wsX12_isHouse) := goodIn_app (goodIn_of _ (by decide +kernel)) ggX12_door_X12_isHouse
set_option maxRecDepth 20000 in
theorem ggX12_feed_X12_put : GoodIn wsX12_feed wsX12_put := goodIn_r _ [6, 7, 1, 8, 9, 10, 11, 12, 13, 14, 15, 16, 17, 18, 19, 20, 21, 22, 23, 24, 25, 26, 27, 28, 29, 30, 31, 32, 33, 34, 35, 36, 37, 38, 39, 40, 41, 42, 43, 44, 45, 46, 47, 48, 49, 50, 51, 52, 53, 54, 55, 56, 57, 58, 59, 60, 61, 62, 63, 64, 65, 66, 67, 68, 69, 70, 71, 72, 73, 74, 75, 76, 77, 78, 79, 80, 81, 82, 83, 84, 85, 86, 87, 88, 89, 90, 91, 92, 93, 94, 95, 96, 97] (by decide +kernel) (by decide +kernel)
set_option maxRecDepth 20000 in
theorem gX12_feed_X12_put : GoodIn wsX12_feed (wsV RX12 205 RX12 yX12_put wsX12_put) := goodIn_app (goodIn_of _ (by decide +kernel)) ggX12_feed_X12_put
set_option maxRecDepth 20000 in
theorem ggX12_fits_X12_counts : GoodIn wsX12_fits wsX12_counts := goodIn_r _ [11, 3, 12, 13, 14, 15, 16, 17, 18, 19, 20, 6, 21, 22, 23, 24, 25, 26, 27, 28, 29, 30, 31, 32, 33, 34, 35, 36, 37, 38, 39, 40, 41, 42, 43, 44, 45, 46, 47, 48, 49, 50, 51, 52, 53, 54, 55, 56, 57, 58, 59, 60, 61, 62, 63, 64, 65, 66, 67, 68, 69, 70, 71, 72, 73, 74, 75, 76, 77, 78, 79, 80, 81, 82, 83, 84, 85, 86, 87, 88, 89, 90, 91, 92, 93, 94, 95, 96, 97, 98, 99, 100, 101, 102, 103, 104, 105, 106, 107, 108, 109, 110, 111, 112, 113, 114, 115, 116, 117, 118, 119, 120, 121] (by decide +kernel) (by decide +kernel)
set_option maxRecDepth 20000 in
theorem gX12_fits_X12_counts : GoodIn wsX12_fits (wsV RX12 543 RX12 yX12_counts wsX12_counts) := goodIn_app (goodIn_of _ (by decide +kernel)) ggX12_fits_X12_counts
set_option maxRecDepth 20000 in
theorem ggX12_fits_X12_in : GoodIn wsX12_fits wsX12_in := goodIn_r _ [7] (by decide +kernel) (by decide +kernel)
set_option maxRecDepth 20000 in
theorem gX12_fits_X12_in : GoodIn wsX12_fits (va_wsS RX12 333 yX12_in wsX12_in) := goodIn_app (goodIn_of _ (by decide +kernel)) ggX12_fits_X12_in
set_option maxRecDepth 20000 in
theorem ggX12_get_X12_isMan : GoodIn wsX12_get wsX12_isMan := goodIn_r _ [5, 6, 7, 8, 9, 4, 10, 11, 12, 13, 14, 15, 16, 17, 18, 19, 20, 21, 22, 23, 24, 25, 26, 27, 28, 29, 30, 31, 32, 33, 34, 35, 36, 37, 38, 39, 40, 41, 42, 43, 44, 45, 46, 47, 48, 49, 50, 51, 52, 53, 54, 55, 56, 57, 58, 59, 60, 61, 62, 63, 64, 65, 66, 67, 68, 69, 70, 71, 72, 73, 74, 75, 76, 77, 78, 79, 80, 81, 82, 83, 84, 85, 86, 87, 88, 89, 90, 91, 92, 93, 94, 95, 96, 97, 98, 99, 100] (by decide +kernel) (by decide +kernel)
set_option maxRecDepth 20000 in
theorem gX12_get_X12_isMan : GoodIn wsX12_get (wsV RX12 356 RX12 yX12_isMan wsX12_isMan) := goodIn_app (goodIn_of _ (by decide +kernel)) ggX12_get_X12_isMan
set_option maxRecDepth 20000 in
theorem ggX12_go_X12_isMan : GoodIn wsX12_go wsX12_isMan := goodIn_r _ [5, 6, 7, 8, 9, 4, 10, 11, 12, 13, 14, 15, 16, 17, 18, 19, 20, 21, 22, 23, 24, 25, 26, 27, 28, 29, 30, 31, 32, 33, 34, 35, 36, 37, 38, 39, 40, 41, 42, 43, 44, 45, 46, 47, 48, 49, 50, 51, 52, 53, 54, 55, 56, 57, 58, 59, 60, 61, 62, 63, 64, 65, 66, 67, 68, 69, 70, 71, 72, 73, 74, 75, 76, 77, 78, 79, 80, 81, 82, 83, 84, 85, 86, 87, 88, 89, 90, 91, 92, 93, 94, 95, 96, 97, 98, 99, 100] (by decide +kernel) (by decide +kernel)
set_option maxRecDepth 20000 in
theorem gX12_go_X12_isMan : GoodIn wsX12_go (wsV RX12 356 RX12 yX12_isMan wsX12_isMan) := goodIn_app (goodIn_of _ (by decide +kernel)) ggX12_go_X12_isMan
set_option maxRecDepth 20000 in
theorem ggX12_has_X12_isMan : GoodIn wsX12_has wsX12_isMan := goodIn_r _ [5, 6, 7, 8, 9, 4, 10, 11, 12, 13, 14, 15, 16, 17, 18, 19, 20, 21, 22, 23, 24, 25, 26, 27, 28, 29, 30, 31, 32, 33, 34, 35, 36, 37, 38, 39, 40, 41, 42, 43, 44, 45, 46, 47, 48, 49, 50, 51, 52, 53, 54, 55, 56, 57, 58, 59, 60, 61, 62, 63, 64, 65, 66, 67, 68, 69, 70, 71, 72, 73, 74, 75, 76, 77, 78, 79, 80, 81, 82, 83, 84, 85, 86, 87, 88, 89, 90, 91, 92, 93, 94, 95, 96, 97, 98, 99, 100] (by decide +kernel) (by decide +kernel)
set_option maxRecDepth 20000 in
theorem gX12_has_X12_isMan : GoodIn wsX12_has (wsV RX12 356 RX12 yX12_isMan wsX12_isMan) := goodIn_app (goodIn_of _ (by decide +kernel)) ggX12_has_X12_isMan
set_option maxRecDepth 20000 in
theorem ggX12_helps_X12_isSort : GoodIn wsX12_helps wsX12_isSort := goodIn_r _ [6, 7, 1, 8, 9, 5, 10, 11, 12, 13, 14, 15, 16, 17, 18, 19, 20, 21, 22, 23, 24, 25, 26, 27, 28, 29, 30, 31, 32, 33, 34, 35, 36, 37, 38, 39, 40, 41, 42, 43, 44, 45, 46, 47, 48, 49, 50, 51, 52, 53, 54, 55, 56, 57, 58, 59, 60, 61, 62, 63, 64, 65, 66, 67, 68, 69, 70, 71, 72, 73, 74, 75, 76, 77, 78, 79, 80, 81, 82, 83, 84, 85, 86, 87, 88, 89, 90, 91, 92, 93, 94, 95, 96, 97, 98, 99, 100] (by decide +kernel) (by decide +kernel)
set_option maxRecDepth 20000 in
theorem gX12_helps_X12_isSort : GoodIn wsX12_helps (wsV RX12 353 RX12 yX12_isSort wsX12_isSort) := goodIn_app (goodIn_of _ (by decide +kernel)) ggX12_helps_X12_isSort
set_option maxRecDepth 20000 in
theorem ggX12_hold_X12_in : GoodIn wsX12_hold wsX12_in := goodIn_r _ [7] (by decide +kernel) (by decide +kernel)
set_option maxRecDepth 20000 in
theorem gX12_hold_X12_in : GoodIn wsX12_hold (va_wsS RX12 333 yX12_in wsX12_in) := goodIn_app (goodIn_of _ (by decide +kernel)) ggX12_hold_X12_in
set_option maxRecDepth 20000 in
theorem ggX12_inReach_X12_isMan : GoodIn wsX12_inReach wsX12_isMan := goodIn_r _ [6, 7, 1, 8, 9, 5, 10, 11, 12, 13, 14, 15, 16, 17, 18, 19, 20, 21, 22, 23, 24, 25, 26, 27, 28, 29, 30, 31, 32, 33, 34, 35, 36, 37, 38, 39, 40, 41, 42, 43, 44, 45, 46, 47, 48, 49, 50, 51, 52, 53, 54, 55, 56, 57, 58, 59, 60, 61, 62, 63, 64, 65, 66, 67, 68, 69, 70, 71, 72, 73, 74, 75, 76, 77, 78, 79, 80, 81, 82, 83, 84, 85, 86, 87, 88, 89, 90, 91, 92, 93, 94, 95, 96, 97, 98, 99, 100] (by decide +kernel) (by decide +kernel)
set_option maxRecDepth 20000 in
theorem gX12_inReach_X12_isMan : GoodIn wsX12_inReach (wsV RX12 356 RX12 yX12_isMan wsX12_isMan) := goodIn_app (goodIn_of _ (by decide +kernel)) ggX12_inReach_X12_isMan
set_option maxRecDepth 20000 in
theorem ggX12_init_X12_appends : GoodIn wsX12_init wsX12_appends := goodIn_r _ [73, 74] (by decide +kernel) (by decide +kernel)
set_option maxRecDepth 20000 in
theorem gX12_init_X12_appends : GoodIn wsX12_init (va_wsS RX12 198 yX12_appends wsX12_appends) := goodIn_app (goodIn_of _ (by decide +kernel)) ggX12_init_X12_appends
set_option maxRecDepth 20000 in
theorem ggX12_init_X12_word : GoodIn wsX12_init wsX12_word := goodIn_r _ [70, 71, 72, 69, 73, 74] (by decide +kernel) (by decide +kernel)
set_option maxRecDepth 20000 in
theorem gX12_init_X12_word : GoodIn wsX12_init (va_wsS RX12 194 yX12_word wsX12_word) := goodIn_app (goodIn_of _ (by decide +kernel)) ggX12_init_X12_word
set_option maxRecDepth 20000 in
theorem ggX12_isHouse_X12_in : GoodIn wsX12_isHouse wsX12_in := goodIn_r _ [6] (by decide +kernel) (by decide +kernel)
set_option maxRecDepth 20000 in
theorem gX12_isHouse_X12_in : GoodIn wsX12_isHouse (va_wsS RX12 333 yX12_in wsX12_in) := goodIn_app (goodIn_of _ (by decide +kernel)) ggX12_isHouse_X12_in
set_option maxRecDepth 20000 in
theorem ggX12_isMan_X12_in : GoodIn wsX12_isMan wsX12_in := goodIn_r _ [6] (by decide +kernel) (by decide +kernel)
set_option maxRecDepth 20000 in
theorem gX12_isMan_X12_in : GoodIn wsX12_isMan (va_wsS RX12 333 yX12_in wsX12_in) := goodIn_app (goodIn_of _ (by decide +kernel)) ggX12_isMan_X12_in
set_option maxRecDepth 20000 in
theorem ggX12_isSort_X12_in : GoodIn wsX12_isSort wsX12_in := goodIn_r _ [6] (by decide +kernel) (by decide +kernel)
set_option maxRecDepth 20000 in
theorem gX12_isSort_X12_in : GoodIn wsX12_isSort (va_wsS RX12 333 yX12_in wsX12_in) := goodIn_app (goodIn_of _ (by decide +kernel)) ggX12_isSort_X12_in
set_option maxRecDepth 20000 in
theorem ggX12_man_X12_isMan : GoodIn wsX12_man wsX12_isMan := goodIn_r _ [5, 6, 7, 8, 9, 4, 10, 11, 12, 13, 14, 15, 16, 17, 18, 19, 20, 21, 22, 23, 24, 25, 26, 27, 28, 29, 30, 31, 32, 33, 34, 35, 36, 37, 38, 39, 40, 41, 42, 43, 44, 45, 46, 47, 48, 49, 50, 51, 52, 53, 54, 55, 56, 57, 58, 59, 60, 61, 62, 63, 64, 65, 66, 67, 68, 69, 70, 71, 72, 73, 74, 75, 76, 77, 78, 79, 80, 81, 82, 83, 84, 85, 86, 87, 88, 89, 90, 91, 92, 93, 94, 95, 96, 97, 98, 99, 100] (by decide +kernel) (by decide +kernel)
set_option maxRecDepth 20000 in
theorem gX12_man_X12_isMan : GoodIn wsX12_man (wsV RX12 356 RX12 yX12_isMan wsX12_isMan) := goodIn_app (goodIn_of _ (by decide +kernel)) ggX12_man_X12_isMan
set_option maxRecDepth 20000 in
theorem ggX12_may_X12_isMan : GoodIn wsX12_may wsX12_isMan := goodIn_r _ [5, 6, 7, 8, 9, 4, 10, 11, 12, 13, 14, 15, 16, 17, 18, 19, 20, 21, 22, 23, 24, 25, 26, 27, 28, 29, 30, 31, 32, 33, 34, 35, 36, 37, 38, 39, 40, 41, 42, 43, 44, 45, 46, 47, 48, 49, 50, 51, 52, 53, 54, 55, 56, 57, 58, 59, 60, 61, 62, 63, 64, 65, 66, 67, 68, 69, 70, 71, 72, 73, 74, 75, 76, 77, 78, 79, 80, 81, 82, 83, 84, 85, 86, 87, 88, 89, 90, 91, 92, 93, 94, 95, 96, 97, 98, 99, 100] (by decide +kernel) (by decide +kernel)
set_option maxRecDepth 20000 in
theorem gX12_may_X12_isMan : GoodIn wsX12_may (wsV RX12 356 RX12 yX12_isMan wsX12_isMan) := goodIn_app (goodIn_of _ (by decide +kernel)) ggX12_may_X12_isMan
set_option maxRecDepth 20000 in
theorem ggX12_meet_X12_isMan : GoodIn wsX12_meet wsX12_isMan := goodIn_r _ [6, 7, 1, 8, 9, 5, 10, 11, 12, 13, 14, 15, 16, 17, 18, 19, 20, 21, 22, 23, 24, 25, 26, 27, 28, 29, 30, 31, 32, 33, 34, 35, 36, 37, 38, 39, 40, 41, 42, 43, 44, 45, 46, 47, 48, 49, 50, 51, 52, 53, 54, 55, 56, 57, 58, 59, 60, 61, 62, 63, 64, 65, 66, 67, 68, 69, 70, 71, 72, 73, 74, 75, 76, 77, 78, 79, 80, 81, 82, 83, 84, 85, 86, 87, 88, 89, 90, 91, 92, 93, 94, 95, 96, 97, 98, 99, 100] (by decide +kernel) (by decide +kernel)
set_option maxRecDepth 20000 in
theorem gX12_meet_X12_isMan : GoodIn wsX12_meet (wsV RX12 356 RX12 yX12_isMan wsX12_isMan) := goodIn_app (goodIn_of _ (by decide +kernel)) ggX12_meet_X12_isMan
set_option maxRecDepth 20000 in
theorem ggX12_most_X12_isMan : GoodIn wsX12_most wsX12_isMan := goodIn_r _ [5, 6, 7, 8, 9, 4, 10, 11, 12, 13, 14, 15, 16, 17, 18, 19, 20, 21, 22, 23, 24, 25, 26, 27, 28, 29, 30, 31, 32, 33, 34, 35, 36, 37, 38, 39, 40, 41, 42, 43, 44, 45, 46, 47, 48, 49, 50, 51, 52, 53, 54, 55, 56, 57, 58, 59, 60, 61, 62, 63, 64, 65, 66, 67, 68, 69, 70, 71, 72, 73, 74, 75, 76, 77, 78, 79, 80, 81, 82, 83, 84, 85, 86, 87, 88, 89, 90, 91, 92, 93, 94, 95, 96, 97, 98, 99, 100] (by decide +kernel) (by decide +kernel)
set_option maxRecDepth 20000 in
theorem gX12_most_X12_isMan : GoodIn wsX12_most (wsV RX12 356 RX12 yX12_isMan wsX12_isMan) := goodIn_app (goodIn_of _ (by decide +kernel)) ggX12_most_X12_isMan
set_option maxRecDepth 20000 in
theorem ggX12_read_X12_begins : GoodIn wsX12_read wsX12_begins := goodIn_r _ [49, 50, 17, 7, 13, 51, 52, 53, 54, 55, 56, 57, 58, 59, 60, 61, 62, 63, 64, 65, 66, 67, 68, 69, 70, 71, 72, 73, 74, 75, 76, 77, 78, 79, 80, 81, 82, 83, 84, 85, 86, 87, 88, 89, 90, 91, 92, 93, 94, 95, 96, 97, 98, 99, 100, 101, 102, 103, 104, 105, 106, 107, 108, 109, 110, 111, 112, 113, 114, 115, 116, 117, 118, 119, 120, 121, 122, 123, 124, 125, 126, 127, 128, 129, 130, 131, 132, 133, 134, 135, 136, 137, 138, 139, 140] (by decide +kernel) (by decide +kernel)
set_option maxRecDepth 20000 in
theorem gX12_read_X12_begins : GoodIn wsX12_read (wsV RX12 278 RX12 yX12_begins wsX12_begins) := goodIn_app (goodIn_of _ (by decide +kernel)) ggX12_read_X12_begins
set_option maxRecDepth 20000 in
theorem ggX12_read_X12_cut : GoodIn wsX12_read wsX12_cut := goodIn_r _ [28, 29, 2, 30, 31, 32, 27, 33, 34, 35, 36, 37, 38, 39, 40, 41, 51, 52, 53, 54, 55, 56, 57, 58, 59, 60, 61, 62, 63, 64, 65, 66, 67, 68, 69, 70, 71, 72, 73, 74, 75, 76, 77, 78, 79, 80, 81, 82, 83, 84, 85, 86, 87, 88, 89, 90, 91, 92, 93, 94, 95, 96, 97, 98, 99, 100, 101, 102, 103, 104, 105, 106, 107, 108, 109, 110, 111, 112, 113, 114, 115, 116, 117, 118, 119, 120, 121, 122, 123, 124, 125, 126, 127, 128, 129, 130, 131, 132, 133, 134, 135, 136, 137, 138, 139, 140] (by decide +kernel) (by decide +kernel)
set_option maxRecDepth 20000 in
theorem gX12_read_X12_cut : GoodIn wsX12_read (wsV RX12 260 RX12 yX12_cut wsX12_cut) := goodIn_app (goodIn_of _ (by decide +kernel)) ggX12_read_X12_cut
set_option maxRecDepth 20000 in
theorem ggX12_read_X12_is : GoodIn wsX12_read wsX12_is := goodIn_r _ [45, 5, 38, 3, 51, 52, 53, 54, 55, 56, 57, 58, 59, 60, 61, 62, 63, 64, 65, 66, 67, 68, 69, 70, 71, 72, 73, 74, 75, 76, 77, 78, 79, 80, 81, 82, 83, 84, 85, 86, 87, 88, 89, 90, 91, 92, 93, 94, 95, 96, 97, 98, 99, 100, 101, 102, 103, 104, 105, 106, 107, 108, 109, 110, 111, 112, 113, 114, 115, 116, 117, 118, 119, 120, 121, 122, 123, 124, 125, 126, 127, 128, 129, 130, 131, 132, 133, 134, 135, 136, 137, 138, 139, 140] (by decide +kernel) (by decide +kernel)
set_option maxRecDepth 20000 in
theorem gX12_read_X12_is : GoodIn wsX12_read (wsV RX12 254 RX12 yX12_is wsX12_is) := goodIn_app (goodIn_of _ (by decide +kernel)) ggX12_read_X12_is
set_option maxRecDepth 20000 in
theorem ggX12_rest_X12_in : GoodIn wsX12_rest wsX12_in := goodIn_r _ [7] (by decide +kernel) (by decide +kernel)
set_option maxRecDepth 20000 in
theorem gX12_rest_X12_in : GoodIn wsX12_rest (va_wsS RX12 333 yX12_in wsX12_in) := goodIn_app (goodIn_of _ (by decide +kernel)) ggX12_rest_X12_in
set_option maxRecDepth 20000 in
theorem ggX12_restore_X12_in : GoodIn wsX12_restore wsX12_in := goodIn_r _ [5] (by decide +kernel) (by decide +kernel)
set_option maxRecDepth 20000 in
theorem gX12_restore_X12_in : GoodIn wsX12_restore (va_wsS RX12 333 yX12_in wsX12_in) := goodIn_app (goodIn_of _ (by decide +kernel)) ggX12_restore_X12_in
set_option maxRecDepth 20000 in
theorem ggX12_riches_X12_isHouse : GoodIn wsX12_riches wsX12_isHouse := goodIn_r _ [7, 1, 2, 8, 9, 6, 10, 11, 12, 13, 14, 15, 16, 17, 18, 19, 20, 21, 22, 23, 24, 25, 26, 27, 28, 29, 30, 31, 32, 33, 34, 35, 36, 37, 38, 39, 40, 41, 42, 43, 44, 45, 46, 47, 48, 49, 50, 51, 52, 53, 54, 55, 56, 57, 58, 59, 60, 61, 62, 63, 64, 65, 66, 67, 68, 69, 70, 71, 72, 73, 74, 75, 76, 77, 78, 79, 80, 81, 82, 83, 84, 85, 86, 87, 88, 89, 90, 91, 92, 93, 94, 95, 96, 97, 98, 99, 100] (by decide +kernel) (by decide +kernel)
set_option maxRecDepth 20000 in
theorem gX12_riches_X12_isHouse : GoodIn wsX12_riches (wsV RX12 347 RX12 yX12_isHouse wsX12_isHouse) := goodIn_app (goodIn_of _ (by decide +kernel)) ggX12_riches_X12_isHouse
set_option maxRecDepth 20000 in
theorem ggX12_rid_X12_isMan : GoodIn wsX12_rid wsX12_isMan := goodIn_r _ [5, 6, 7, 8, 9, 4, 10, 11, 12, 13, 14, 15, 16, 17, 18, 19, 20, 21, 22, 23, 24, 25, 26, 27, 28, 29, 30, 31, 32, 33, 34, 35, 36, 37, 38, 39, 40, 41, 42, 43, 44, 45, 46, 47, 48, 49, 50, 51, 52, 53, 54, 55, 56, 57, 58, 59, 60, 61, 62, 63, 64, 65, 66, 67, 68, 69, 70, 71, 72, 73, 74, 75, 76, 77, 78, 79, 80, 81, 82, 83, 84, 85, 86, 87, 88, 89, 90, 91, 92, 93, 94, 95, 96, 97, 98, 99, 100] (by decide +kernel) (by decide +kernel)
set_option maxRecDepth 20000 in
theorem gX12_rid_X12_isMan : GoodIn wsX12_rid (wsV RX12 356 RX12 yX12_isMan wsX12_isMan) := goodIn_app (goodIn_of _ (by decide +kernel)) ggX12_rid_X12_isMan
set_option maxRecDepth 20000 in
theorem ggX12_round_X12_isMan : GoodIn wsX12_round wsX12_isMan := goodIn_r _ [6, 7, 1, 8, 9, 5, 10, 11, 12, 13, 14, 15, 16, 17, 18, 19, 20, 21, 22, 23, 24, 25, 26, 27, 28, 29, 30, 31, 32, 33, 34, 35, 36, 37, 38, 39, 40, 41, 42, 43, 44, 45, 46, 47, 48, 49, 50, 51, 52, 53, 54, 55, 56, 57, 58, 59, 60, 61, 62, 63, 64, 65, 66, 67, 68, 69, 70, 71, 72, 73, 74, 75, 76, 77, 78, 79, 80, 81, 82, 83, 84, 85, 86, 87, 88, 89, 90, 91, 92, 93, 94, 95, 96, 97, 98, 99, 100] (by decide +kernel) (by decide +kernel)
set_option maxRecDepth 20000 in
theorem gX12_round_X12_isMan : GoodIn wsX12_round (wsV RX12 356 RX12 yX12_isMan wsX12_isMan) := goodIn_app (goodIn_of _ (by decide +kernel)) ggX12_round_X12_isMan
set_option maxRecDepth 20000 in
theorem ggX12_see_X12_isHouse : GoodIn wsX12_see wsX12_isHouse := goodIn_r _ [6, 7, 8, 9, 10, 5, 11, 12, 13, 14, 15, 16, 17, 18, 19, 20, 21, 22, 23, 24, 25, 26, 27, 28, 29, 30, 31, 32, 33, 34, 35, 36, 37, 38, 39, 40, 41, 42, 43, 44, 45, 46, 47, 48, 49, 50, 51, 52, 53, 54, 55, 56, 57, 58, 59, 60, 61, 62, 63, 64, 65, 66, 67, 68, 69, 70, 71, 72, 73, 74, 75, 76, 77, 78, 79, 80, 81, 82, 83, 84, 85, 86, 87, 88, 89, 90, 91, 92, 93, 94, 95, 96, 97, 98, 99, 100, 101] (by decide +kernel) (by decide +kernel)
set_option maxRecDepth 20000 in
theorem gX12_see_X12_isHouse : GoodIn wsX12_see (wsV RX12 347 RX12 yX12_isHouse wsX12_isHouse) := goodIn_app (goodIn_of _ (by decide +kernel)) ggX12_see_X12_isHouse
set_option maxRecDepth 20000 in
theorem ggX12_step_X12_canAsk : GoodIn wsX12_step wsX12_canAsk := goodIn_r _ [5, 6, 7, 8, 4, 9, 10, 11, 12, 13, 14, 15, 16, 17, 18, 19, 20, 21, 22, 23, 24, 25, 26, 27, 28, 29, 30, 31, 32, 33, 34, 35, 36, 37, 38, 39, 40, 41, 42, 43, 44, 45, 46, 47, 48, 49, 50, 51, 52, 53, 54, 55, 56, 57, 58, 59, 60, 61, 62, 63, 64, 65, 66, 67, 68, 69, 70, 71, 72, 73, 74, 75, 76, 77, 78, 79, 80, 81, 82, 83, 84, 85, 86, 87, 88, 89, 90, 91, 92, 93, 94, 95, 96, 97, 98, 99, 100, 101, 102, 103, 104] (by decide +kernel) (by decide +kernel)
set_option maxRecDepth 20000 in
theorem gX12_step_X12_canAsk : GoodIn wsX12_step (wsV RX12 445 RX12 yX12_canAsk wsX12_canAsk) := goodIn_app (goodIn_of _ (by decide +kernel)) ggX12_step_X12_canAsk
set_option maxRecDepth 20000 in
theorem ggX12_table_X12_isHouse : GoodIn wsX12_table wsX12_isHouse := goodIn_r _ [5, 6, 7, 8, 9, 4, 10, 11, 12, 13, 14, 15, 16, 17, 18, 19, 20, 21, 22, 23, 24, 25, 26, 27, 28, 29, 30, 31, 32, 33, 34, 35, 36, 37, 38, 39, 40, 41, 42, 43, 44, 45, 46, 47, 48, 49, 50, 51, 52, 53, 54, 55, 56, 57, 58, 59, 60, 61, 62, 63, 64, 65, 66, 67, 68, 69, 70, 71, 72, 73, 74, 75, 76, 77, 78, 79, 80, 81, 82, 83, 84, 85, 86, 87, 88, 89, 90, 91, 92, 93, 94, 95, 96, 97, 98, 99, 100] (by decide +kernel) (by decide +kernel)
set_option maxRecDepth 20000 in
theorem gX12_table_X12_isHouse : GoodIn wsX12_table (wsV RX12 347 RX12 yX12_isHouse wsX12_isHouse) := goodIn_app (goodIn_of _ (by decide +kernel)) ggX12_table_X12_isHouse
set_option maxRecDepth 20000 in
theorem ggX12_turned_X12_isSort : GoodIn wsX12_turned wsX12_isSort := goodIn_r _ [6, 7, 1, 8, 9, 5, 10, 11, 12, 13, 14, 15, 16, 17, 18, 19, 20, 21, 22, 23, 24, 25, 26, 27, 28, 29, 30, 31, 32, 33, 34, 35, 36, 37, 38, 39, 40, 41, 42, 43, 44, 45, 46, 47, 48, 49, 50, 51, 52, 53, 54, 55, 56, 57, 58, 59, 60, 61, 62, 63, 64, 65, 66, 67, 68, 69, 70, 71, 72, 73, 74, 75, 76, 77, 78, 79, 80, 81, 82, 83, 84, 85, 86, 87, 88, 89, 90, 91, 92, 93, 94, 95, 96, 97, 98, 99, 100] (by decide +kernel) (by decide +kernel)
set_option maxRecDepth 20000 in
theorem gX12_turned_X12_isSort : GoodIn wsX12_turned (wsV RX12 353 RX12 yX12_isSort wsX12_isSort) := goodIn_app (goodIn_of _ (by decide +kernel)) ggX12_turned_X12_isSort
set_option maxRecDepth 20000 in
theorem ggX12_visitors_X12_isHouse : GoodIn wsX12_visitors wsX12_isHouse := goodIn_r _ [6, 7, 1, 8, 9, 5, 10, 11, 12, 13, 14, 15, 16, 17, 18, 19, 20, 21, 22, 23, 24, 25, 26, 27, 28, 29, 30, 31, 32, 33, 34, 35, 36, 37, 38, 39, 40, 41, 42, 43, 44, 45, 46, 47, 48, 49, 50, 51, 52, 53, 54, 55, 56, 57, 58, 59, 60, 61, 62, 63, 64, 65, 66, 67, 68, 69, 70, 71, 72, 73, 74, 75, 76, 77, 78, 79, 80, 81, 82, 83, 84, 85, 86, 87, 88, 89, 90, 91, 92, 93, 94, 95, 96, 97, 98, 99, 100] (by decide +kernel) (by decide +kernel)
set_option maxRecDepth 20000 in
theorem gX12_visitors_X12_isHouse : GoodIn wsX12_visitors (wsV RX12 347 RX12 yX12_isHouse wsX12_isHouse) := goodIn_app (goodIn_of _ (by decide +kernel)) ggX12_visitors_X12_isHouse
set_option maxRecDepth 20000 in
theorem ggX12_way_X12_canAsk : GoodIn wsX12_way wsX12_canAsk := goodIn_r _ [5, 6, 7, 8, 4, 9, 10, 11, 12, 13, 14, 15, 16, 17, 18, 19, 20, 21, 22, 23, 24, 25, 26, 27, 28, 29, 30, 31, 32, 33, 34, 35, 36, 37, 38, 39, 40, 41, 42, 43, 44, 45, 46, 47, 48, 49, 50, 51, 52, 53, 54, 55, 56, 57, 58, 59, 60, 61, 62, 63, 64, 65, 66, 67, 68, 69, 70, 71, 72, 73, 74, 75, 76, 77, 78, 79, 80, 81, 82, 83, 84, 85, 86, 87, 88, 89, 90, 91, 92, 93, 94, 95, 96, 97, 98, 99, 100, 101, 102, 103, 104] (by decide +kernel) (by decide +kernel)
set_option maxRecDepth 20000 in
theorem gX12_way_X12_canAsk : GoodIn wsX12_way (wsV RX12 445 RX12 yX12_canAsk wsX12_canAsk) := goodIn_app (goodIn_of _ (by decide +kernel)) ggX12_way_X12_canAsk
set_option maxRecDepth 20000 in
theorem ggX12_word_X12_appends : GoodIn wsX12_word wsX12_appends := goodIn_r _ [4, 5] (by decide +kernel) (by decide +kernel)
set_option maxRecDepth 20000 in
theorem gX12_word_X12_appends : GoodIn wsX12_word (va_wsS RX12 198 yX12_appends wsX12_appends) := goodIn_app (goodIn_of _ (by decide +kernel)) ggX12_word_X12_appends
set_option maxRecDepth 20000 in
theorem ggX12_worth_X12_isSort : GoodIn wsX12_worth wsX12_isSort := goodIn_r _ [6, 7, 1, 8, 9, 5, 10, 11, 12, 13, 14, 15, 16, 17, 18, 19, 20, 21, 22, 23, 24, 25, 26, 27, 28, 29, 30, 31, 32, 33, 34, 35, 36, 37, 38, 39, 40, 41, 42, 43, 44, 45, 46, 47, 48, 49, 50, 51, 52, 53, 54, 55, 56, 57, 58, 59, 60, 61, 62, 63, 64, 65, 66, 67, 68, 69, 70, 71, 72, 73, 74, 75, 76, 77, 78, 79, 80, 81, 82, 83, 84, 85, 86, 87, 88, 89, 90, 91, 92, 93, 94, 95, 96, 97, 98, 99, 100] (by decide +kernel) (by decide +kernel)
set_option maxRecDepth 20000 in
theorem gX12_worth_X12_isSort : GoodIn wsX12_worth (wsV RX12 353 RX12 yX12_isSort wsX12_isSort) := goodIn_app (goodIn_of _ (by decide +kernel)) ggX12_worth_X12_isSort
set_option maxRecDepth 20000 in
theorem ggX12_year_X12_in : GoodIn wsX12_year wsX12_in := goodIn_r _ [6] (by decide +kernel) (by decide +kernel)
set_option maxRecDepth 20000 in
theorem gX12_year_X12_in : GoodIn wsX12_year (va_wsS RX12 333 yX12_in wsX12_in) := goodIn_app (goodIn_of _ (by decide +kernel)) ggX12_year_X12_in
set_option maxRecDepth 20000 in
theorem ggX4_begin_J7_fill_53178 : GoodIn wsX4_begin wsJ7_fill_53178 := goodIn_r _ [18] (by decide +kernel) (by decide +kernel)
set_option maxRecDepth 20000 in
theorem gX4_begin_J7_fill_53178 : GoodIn wsX4_begin (va_wsS RX4 45 yJ7_fill_53178 wsJ7_fill_53178) := goodIn_app (goodIn_of _ (by decide +kernel)) ggX4_begin_J7_fill_53178
set_option maxRecDepth 20000 in
theorem ggX5_tellAll_X7_clear : GoodIn wsX5_tellAll wsX7_clear := goodIn_r _ [9, 10, 11, 12, 13, 14, 15, 16, 17, 18, 19, 20, 21, 22, 38, 39, 40, 41, 42, 43, 44, 45, 46, 47, 48, 49, 50, 51, 52, 53, 54, 55] (by decide +kernel) (by decide +kernel)
set_option maxRecDepth 20000 in
theorem gX5_tellAll_X7_clear : GoodIn wsX5_tellAll (wsV RX5 25 RX7 yX7_clear wsX7_clear) := goodIn_app (goodIn_of _ (by decide +kernel)) ggX5_tellAll_X7_clear
set_option maxRecDepth 20000 in
theorem ggX6_check_J7_fill_53178 : GoodIn wsX6_check wsJ7_fill_53178 := goodIn_r _ [14] (by decide +kernel) (by decide +kernel)
set_option maxRecDepth 20000 in
theorem gX6_check_J7_fill_53178 : GoodIn wsX6_check (va_wsS RX6 77 yJ7_fill_53178 wsJ7_fill_53178) := goodIn_app (goodIn_of _ (by decide +kernel)) ggX6_check_J7_fill_53178
set_option maxRecDepth 20000 in
theorem ggX6_check_X6_note : GoodIn wsX6_check wsX6_note := goodIn_r _ [8, 9, 10, 19, 20, 21, 22, 23, 24, 25, 26, 27, 28, 29, 30] (by decide +kernel) (by decide +kernel)
set_option maxRecDepth 20000 in
theorem gX6_check_X6_note : GoodIn wsX6_check (wsV RX6 73 RX6 yX6_note wsX6_note) := goodIn_app (goodIn_of _ (by decide +kernel)) ggX6_check_X6_note
set_option maxRecDepth 20000 in
theorem ggX6_check_X6_pastBlanks : GoodIn wsX6_check wsX6_pastBlanks := goodIn_r _ [18, 3, 19, 20, 21, 22, 23, 24, 25, 26, 27, 28, 29, 30] (by decide +kernel) (by decide +kernel)
set_option maxRecDepth 20000 in
theorem gX6_check_X6_pastBlanks : GoodIn wsX6_check (wsV RX6 83 RX6 yX6_pastBlanks wsX6_pastBlanks) := goodIn_app (goodIn_of _ (by decide +kernel)) ggX6_check_X6_pastBlanks
set_option maxRecDepth 20000 in
theorem ggX6_code_J0_charAt_5068e : GoodIn wsX6_code wsJ0_charAt_5068e := goodIn_r _ [16, 6, 17, 18, 19, 4, 20, 11, 12, 21, 22, 23, 24, 25, 26, 27, 28, 29, 30, 31, 32] (by decide +kernel) (by decide +kernel)
set_option maxRecDepth 20000 in
theorem gX6_code_J0_charAt_5068e : GoodIn wsX6_code (wsV RX6 119 RJ0 yJ0_charAt_5068e wsJ0_charAt_5068e) := goodIn_app (goodIn_of _ (by decide +kernel)) ggX6_code_J0_charAt_5068e
set_option maxRecDepth 20000 in
theorem ggX6_code_J0_length_8abf5 : GoodIn wsX6_code wsJ0_length_8abf5 := goodIn_r _ [5, 6, 7, 8, 9, 4, 10, 11, 12] (by decide +kernel) (by decide +kernel)
set_option maxRecDepth 20000 in
theorem gX6_code_J0_length_8abf5 : GoodIn wsX6_code (wsV RX6 114 RJ0 yJ0_length_8abf5 wsJ0_length_8abf5) := goodIn_app (goodIn_of _ (by decide +kernel)) ggX6_code_J0_length_8abf5
set_option maxRecDepth 20000 in
theorem ggX6_code_X6_codeWith : GoodIn wsX6_code wsX6_codeWith := goodIn_r _ [36, 37] (by decide +kernel) (by decide +kernel)
set_option maxRecDepth 20000 in
theorem gX6_code_X6_codeWith : GoodIn wsX6_code (va_wsS RX6 153 yX6_codeWith wsX6_codeWith) := goodIn_app (goodIn_of _ (by decide +kernel)) ggX6_code_X6_codeWith
set_option maxRecDepth 20000 in
theorem ggX6_init_X6_code : GoodIn wsX6_init wsX6_code := goodIn_r _ [17, 18, 19, 20, 21, 22, 23, 24, 25, 26, 27, 28, 29, 30, 31, 32, 33, 34, 35, 36, 37, 38, 39, 40, 41, 42, 43, 44, 45, 46, 47, 48, 49, 50, 51, 16, 52, 53] (by decide +kernel) (by decide +kernel)
set_option maxRecDepth 20000 in
theorem gX6_init_X6_code : GoodIn wsX6_init (va_wsS RX6 35 yX6_code wsX6_code) := goodIn_app (goodIn_of _ (by decide +kernel)) ggX6_init_X6_code
set_option maxRecDepth 20000 in
theorem ggX7_clear_J7_fill_53178 : GoodIn wsX7_clear wsJ7_fill_53178 := goodIn_r _ [13] (by decide +kernel) (by decide +kernel)
set_option maxRecDepth 20000 in
theorem gX7_clear_J7_fill_53178 : GoodIn wsX7_clear (va_wsS RX7 68 yJ7_fill_53178 wsJ7_fill_53178) := goodIn_app (goodIn_of _ (by decide +kernel)) ggX7_clear_J7_fill_53178
set_option maxRecDepth 20000 in
theorem ggX9_know_J7_fill_53178 : GoodIn wsX9_know wsJ7_fill_53178 := goodIn_r _ [12] (by decide +kernel) (by decide +kernel)
set_option maxRecDepth 20000 in
theorem gX9_know_J7_fill_53178 : GoodIn wsX9_know (va_wsS RX9 41 yJ7_fill_53178 wsJ7_fill_53178) := goodIn_app (goodIn_of _ (by decide +kernel)) ggX9_know_J7_fill_53178
set_option maxRecDepth 20000 in
theorem ggX9_ways_J7_fill_d0a16 : GoodIn wsX9_ways wsJ7_fill_d0a16 := goodIn_r _ [7] (by decide +kernel) (by decide +kernel)
set_option maxRecDepth 20000 in
theorem gX9_ways_J7_fill_d0a16 : GoodIn wsX9_ways (va_wsS RX9 58 yJ7_fill_d0a16 wsJ7_fill_d0a16) := goodIn_app (goodIn_of _ (by decide +kernel)) ggX9_ways_J7_fill_d0a16
set_option maxRecDepth 20000 in
theorem ggX0_init_X4_init : GoodIn wsX0_init wsX4_init := goodIn_r _ [12, 13, 2, 3, 8, 14, 15, 16, 17, 18, 26, 27, 28, 29, 30, 31, 32] (by decide +kernel) (by decide +kernel)
set_option maxRecDepth 20000 in
theorem ggX10_init_X2_init : GoodIn wsX10_init wsX2_init := goodIn_r _ [38, 39, 2, 3, 24, 40, 4, 41, 42, 43, 44, 45, 46] (by decide +kernel) (by decide +kernel)
set_option maxRecDepth 20000 in
theorem ggX10_init_X7_init : GoodIn wsX10_init wsX7_init := goodIn_r _ [22, 23, 2, 3, 24, 25, 26, 27, 4, 28, 29, 30, 31, 32, 33, 34, 35, 36, 47, 48, 49, 50, 51, 52, 53, 54, 55, 56, 57, 58, 59, 60, 61, 62, 63, 64] (by decide +kernel) (by decide +kernel)
set_option maxRecDepth 20000 in
theorem ggX11_init_X0_init : GoodIn wsX11_init wsX0_init := goodIn_r _ [176, 177, 2, 3, 178, 11, 12, 179, 58, 180, 181, 119, 120, 121, 122, 123, 124, 125, 126, 191, 192, 193, 194, 195, 196, 197, 220, 221, 222, 223, 224, 225, 226] (by decide +kernel) (by decide +kernel)
set_option maxRecDepth 20000 in
theorem ggX11_init_X10_init : GoodIn wsX11_init wsX10_init := goodIn_r _ [135, 136, 2, 3, 58, 137, 138, 139, 40, 41, 140, 141, 142, 143, 144, 145, 146, 147, 148, 56, 149, 104, 105, 106, 60, 107, 108, 109, 110, 111, 112, 113, 114, 115, 116, 117, 118, 150, 151, 152, 153, 154, 155, 211, 212, 213, 214, 242, 243, 244, 245, 246, 247, 248, 249, 250, 251, 252, 253, 254, 255, 256, 257, 258, 259, 274, 275, 276, 277, 278, 279, 280, 281, 282, 283, 284, 285, 286, 287, 288, 289, 290, 291] (by decide +kernel) (by decide +kernel)
set_option maxRecDepth 20000 in
theorem ggX11_init_X1_init : GoodIn wsX11_init wsX1_init := goodIn_r _ [164, 165, 2, 3, 58, 166, 167, 168, 169, 170, 171, 172, 173, 174, 198, 199, 200, 201, 202, 203, 204, 205, 206, 207, 208, 209, 210] (by decide +kernel) (by decide +kernel)
set_option maxRecDepth 20000 in
theorem ggX11_init_X3_init : GoodIn wsX11_init wsX3_init := goodIn_r _ [157, 158, 2, 3, 58, 159, 160, 161, 40, 41, 162, 104, 105, 106, 60, 107, 108, 109, 110, 111, 112, 113, 114, 115, 116, 117, 118, 215, 216, 217, 218, 219, 242, 243, 244, 245, 246, 247, 248, 249, 250, 251, 252, 253, 254, 255, 256, 257, 258, 259] (by decide +kernel) (by decide +kernel)
set_option maxRecDepth 20000 in
theorem ggX11_init_X4_init : GoodIn wsX11_init wsX4_init := goodIn_r _ [120, 121, 2, 3, 58, 122, 123, 124, 125, 126, 220, 221, 222, 223, 224, 225, 226] (by decide +kernel) (by decide +kernel)
set_option maxRecDepth 20000 in
theorem ggX11_init_X5_init : GoodIn wsX11_init wsX5_init := goodIn_r _ [44, 45, 2, 3, 46, 47, 48, 49, 50, 40, 41, 51, 52, 53, 54, 55, 56, 57, 58, 59, 60, 61, 62, 63, 64, 65, 66, 67, 68, 69, 70, 71, 72, 73, 74, 75, 76, 77, 78, 79, 80, 81, 82, 83, 84, 85, 86, 87, 88, 89, 90, 91, 92, 93, 94, 95, 96, 97, 98, 99, 100, 101, 102, 103, 104, 105, 106, 107, 108, 109, 110, 111, 112, 113, 114, 115, 116, 117, 118, 227, 228, 229, 230, 231, 232, 233, 234, 235, 236, 237, 238, 239, 240, 241, 242, 243, 244, 245, 246, 247, 248, 249, 250, 251, 252, 253, 254, 255, 256, 257, 258, 259] (by decide +kernel) (by decide +kernel)
set_option maxRecDepth 20000 in
theorem ggX11_init_X7_init : GoodIn wsX11_init wsX7_init := goodIn_r _ [105, 106, 2, 3, 60, 107, 108, 109, 58, 110, 111, 112, 113, 114, 115, 116, 117, 118, 242, 243, 244, 245, 246, 247, 248, 249, 250, 251, 252, 253, 254, 255, 256, 257, 258, 259] (by decide +kernel) (by decide +kernel)
set_option maxRecDepth 20000 in
theorem ggX11_init_X8_init : GoodIn wsX11_init wsX8_init := goodIn_r _ [128, 129, 2, 3, 58, 130, 131, 132, 133, 260, 261, 262, 263, 264, 265] (by decide +kernel) (by decide +kernel)
set_option maxRecDepth 20000 in
theorem ggX11_init_X9_init : GoodIn wsX11_init wsX9_init := goodIn_r _ [183, 184, 2, 3, 58, 185, 186, 187, 188, 60, 189, 190, 266, 267, 268, 269, 270, 271, 272, 273] (by decide +kernel) (by decide +kernel)
set_option maxRecDepth 20000 in
theorem ggX3_init_X7_init : GoodIn wsX3_init wsX7_init := goodIn_r _ [12, 13, 2, 3, 14, 15, 16, 17, 4, 18, 19, 20, 21, 22, 23, 24, 25, 26, 32, 33, 34, 35, 36, 37, 38, 39, 40, 41, 42, 43, 44, 45, 46, 47, 48, 49] (by decide +kernel) (by decide +kernel)
set_option maxRecDepth 20000 in
theorem ggX5_init_X6_init : GoodIn wsX5_init wsX6_init := goodIn_r _ [13, 14, 2, 3, 15, 16, 17, 18, 19, 20, 21, 22, 23, 24, 25, 26, 6, 27, 28, 29, 30, 31, 32, 33, 34, 35, 36, 37, 38, 39, 40, 41, 42, 43, 44, 45, 46, 47, 48, 49, 50, 51, 52, 53, 54, 55, 56, 57, 58, 59, 60, 61, 62, 63, 82, 83, 84, 85, 86, 87, 88, 89, 90, 91, 92, 93] (by decide +kernel) (by decide +kernel)
set_option maxRecDepth 20000 in
theorem ggX5_init_X7_init : GoodIn wsX5_init wsX7_init := goodIn_r _ [65, 66, 2, 3, 20, 67, 68, 69, 18, 70, 71, 72, 73, 74, 75, 76, 77, 78, 94, 95, 96, 97, 98, 99, 100, 101, 102, 103, 104, 105, 106, 107, 108, 109, 110, 111] (by decide +kernel) (by decide +kernel)

def wsL_law_r1 : List Cond := [Cond.classLink RL 7 RX11, Cond.instantiable RX11 11, Cond.initialized RX11, Cond.classLink RL 10 RX12, Cond.instantiable RX12 90, Cond.initialized RX12, Cond.methodLink RL 9 yX11_init, Cond.instanceMethod yX11_init, Cond.code yX11_init cX11_init 2 none, Cond.methodLink RX11 1 objectInit, Cond.instanceMethod objectInit, Cond.code objectInit ⟨#[0xb1]⟩ 1 none, Cond.classLink RX11 7 RX5, Cond.instantiable RX5 3, Cond.initialized RX5, Cond.fieldLink RX11 10 "HallTables" "teller" "LHallTables$Teller;", Cond.fieldLink RX11 16 "HallTables$Teller" "text" "LHallTables$Text;", Cond.fieldLink RX11 20 "HallTables" "text" "LHallTables$Text;", Cond.classLink RX11 21 RX4, Cond.instantiable RX4 7, Cond.initialized RX4, Cond.fieldLink RX11 24 "HallTables" "now" "LHallTables$Stand;", Cond.fieldLink RX11 28 "HallTables" "slots" "[LHallTables$Stand;", Cond.classLink RX11 32 RX8]
def wsL_law_r2 : List Cond := [Cond.instantiable RX8 6, Cond.initialized RX8, Cond.fieldLink RX11 35 "HallTables" "track" "LHallTables$Track;", Cond.classLink RX11 39 RX10, Cond.instantiable RX10 18, Cond.initialized RX10, Cond.fieldLink RX11 42 "HallTables" "ways" "LHallTables$Ways;", Cond.classLink RX11 46 RX3, Cond.instantiable RX3 5, Cond.initialized RX3, Cond.fieldLink RX11 49 "HallTables" "rounds" "LHallTables$Rounds;", Cond.classLink RX11 53 RX1, Cond.instantiable RX1 13, Cond.initialized RX1, Cond.fieldLink RX11 56 "HallTables" "day" "LHallTables$Day;", Cond.classLink RX11 60 RX0, Cond.instantiable RX0 7, Cond.initialized RX0, Cond.fieldLink RX11 63 "HallTables" "chance" "LHallTables$Chance;", Cond.classLink RX11 67 RX9, Cond.instantiable RX9 8, Cond.initialized RX9, Cond.fieldLink RX11 70 "HallTables" "visits" "LHallTables$Visits;", Cond.classLink RX11 74 RX7]
def wsL_law_r3 : List Cond := [Cond.instantiable RX7 18, Cond.initialized RX7, Cond.fieldLink RX11 77 "HallTables" "town" "LHallTables$Town;", Cond.instanceMethod yX5_init, Cond.code yX5_init cX5_init 1 none, Cond.methodLink RX5 3 objectInit, Cond.classLink RX5 9 RX6, Cond.instantiable RX6 12, Cond.initialized RX6, Cond.fieldLink RX5 12 "HallTables$Teller" "text" "LHallTables$Text;", Cond.classLink RX5 18 RX7, Cond.fieldLink RX5 21 "HallTables$Teller" "town" "LHallTables$Town;", Cond.instanceMethod yX6_init, Cond.code yX6_init cX6_init 1 none, Cond.methodLink RX6 3 objectInit, Cond.fieldLink RX6 9 "HallTables$Text" "faultPlace" "I", Cond.arrayClass .byte, Cond.fieldLink RX6 15 "HallTables$Text" "bytes" "[B", Cond.arrayClass .int, Cond.fieldLink RX6 19 "HallTables$Text" "kinds" "[I", Cond.arrayClass .long, Cond.fieldLink RX6 23 "HallTables$Text" "values" "[J", Cond.fieldLink RX6 27 "HallTables$Text" "places" "[I", Cond.fieldLink RX6 30 "HallTables$Text" "told" "[I"]
def wsL_law_r4 : List Cond := [Cond.fieldLink RX6 61 "HallTables$Text" "words" "[J", Cond.methodLink RX6 35 yX6_code, Cond.static yX6_code, Cond.code yX6_code cX6_code 4 (some .long), Cond.methodLink RX6 114 yJ0_length_8abf5, Cond.instanceMethod yJ0_length_8abf5, Cond.selects RJ0 yJ0_length_8abf5 yJ0_length_8abf5, Cond.initialized RJ0, Cond.code yJ0_length_8abf5 cJ0_length_8abf5 1 (some .int), Cond.fieldLink RJ0 9 "java/lang/String" "value" "[B", Cond.methodLink RJ0 335 yJ0_coder_7d493, Cond.instanceMethod yJ0_coder_7d493, Cond.selects RJ0 yJ0_coder_7d493 yJ0_coder_7d493, Cond.code yJ0_coder_7d493 cJ0_coder_7d493 1 (some .byte), Cond.fieldLink RJ0 38 "java/lang/String" "COMPACT_STRINGS" "Z", Cond.fieldLink RJ0 15 "java/lang/String" "coder" "B", Cond.methodLink RX6 119 yJ0_charAt_5068e, Cond.instanceMethod yJ0_charAt_5068e, Cond.selects RJ0 yJ0_charAt_5068e yJ0_charAt_5068e, Cond.code yJ0_charAt_5068e cJ0_charAt_5068e 2 (some .char), Cond.methodLink RJ0 492 yJ0_isLatin1_aae02, Cond.instanceMethod yJ0_isLatin1_aae02, Cond.selects RJ0 yJ0_isLatin1_aae02 yJ0_isLatin1_aae02, Cond.code yJ0_isLatin1_aae02 cJ0_isLatin1_aae02 1 (some .boolean)]
def wsL_law_r5 : List Cond := [Cond.methodLink RJ0 495 yJ1_charAt_3b067, Cond.static yJ1_charAt_3b067, Cond.initialized RJ1, Cond.code yJ1_charAt_3b067 cJ1_charAt_3b067 2 (some .char), Cond.methodLink RJ1 9 yJ0_checkIndex_df160, Cond.static yJ0_checkIndex_df160, Cond.code yJ0_checkIndex_df160 cJ0_checkIndex_df160 2 none, Cond.fieldLink RJ0 1053 "jdk/internal/util/Preconditions" "SIOOBE_FORMATTER" "Ljava/util/function/BiFunction;", Cond.methodLink RJ0 1059 yJ3_checkIndex_8e157, Cond.static yJ3_checkIndex_8e157, Cond.initialized RJ3, Cond.code yJ3_checkIndex_8e157 cJ3_checkIndex_8e157 3 (some .int), Cond.methodLink RJ0 498 yJ2_charAt_3b067, Cond.static yJ2_charAt_3b067, Cond.initialized RJ2, Cond.code yJ2_charAt_3b067 cJ2_charAt_3b067 2 (some .char), Cond.methodLink RJ2 67 yJ2_checkIndex_2214a, Cond.static yJ2_checkIndex_2214a, Cond.code yJ2_checkIndex_2214a cJ2_checkIndex_2214a 2 none, Cond.methodLink RJ2 48 yJ2_length_9d52b, Cond.static yJ2_length_9d52b, Cond.code yJ2_length_9d52b cJ2_length_9d52b 1 (some .int), Cond.methodLink RJ2 414 yJ0_checkIndex_df160, Cond.methodLink RJ2 71 yJ2_getChar_3b067]
def wsL_law_r6 : List Cond := [Cond.static yJ2_getChar_3b067, Cond.code yJ2_getChar_3b067 cJ2_getChar_3b067 2 (some .char), Cond.fieldLink RJ2 44 "java/lang/StringUTF16" "$assertionsDisabled" "Z", Cond.fieldLink RJ2 59 "java/lang/StringUTF16" "HI_BYTE_SHIFT" "I", Cond.fieldLink RJ2 63 "java/lang/StringUTF16" "LO_BYTE_SHIFT" "I", Cond.methodLink RX6 153 yX6_codeWith, Cond.static yX6_codeWith, Cond.code yX6_codeWith cX6_codeWith 3 (some .long), Cond.constantLong RX6 159 (27), Cond.instanceMethod yX7_init, Cond.code yX7_init cX7_init 1 none, Cond.methodLink RX7 3 objectInit, Cond.fieldLink RX7 9 "HallTables$Town" "sortNames" "[J", Cond.fieldLink RX7 15 "HallTables$Town" "houseNames" "[J", Cond.fieldLink RX7 18 "HallTables$Town" "manNames" "[J", Cond.fieldLink RX7 21 "HallTables$Town" "plainWorth" "[I", Cond.fieldLink RX7 25 "HallTables$Town" "worth" "[I", Cond.fieldLink RX7 28 "HallTables$Town" "minutes" "[I", Cond.fieldLink RX7 31 "HallTables$Town" "sells" "[I", Cond.fieldLink RX7 34 "HallTables$Town" "table" "[I", Cond.fieldLink RX7 37 "HallTables$Town" "home" "[I", Cond.fieldLink RX7 40 "HallTables$Town" "hand" "[I", Cond.fieldLink RX7 43 "HallTables$Town" "callMan" "[I", Cond.fieldLink RX7 46 "HallTables$Town" "callHouse" "[I"]
def wsL_law_r7 : List Cond := [Cond.instanceMethod yX4_init, Cond.code yX4_init cX4_init 1 none, Cond.methodLink RX4 3 objectInit, Cond.fieldLink RX4 9 "HallTables$Stand" "at" "[I", Cond.fieldLink RX4 15 "HallTables$Stand" "hand" "[I", Cond.fieldLink RX4 18 "HallTables$Stand" "minutes" "[I", Cond.fieldLink RX4 21 "HallTables$Stand" "loss" "[I", Cond.fieldLink RX4 24 "HallTables$Stand" "table" "[I", Cond.instanceMethod yX8_init, Cond.code yX8_init cX8_init 1 none, Cond.methodLink RX8 3 objectInit, Cond.fieldLink RX8 11 "HallTables$Track" "man" "[I", Cond.fieldLink RX8 15 "HallTables$Track" "from" "[I", Cond.fieldLink RX8 18 "HallTables$Track" "sort" "[I", Cond.fieldLink RX8 21 "HallTables$Track" "minutes" "[I", Cond.instanceMethod yX10_init, Cond.code yX10_init cX10_init 1 none, Cond.methodLink RX10 5 objectInit, Cond.fieldLink RX10 11 "HallTables$Ways" "sums" "[I", Cond.fieldLink RX10 15 "HallTables$Ways" "together" "[I", Cond.classLink RX10 18 RX7, Cond.fieldLink RX10 21 "HallTables$Ways" "town" "LHallTables$Town;", Cond.fieldLink RX10 25 "HallTables$Ways" "codes" "[I", Cond.classLink RX10 28 RX2]
def wsL_law_r8 : List Cond := [Cond.instantiable RX2 4, Cond.initialized RX2, Cond.fieldLink RX10 31 "HallTables$Ways" "heap" "LHallTables$Heap;", Cond.fieldLink RX10 35 "HallTables$Heap" "key" "[J", Cond.fieldLink RX10 39 "HallTables$Ways" "key" "[J", Cond.fieldLink RX10 40 "HallTables$Ways" "order" "[I", Cond.fieldLink RX10 43 "HallTables$Ways" "good" "[B", Cond.instanceMethod yX2_init, Cond.code yX2_init cX2_init 1 none, Cond.methodLink RX2 3 objectInit, Cond.fieldLink RX2 11 "HallTables$Heap" "key" "[J", Cond.fieldLink RX2 17 "HallTables$Heap" "item" "[I", Cond.fieldLink RX2 21 "HallTables$Heap" "spot" "[I", Cond.instanceMethod yX3_init, Cond.code yX3_init cX3_init 1 none, Cond.methodLink RX3 3 objectInit, Cond.fieldLink RX3 9 "HallTables$Rounds" "here" "[I", Cond.fieldLink RX3 15 "HallTables$Rounds" "next" "[I", Cond.classLink RX3 18 RX7, Cond.fieldLink RX3 21 "HallTables$Rounds" "town" "LHallTables$Town;", Cond.instanceMethod yX1_init, Cond.code yX1_init cX1_init 1 none, Cond.methodLink RX1 3 objectInit, Cond.fieldLink RX1 9 "HallTables$Day" "stock" "[I"]
def wsL_law_r9 : List Cond := [Cond.fieldLink RX1 15 "HallTables$Day" "unsent" "[I", Cond.fieldLink RX1 18 "HallTables$Day" "from" "[I", Cond.fieldLink RX1 21 "HallTables$Day" "to" "[I", Cond.fieldLink RX1 24 "HallTables$Day" "carries" "[I", Cond.fieldLink RX1 27 "HallTables$Day" "stay" "[I", Cond.fieldLink RX1 30 "HallTables$Day" "queue" "[I", Cond.fieldLink RX1 33 "HallTables$Day" "cameFrom" "[I", Cond.fieldLink RX1 36 "HallTables$Day" "leadsOn" "[I", Cond.instanceMethod yX0_init, Cond.code yX0_init cX0_init 1 none, Cond.methodLink RX0 3 objectInit, Cond.classLink RX0 9 RX4, Cond.fieldLink RX0 12 "HallTables$Chance" "stand" "LHallTables$Stand;", Cond.fieldLink RX0 18 "HallTables$Chance" "owedMan" "[I", Cond.fieldLink RX0 22 "HallTables$Chance" "owedHouse" "[I", Cond.instanceMethod yX9_init, Cond.code yX9_init cX9_init 1 none, Cond.methodLink RX9 3 objectInit, Cond.fieldLink RX9 11 "HallTables$Visits" "seenCell" "[I", Cond.fieldLink RX9 15 "HallTables$Visits" "seenMany" "[I", Cond.fieldLink RX9 18 "HallTables$Visits" "known" "[I", Cond.fieldLink RX9 21 "HallTables$Visits" "weight" "[I", Cond.fieldLink RX9 24 "HallTables$Visits" "here" "[J", Cond.fieldLink RX9 28 "HallTables$Visits" "after" "[J"]
def wsL_law_r10 : List Cond := [Cond.methodLink RL 12 yX12_init, Cond.instanceMethod yX12_init, Cond.code yX12_init cX12_init 1 none, Cond.methodLink RX12 7 objectInit, Cond.fieldLink RX12 13 "HallTablesModel" "tape" "[B", Cond.fieldLink RX12 17 "HallTablesModel" "text" "[B", Cond.fieldLink RX12 20 "HallTablesModel" "tKind" "[I", Cond.fieldLink RX12 24 "HallTablesModel" "tPlace" "[I", Cond.fieldLink RX12 27 "HallTablesModel" "tValue" "[I", Cond.fieldLink RX12 30 "HallTablesModel" "tName" "[J", Cond.fieldLink RX12 34 "HallTablesModel" "keys" "[J", Cond.fieldLink RX12 37 "HallTablesModel" "place" "I", Cond.fieldLink RX12 40 "HallTablesModel" "nameOf" "[J", Cond.fieldLink RX12 43 "HallTablesModel" "nameSort" "[I", Cond.fieldLink RX12 46 "HallTablesModel" "nameAt" "[I", Cond.fieldLink RX12 49 "HallTablesModel" "sorts" "[I", Cond.fieldLink RX12 52 "HallTablesModel" "plainWorth" "[I", Cond.fieldLink RX12 55 "HallTablesModel" "houses" "[I", Cond.fieldLink RX12 58 "HallTablesModel" "worthAt" "[I", Cond.fieldLink RX12 61 "HallTablesModel" "hallHas" "[I", Cond.arrayClass .boolean, Cond.fieldLink RX12 64 "HallTablesModel" "sells" "[Z", Cond.fieldLink RX12 68 "HallTablesModel" "doors" "[I", Cond.fieldLink RX12 71 "HallTablesModel" "minutes" "[I"]
def wsL_law_r11 : List Cond := [Cond.fieldLink RX12 74 "HallTablesModel" "men" "[I", Cond.fieldLink RX12 77 "HallTablesModel" "home" "[I", Cond.fieldLink RX12 80 "HallTablesModel" "carries" "[I", Cond.fieldLink RX12 83 "HallTablesModel" "laws" "[I", Cond.fieldLink RX12 86 "HallTablesModel" "calls" "[I", Cond.fieldLink RX12 89 "HallTablesModel" "callMan" "[I", Cond.fieldLink RX12 92 "HallTablesModel" "callHouse" "[I", Cond.fieldLink RX12 95 "HallTablesModel" "now" "[I", Cond.fieldLink RX12 98 "HallTablesModel" "history" "[I", Cond.fieldLink RX12 101 "HallTablesModel" "best" "[J", Cond.fieldLink RX12 104 "HallTablesModel" "stepCode" "[I", Cond.fieldLink RX12 107 "HallTablesModel" "comes" "[Z", Cond.fieldLink RX12 110 "HallTablesModel" "pile" "[I", Cond.fieldLink RX12 113 "HallTablesModel" "gone" "[I", Cond.fieldLink RX12 116 "HallTablesModel" "goneThen" "[I", Cond.fieldLink RX12 119 "HallTablesModel" "listMan" "[I", Cond.fieldLink RX12 122 "HallTablesModel" "listHouse" "[I", Cond.fieldLink RX12 125 "HallTablesModel" "isUsed" "[Z", Cond.fieldLink RX12 128 "HallTablesModel" "waits" "[I", Cond.fieldLink RX12 131 "HallTablesModel" "cameFrom" "[I", Cond.fieldLink RX12 134 "HallTablesModel" "row" "[I", Cond.fieldLink RX12 137 "HallTablesModel" "pool" "[I", Cond.fieldLink RX12 140 "HallTablesModel" "taken" "[I", Cond.fieldLink RX12 143 "HallTablesModel" "place0" "[I"]
def wsL_law_r12 : List Cond := [Cond.fieldLink RX12 146 "HallTablesModel" "holding" "[I", Cond.fieldLink RX12 149 "HallTablesModel" "owedMan" "[I", Cond.fieldLink RX12 152 "HallTablesModel" "owedHouse" "[I", Cond.fieldLink RX12 155 "HallTablesModel" "seenHouse" "[I", Cond.fieldLink RX12 158 "HallTablesModel" "seenSort" "[I", Cond.fieldLink RX12 161 "HallTablesModel" "seenMany" "[I", Cond.fieldLink RX12 164 "HallTablesModel" "need" "[I", Cond.fieldLink RX12 167 "HallTablesModel" "kindAt" "[I", Cond.fieldLink RX12 170 "HallTablesModel" "free" "[J", Cond.fieldLink RX12 173 "HallTablesModel" "freeThere" "[J", Cond.fieldLink RX12 176 "HallTablesModel" "canLeave" "[Z", Cond.fieldLink RX12 179 "HallTablesModel" "chosen" "[I", Cond.fieldLink RX12 182 "HallTablesModel" "fitThere" "[J", Cond.fieldLink RX12 185 "HallTablesModel" "met" "[I", Cond.fieldLink RX12 188 "HallTablesModel" "isHeld" "[Z", Cond.fieldLink RX12 191 "HallTablesModel" "held" "[I", Cond.methodLink RX12 194 yX12_word, Cond.static yX12_word, Cond.code yX12_word cX12_word 7 (some .long), Cond.methodLink RX12 198 yX12_appends, Cond.static yX12_appends, Cond.code yX12_appends cX12_appends 3 (some .long), Cond.constantLong RX12 212 (27), Cond.methodLink RL 13 yX11_feed]
def wsL_law_r13 : List Cond := [Cond.instanceMethod yX11_feed, Cond.selects RX11 yX11_feed yX11_feed, Cond.code yX11_feed cX11_feed 6 (some .int), Cond.fieldLink RX11 91 "HallTables$Text" "length" "I", Cond.methodLink RX11 81 yX6_hasRoomFor, Cond.instanceMethod yX6_hasRoomFor, Cond.selects RX6 yX6_hasRoomFor yX6_hasRoomFor, Cond.code yX6_hasRoomFor cX6_hasRoomFor 2 (some .boolean), Cond.fieldLink RX6 64 "HallTables$Text" "length" "I", Cond.methodLink RX11 87 yX6_append, Cond.instanceMethod yX6_append, Cond.selects RX6 yX6_append yX6_append, Cond.code yX6_append cX6_append 3 none, Cond.methodLink RL 17 yX12_feed, Cond.instanceMethod yX12_feed, Cond.selects RX12 yX12_feed yX12_feed, Cond.code yX12_feed cX12_feed 6 (some .int), Cond.fieldLink RX12 202 "HallTablesModel" "taped" "I", Cond.methodLink RX12 205 yX12_put, Cond.instanceMethod yX12_put, Cond.selects RX12 yX12_put yX12_put, Cond.code yX12_put cX12_put 3 none, Cond.methodLink RL 18 yX11_back, Cond.instanceMethod yX11_back]
def wsL_law_r14 : List Cond := [Cond.selects RX11 yX11_back yX11_back, Cond.code yX11_back cX11_back 2 (some .int), Cond.methodLink RL 22 yX12_back, Cond.instanceMethod yX12_back, Cond.selects RX12 yX12_back yX12_back, Cond.code yX12_back cX12_back 2 (some .int), Cond.methodLink RL 23 yX11_read, Cond.instanceMethod yX11_read, Cond.selects RX11 yX11_read yX11_read, Cond.code yX11_read cX11_read 1 (some .int), Cond.fieldLink RX11 98 "HallTables$Text" "fault" "I", Cond.methodLink RX11 95 yX6_check, Cond.instanceMethod yX6_check, Cond.selects RX6 yX6_check yX6_check, Cond.code yX6_check cX6_check 7 none, Cond.fieldLink RX6 67 "HallTables$Text" "tokens" "I", Cond.fieldLink RX6 97 "HallTables$Text" "MOST_TOLD" "[I", Cond.fieldLink RX6 103 "HallTables$Text" "end" "I", Cond.methodLink RX6 73 yX6_note, Cond.instanceMethod yX6_note, Cond.selects RX6 yX6_note yX6_note, Cond.code yX6_note cX6_note 3 none, Cond.fieldLink RX6 70 "HallTables$Text" "fault" "I", Cond.methodLink RX6 77 yJ7_fill_53178]
def wsL_law_r15 : List Cond := [Cond.static yJ7_fill_53178, Cond.initialized RJ7, Cond.code yJ7_fill_53178 cJ7_fill_53178 4 none, Cond.methodLink RX6 83 yX6_pastBlanks, Cond.instanceMethod yX6_pastBlanks, Cond.selects RX6 yX6_pastBlanks yX6_pastBlanks, Cond.code yX6_pastBlanks cX6_pastBlanks 4 (some .int), Cond.methodLink RX6 137 yX6_byteAt, Cond.instanceMethod yX6_byteAt, Cond.selects RX6 yX6_byteAt yX6_byteAt, Cond.code yX6_byteAt cX6_byteAt 2 (some .int), Cond.methodLink RX6 87 yX6_lex, Cond.instanceMethod yX6_lex, Cond.selects RX6 yX6_lex yX6_lex, Cond.code yX6_lex cX6_lex 3 (some .int), Cond.fieldLink RX6 106 "HallTables$Text" "value" "J", Cond.methodLink RX6 140 yX6_isLetter, Cond.static yX6_isLetter, Cond.code yX6_isLetter cX6_isLetter 1 (some .boolean), Cond.methodLink RX6 144 yX6_lexName, Cond.instanceMethod yX6_lexName, Cond.selects RX6 yX6_lexName yX6_lexName, Cond.code yX6_lexName cX6_lexName 3 (some .int), Cond.methodLink RX6 147 yX6_isDigit]
def wsL_law_r16 : List Cond := [Cond.static yX6_isDigit, Cond.code yX6_isDigit cX6_isDigit 1 (some .boolean), Cond.methodLink RX6 150 yX6_lexInt, Cond.instanceMethod yX6_lexInt, Cond.selects RX6 yX6_lexInt yX6_lexInt, Cond.code yX6_lexInt cX6_lexInt 3 (some .int), Cond.constantLong RX6 157 (10), Cond.methodLink RX6 90 yX6_begin, Cond.instanceMethod yX6_begin, Cond.selects RX6 yX6_begin yX6_begin, Cond.code yX6_begin cX6_begin 2 (some .int), Cond.methodLink RX6 93 yX6_follow, Cond.static yX6_follow, Cond.code yX6_follow cX6_follow 5 (some .int), Cond.methodLink RX6 110 yX6_shape, Cond.static yX6_shape, Cond.code yX6_shape cX6_shape 1 (some (.object "java/lang/String")), Cond.methodLink RX6 100 yX6_keep, Cond.instanceMethod yX6_keep, Cond.selects RX6 yX6_keep yX6_keep, Cond.code yX6_keep cX6_keep 3 none, Cond.methodLink RX11 101 yX5_tellAll, Cond.instanceMethod yX5_tellAll, Cond.selects RX5 yX5_tellAll yX5_tellAll]
def wsL_law_r17 : List Cond := [Cond.code yX5_tellAll cX5_tellAll 3 none, Cond.fieldLink RX5 28 "HallTables$Teller" "at" "I", Cond.fieldLink RX5 32 "HallTables$Text" "tokens" "I", Cond.fieldLink RX5 35 "HallTables$Text" "fault" "I", Cond.methodLink RX5 25 yX7_clear, Cond.instanceMethod yX7_clear, Cond.selects RX7 yX7_clear yX7_clear, Cond.code yX7_clear cX7_clear 1 none, Cond.fieldLink RX7 49 "HallTables$Town" "sorts" "I", Cond.fieldLink RX7 53 "HallTables$Town" "houses" "I", Cond.fieldLink RX7 56 "HallTables$Town" "doors" "I", Cond.fieldLink RX7 59 "HallTables$Town" "men" "I", Cond.fieldLink RX7 62 "HallTables$Town" "calls" "I", Cond.fieldLink RX7 65 "HallTables$Town" "law" "I", Cond.methodLink RX7 68 yJ7_fill_53178, Cond.methodLink RX5 38 yX6_kindOf, Cond.instanceMethod yX6_kindOf, Cond.selects RX6 yX6_kindOf yX6_kindOf, Cond.code yX6_kindOf cX6_kindOf 2 (some .int), Cond.methodLink RX5 42 yX5_tellOne, Cond.instanceMethod yX5_tellOne, Cond.selects RX5 yX5_tellOne yX5_tellOne, Cond.code yX5_tellOne cX5_tellOne 2 none, Cond.methodLink RX5 46 yX5_tellSort]
def wsL_law_r18 : List Cond := [Cond.instanceMethod yX5_tellSort, Cond.selects RX5 yX5_tellSort yX5_tellSort, Cond.code yX5_tellSort cX5_tellSort 4 none, Cond.fieldLink RX5 81 "HallTables$Town" "sorts" "I", Cond.methodLink RX5 73 yX5_newName, Cond.instanceMethod yX5_newName, Cond.selects RX5 yX5_newName yX5_newName, Cond.code yX5_newName cX5_newName 3 (some .long), Cond.constantLong RX5 88 (-1), Cond.fieldLink RX5 112 "HallTables$Town" "sortNames" "[J", Cond.fieldLink RX5 93 "HallTables$Town" "houseNames" "[J", Cond.fieldLink RX5 90 "HallTables$Town" "houses" "I", Cond.fieldLink RX5 141 "HallTables$Town" "manNames" "[J", Cond.fieldLink RX5 138 "HallTables$Town" "men" "I", Cond.methodLink RX5 128 yX5_isWell, Cond.instanceMethod yX5_isWell, Cond.selects RX5 yX5_isWell yX5_isWell, Cond.code yX5_isWell cX5_isWell 1 (some .boolean), Cond.methodLink RX5 162 yX6_valueOf, Cond.instanceMethod yX6_valueOf, Cond.selects RX6 yX6_valueOf yX6_valueOf, Cond.code yX6_valueOf cX6_valueOf 2 (some .long), Cond.methodLink RX5 166 yX5_indexOf, Cond.static yX5_indexOf]
def wsL_law_r19 : List Cond := [Cond.code yX5_indexOf cX5_indexOf 5 (some .int), Cond.methodLink RX5 101 yX6_placeOf, Cond.instanceMethod yX6_placeOf, Cond.selects RX6 yX6_placeOf yX6_placeOf, Cond.code yX6_placeOf cX6_placeOf 2 (some .int), Cond.methodLink RX5 104 yX6_note, Cond.methodLink RX5 77 yX5_number, Cond.instanceMethod yX5_number, Cond.selects RX5 yX5_number yX5_number, Cond.code yX5_number cX5_number 5 (some .int), Cond.methodLink RX5 84 yX7_addSort, Cond.instanceMethod yX7_addSort, Cond.selects RX7 yX7_addSort yX7_addSort, Cond.code yX7_addSort cX7_addSort 5 none, Cond.methodLink RX7 74 yX7_cell, Cond.static yX7_cell, Cond.code yX7_cell cX7_cell 2 (some .int), Cond.methodLink RX5 49 yX5_tellHouse, Cond.instanceMethod yX5_tellHouse, Cond.selects RX5 yX5_tellHouse yX5_tellHouse, Cond.code yX5_tellHouse cX5_tellHouse 3 none, Cond.methodLink RX5 52 yX5_tellDoor, Cond.instanceMethod yX5_tellDoor, Cond.selects RX5 yX5_tellDoor yX5_tellDoor]
def wsL_law_r20 : List Cond := [Cond.code yX5_tellDoor cX5_tellDoor 4 none, Cond.methodLink RX5 97 yX5_known, Cond.instanceMethod yX5_known, Cond.selects RX5 yX5_known yX5_known, Cond.code yX5_known cX5_known 4 (some .int), Cond.methodLink RX5 108 yX7_addDoor, Cond.instanceMethod yX7_addDoor, Cond.selects RX7 yX7_addDoor yX7_addDoor, Cond.code yX7_addDoor cX7_addDoor 4 none, Cond.methodLink RX5 55 yX5_tellWorth, Cond.instanceMethod yX5_tellWorth, Cond.selects RX5 yX5_tellWorth yX5_tellWorth, Cond.code yX5_tellWorth cX5_tellWorth 4 none, Cond.fieldLink RX5 115 "HallTables$Town" "worth" "[I", Cond.methodLink RX5 119 yX7_cell, Cond.methodLink RX5 58 yX5_tellShop, Cond.instanceMethod yX5_tellShop, Cond.selects RX5 yX5_tellShop yX5_tellShop, Cond.code yX5_tellShop cX5_tellShop 3 none, Cond.fieldLink RX5 122 "HallTables$Town" "sells" "[I", Cond.methodLink RX5 61 yX5_tellHall, Cond.instanceMethod yX5_tellHall, Cond.selects RX5 yX5_tellHall yX5_tellHall, Cond.code yX5_tellHall cX5_tellHall 4 none]
def wsL_law_r21 : List Cond := [Cond.fieldLink RX5 125 "HallTables$Town" "table" "[I", Cond.methodLink RX5 64 yX5_tellMan, Cond.instanceMethod yX5_tellMan, Cond.selects RX5 yX5_tellMan yX5_tellMan, Cond.code yX5_tellMan cX5_tellMan 8 none, Cond.fieldLink RX5 144 "HallTables$Town" "home" "[I", Cond.fieldLink RX5 147 "HallTables$Town" "hand" "[I", Cond.methodLink RX5 132 yX7_inHand, Cond.static yX7_inHand, Cond.code yX7_inHand cX7_inHand 2 (some .int), Cond.methodLink RX5 135 yX7_oneOf, Cond.static yX7_oneOf, Cond.code yX7_oneOf cX7_oneOf 1 (some .int), Cond.methodLink RX5 67 yX5_tellLaw, Cond.instanceMethod yX5_tellLaw, Cond.selects RX5 yX5_tellLaw yX5_tellLaw, Cond.code yX5_tellLaw cX5_tellLaw 1 none, Cond.fieldLink RX5 150 "HallTables$Town" "law" "I", Cond.methodLink RX5 70 yX5_tellCall, Cond.instanceMethod yX5_tellCall, Cond.selects RX5 yX5_tellCall yX5_tellCall, Cond.code yX5_tellCall cX5_tellCall 3 none, Cond.fieldLink RX5 153 "HallTables$Town" "calls" "I", Cond.fieldLink RX5 156 "HallTables$Town" "callMan" "[I"]
def wsL_law_r22 : List Cond := [Cond.fieldLink RX5 159 "HallTables$Town" "callHouse" "[I", Cond.methodLink RX11 104 yX11_moveIn, Cond.instanceMethod yX11_moveIn, Cond.selects RX11 yX11_moveIn yX11_moveIn, Cond.code yX11_moveIn cX11_moveIn 2 none, Cond.fieldLink RX11 122 "HallTables$Stand" "holds" "Z", Cond.methodLink RX11 107 yX5_exchange, Cond.instanceMethod yX5_exchange, Cond.selects RX5 yX5_exchange yX5_exchange, Cond.code yX5_exchange cX5_exchange 3 (some (.object "HallTables$Town")), Cond.methodLink RX11 111 yX4_begin, Cond.instanceMethod yX4_begin, Cond.selects RX4 yX4_begin yX4_begin, Cond.code yX4_begin cX4_begin 2 none, Cond.fieldLink RX4 27 "HallTables$Town" "men" "I", Cond.fieldLink RX4 33 "HallTables$Stand" "men" "I", Cond.fieldLink RX4 34 "HallTables$Town" "home" "[I", Cond.methodLink RX4 37 arraycopyName, Cond.native arraycopyName, Cond.static arraycopyName, Cond.initialized "java/lang/System", Cond.fieldLink RX4 43 "HallTables$Town" "hand" "[I", Cond.fieldLink RX4 44 "HallTables$Town" "table" "[I", Cond.methodLink RX4 45 yJ7_fill_53178]
def wsL_law_r23 : List Cond := [Cond.methodLink RX11 115 yX8_clear, Cond.instanceMethod yX8_clear, Cond.selects RX8 yX8_clear yX8_clear, Cond.code yX8_clear cX8_clear 1 none, Cond.fieldLink RX8 24 "HallTables$Track" "count" "I", Cond.methodLink RX11 118 yX9_clear, Cond.instanceMethod yX9_clear, Cond.selects RX9 yX9_clear yX9_clear, Cond.code yX9_clear cX9_clear 1 none, Cond.fieldLink RX9 31 "HallTables$Visits" "seen" "I", Cond.methodLink RX11 119 yX10_forgetLast, Cond.instanceMethod yX10_forgetLast, Cond.selects RX10 yX10_forgetLast yX10_forgetLast, Cond.code yX10_forgetLast cX10_forgetLast 1 none, Cond.fieldLink RX10 47 "HallTables$Ways" "ready" "Z", Cond.methodLink RL 27 yX12_read, Cond.instanceMethod yX12_read, Cond.selects RX12 yX12_read yX12_read, Cond.code yX12_read cX12_read 2 (some .int), Cond.fieldLink RX12 209 "HallTablesModel" "size" "I", Cond.fieldLink RX12 239 "HallTablesModel" "t" "I", Cond.fieldLink RX12 263 "HallTablesModel" "open" "I", Cond.fieldLink RX12 236 "HallTablesModel" "fault" "I", Cond.fieldLink RX12 245 "HallTablesModel" "worst" "I"]
def wsL_law_r24 : List Cond := [Cond.fieldLink RX12 266 "HallTablesModel" "live" "I", Cond.fieldLink RX12 269 "HallTablesModel" "side" "I", Cond.fieldLink RX12 272 "HallTablesModel" "names" "I", Cond.fieldLink RX12 242 "HallTablesModel" "faultPlace" "I", Cond.fieldLink RX12 248 "HallTablesModel" "worstPlace" "I", Cond.fieldLink RX12 281 "HallTablesModel" "undos" "I", Cond.fieldLink RX12 284 "HallTablesModel" "seen" "I", Cond.methodLink RX12 260 yX12_cut, Cond.instanceMethod yX12_cut, Cond.selects RX12 yX12_cut yX12_cut, Cond.code yX12_cut cX12_cut 8 none, Cond.fieldLink RX12 214 "HallTablesModel" "tokens" "I", Cond.methodLink RX12 217 yX12_byteAt, Cond.instanceMethod yX12_byteAt, Cond.selects RX12 yX12_byteAt yX12_byteAt, Cond.code yX12_byteAt cX12_byteAt 2 (some .int), Cond.methodLink RX12 221 yX12_token, Cond.instanceMethod yX12_token, Cond.selects RX12 yX12_token yX12_token, Cond.code yX12_token cX12_token 6 none, Cond.methodLink RX12 225 yX12_isLetter, Cond.static yX12_isLetter, Cond.code yX12_isLetter cX12_isLetter 1 (some .boolean), Cond.methodLink RX12 229 yX12_isDigit]
def wsL_law_r25 : List Cond := [Cond.static yX12_isDigit, Cond.code yX12_isDigit cX12_isDigit 1 (some .boolean), Cond.methodLink RX12 232 yX12_sign, Cond.instanceMethod yX12_sign, Cond.selects RX12 yX12_sign yX12_sign, Cond.code yX12_sign cX12_sign 4 (some .int), Cond.methodLink RX12 254 yX12_is, Cond.instanceMethod yX12_is, Cond.selects RX12 yX12_is yX12_is, Cond.code yX12_is cX12_is 2 (some .boolean), Cond.methodLink RX12 275 yX12_tell, Cond.instanceMethod yX12_tell, Cond.selects RX12 yX12_tell yX12_tell, Cond.code yX12_tell cX12_tell 4 none, Cond.methodLink RX12 287 yX12_roomFor, Cond.instanceMethod yX12_roomFor, Cond.selects RX12 yX12_roomFor yX12_roomFor, Cond.code yX12_roomFor cX12_roomFor 3 none, Cond.methodLink RX12 251 yX12_fail, Cond.instanceMethod yX12_fail, Cond.selects RX12 yX12_fail yX12_fail, Cond.code yX12_fail cX12_fail 2 none, Cond.methodLink RX12 257 yX12_goesOn, Cond.instanceMethod yX12_goesOn]
def wsL_law_r26 : List Cond := [Cond.selects RX12 yX12_goesOn yX12_goesOn, Cond.code yX12_goesOn cX12_goesOn 1 none, Cond.methodLink RX12 291 yX12_tellSort, Cond.instanceMethod yX12_tellSort, Cond.selects RX12 yX12_tellSort yX12_tellSort, Cond.code yX12_tellSort cX12_tellSort 2 none, Cond.methodLink RX12 319 yX12_named, Cond.instanceMethod yX12_named, Cond.selects RX12 yX12_named yX12_named, Cond.code yX12_named cX12_named 3 (some .int), Cond.methodLink RX12 307 yX12_must, Cond.instanceMethod yX12_must, Cond.selects RX12 yX12_must yX12_must, Cond.code yX12_must cX12_must 2 none, Cond.methodLink RX12 316 yX12_wrong, Cond.instanceMethod yX12_wrong, Cond.selects RX12 yX12_wrong yX12_wrong, Cond.code yX12_wrong cX12_wrong 4 none, Cond.methodLink RX12 303 yX12_bounded, Cond.instanceMethod yX12_bounded, Cond.selects RX12 yX12_bounded yX12_bounded, Cond.code yX12_bounded cX12_bounded 4 (some .int), Cond.methodLink RX12 323 yX12_notes, Cond.instanceMethod yX12_notes]
def wsL_law_r27 : List Cond := [Cond.selects RX12 yX12_notes yX12_notes, Cond.code yX12_notes cX12_notes 4 none, Cond.methodLink RX12 294 yX12_tellHouse, Cond.instanceMethod yX12_tellHouse, Cond.selects RX12 yX12_tellHouse yX12_tellHouse, Cond.code yX12_tellHouse cX12_tellHouse 2 none, Cond.methodLink RX12 297 yX12_tellDoor, Cond.instanceMethod yX12_tellDoor, Cond.selects RX12 yX12_tellDoor yX12_tellDoor, Cond.code yX12_tellDoor cX12_tellDoor 5 none, Cond.methodLink RX12 300 yX12_known, Cond.instanceMethod yX12_known, Cond.selects RX12 yX12_known yX12_known, Cond.code yX12_known cX12_known 4 (some .int), Cond.methodLink RX12 310 yX12_tellMan, Cond.instanceMethod yX12_tellMan, Cond.selects RX12 yX12_tellMan yX12_tellMan, Cond.code yX12_tellMan cX12_tellMan 6 none, Cond.methodLink RX12 313 yX12_tellCall, Cond.instanceMethod yX12_tellCall, Cond.selects RX12 yX12_tellCall yX12_tellCall, Cond.code yX12_tellCall cX12_tellCall 5 none, Cond.methodLink RX12 278 yX12_begins, Cond.instanceMethod yX12_begins]
def wsL_law_r28 : List Cond := [Cond.selects RX12 yX12_begins yX12_begins, Cond.code yX12_begins cX12_begins 2 none, Cond.methodLink RX12 327 yX12_homeOf, Cond.instanceMethod yX12_homeOf, Cond.selects RX12 yX12_homeOf yX12_homeOf, Cond.code yX12_homeOf cX12_homeOf 2 (some .int), Cond.methodLink RX12 330 yX12_handAtFirst, Cond.instanceMethod yX12_handAtFirst, Cond.selects RX12 yX12_handAtFirst yX12_handAtFirst, Cond.code yX12_handAtFirst cX12_handAtFirst 4 (some .int), Cond.methodLink RL 28 yX11_place, Cond.instanceMethod yX11_place, Cond.selects RX11 yX11_place yX11_place, Cond.code yX11_place cX11_place 1 (some .int), Cond.fieldLink RX11 126 "HallTables$Text" "faultPlace" "I", Cond.methodLink RL 31 yX12_place, Cond.instanceMethod yX12_place, Cond.selects RX12 yX12_place yX12_place, Cond.code yX12_place cX12_place 1 (some .int), Cond.methodLink RL 32 yX11_door, Cond.instanceMethod yX11_door, Cond.selects RX11 yX11_door yX11_door, Cond.code yX11_door cX11_door 3 (some .int), Cond.methodLink RX11 129 yX7_isHouse]
def wsL_law_r29 : List Cond := [Cond.instanceMethod yX7_isHouse, Cond.selects RX7 yX7_isHouse yX7_isHouse, Cond.code yX7_isHouse cX7_isHouse 2 (some .boolean), Cond.methodLink RX11 132 yX7_minutesTo, Cond.instanceMethod yX7_minutesTo, Cond.selects RX7 yX7_minutesTo yX7_minutesTo, Cond.code yX7_minutesTo cX7_minutesTo 3 (some .int), Cond.methodLink RL 36 yX12_door, Cond.instanceMethod yX12_door, Cond.selects RX12 yX12_door yX12_door, Cond.code yX12_door cX12_door 3 (some .int), Cond.methodLink RX12 347 yX12_isHouse, Cond.instanceMethod yX12_isHouse, Cond.selects RX12 yX12_isHouse yX12_isHouse, Cond.code yX12_isHouse cX12_isHouse 2 (some .boolean), Cond.methodLink RX12 333 yX12_in, Cond.static yX12_in, Cond.code yX12_in cX12_in 3 (some .boolean), Cond.methodLink RX12 350 yX12_doorOf, Cond.instanceMethod yX12_doorOf, Cond.selects RX12 yX12_doorOf yX12_doorOf, Cond.code yX12_doorOf cX12_doorOf 3 (some .int), Cond.methodLink RL 37 yX11_worth, Cond.instanceMethod yX11_worth]
def wsL_law_r30 : List Cond := [Cond.selects RX11 yX11_worth yX11_worth, Cond.code yX11_worth cX11_worth 3 (some .int), Cond.fieldLink RX11 139 "HallTables$Town" "plainWorth" "[I", Cond.methodLink RX11 136 yX7_isSort, Cond.instanceMethod yX7_isSort, Cond.selects RX7 yX7_isSort yX7_isSort, Cond.code yX7_isSort cX7_isSort 2 (some .boolean), Cond.methodLink RX11 143 yX7_worthAt, Cond.instanceMethod yX7_worthAt, Cond.selects RX7 yX7_worthAt yX7_worthAt, Cond.code yX7_worthAt cX7_worthAt 3 (some .int), Cond.methodLink RL 40 yX12_worth, Cond.instanceMethod yX12_worth, Cond.selects RX12 yX12_worth yX12_worth, Cond.code yX12_worth cX12_worth 3 (some .int), Cond.methodLink RX12 353 yX12_isSort, Cond.instanceMethod yX12_isSort, Cond.selects RX12 yX12_isSort yX12_isSort, Cond.code yX12_isSort cX12_isSort 2 (some .boolean), Cond.methodLink RX12 340 yX12_worthOf, Cond.instanceMethod yX12_worthOf, Cond.selects RX12 yX12_worthOf yX12_worthOf, Cond.code yX12_worthOf cX12_worthOf 4 (some .int), Cond.methodLink RL 41 yX11_table]
def wsL_law_r31 : List Cond := [Cond.instanceMethod yX11_table, Cond.selects RX11 yX11_table yX11_table, Cond.code yX11_table cX11_table 3 (some .int), Cond.fieldLink RX11 146 "HallTables$Stand" "table" "[I", Cond.methodLink RX11 149 yX7_cell, Cond.methodLink RL 44 yX12_table, Cond.instanceMethod yX12_table, Cond.selects RX12 yX12_table yX12_table, Cond.code yX12_table cX12_table 3 (some .int), Cond.methodLink RL 45 yX11_man, Cond.instanceMethod yX11_man, Cond.selects RX11 yX11_man yX11_man, Cond.code yX11_man cX11_man 3 (some .int), Cond.fieldLink RX11 155 "HallTables$Stand" "at" "[I", Cond.fieldLink RX11 158 "HallTables$Town" "home" "[I", Cond.fieldLink RX11 161 "HallTables$Stand" "hand" "[I", Cond.fieldLink RX11 168 "HallTables$Stand" "minutes" "[I", Cond.fieldLink RX11 171 "HallTables$Stand" "loss" "[I", Cond.methodLink RX11 152 yX7_isMan, Cond.instanceMethod yX7_isMan, Cond.selects RX7 yX7_isMan yX7_isMan, Cond.code yX7_isMan cX7_isMan 2 (some .boolean), Cond.methodLink RX11 164 yX7_things, Cond.static yX7_things]
def wsL_law_r32 : List Cond := [Cond.code yX7_things cX7_things 1 (some .int), Cond.methodLink RX7 78 yJ6_bitCount_0f7a4, Cond.static yJ6_bitCount_0f7a4, Cond.initialized RJ6, Cond.code yJ6_bitCount_0f7a4 cJ6_bitCount_0f7a4 1 (some .int), Cond.constant RJ6 265 (1431655765), Cond.constant RJ6 266 (858993459), Cond.constant RJ6 267 (252645135), Cond.methodLink RL 48 yX12_man, Cond.instanceMethod yX12_man, Cond.selects RX12 yX12_man yX12_man, Cond.code yX12_man cX12_man 3 (some .int), Cond.methodLink RX12 356 yX12_isMan, Cond.instanceMethod yX12_isMan, Cond.selects RX12 yX12_isMan yX12_isMan, Cond.code yX12_isMan cX12_isMan 2 (some .boolean), Cond.methodLink RX12 359 yX12_where, Cond.instanceMethod yX12_where, Cond.selects RX12 yX12_where yX12_where, Cond.code yX12_where cX12_where 2 (some .int), Cond.methodLink RX12 362 yX12_hand, Cond.instanceMethod yX12_hand, Cond.selects RX12 yX12_hand yX12_hand, Cond.code yX12_hand cX12_hand 2 (some .int)]
def wsL_law_r33 : List Cond := [Cond.methodLink RX12 365 yX12_things, Cond.static yX12_things, Cond.code yX12_things cX12_things 3 (some .int), Cond.methodLink RL 49 yX11_has, Cond.instanceMethod yX11_has, Cond.selects RX11 yX11_has yX11_has, Cond.code yX11_has cX11_has 3 (some .int), Cond.methodLink RX11 174 yX7_inHand, Cond.methodLink RL 52 yX12_has, Cond.instanceMethod yX12_has, Cond.selects RX12 yX12_has yX12_has, Cond.code yX12_has cX12_has 3 (some .int), Cond.methodLink RX12 337 yX12_of, Cond.static yX12_of, Cond.code yX12_of cX12_of 2 (some .int), Cond.methodLink RL 53 yX11_may, Cond.instanceMethod yX11_may, Cond.selects RX11 yX11_may yX11_may, Cond.code yX11_may cX11_may 4 (some .int), Cond.methodLink RX11 177 yX7_mayLeave, Cond.instanceMethod yX7_mayLeave, Cond.selects RX7 yX7_mayLeave yX7_mayLeave, Cond.code yX7_mayLeave cX7_mayLeave 4 (some .boolean), Cond.methodLink RX7 93 yX7_isSort]
def wsL_law_r34 : List Cond := [Cond.methodLink RX7 97 yX7_choices, Cond.instanceMethod yX7_choices, Cond.selects RX7 yX7_choices yX7_choices, Cond.code yX7_choices cX7_choices 5 (some .int), Cond.methodLink RX7 90 yX7_leftByLaw, Cond.instanceMethod yX7_leftByLaw, Cond.selects RX7 yX7_leftByLaw yX7_leftByLaw, Cond.code yX7_leftByLaw cX7_leftByLaw 8 (some .int), Cond.methodLink RX7 87 yX7_worthAt, Cond.methodLink RX7 84 yX7_inHand, Cond.methodLink RL 57 yX12_may, Cond.instanceMethod yX12_may, Cond.selects RX12 yX12_may yX12_may, Cond.code yX12_may cX12_may 4 (some .int), Cond.methodLink RX12 368 yX12_mayLeave, Cond.instanceMethod yX12_mayLeave, Cond.selects RX12 yX12_mayLeave yX12_mayLeave, Cond.code yX12_mayLeave cX12_mayLeave 4 (some .boolean), Cond.methodLink RX12 343 yX12_leastOf, Cond.instanceMethod yX12_leastOf, Cond.selects RX12 yX12_leastOf yX12_leastOf, Cond.code yX12_leastOf cX12_leastOf 6 (some .int), Cond.methodLink RL 58 yX11_go, Cond.instanceMethod yX11_go]
def wsL_law_r35 : List Cond := [Cond.selects RX11 yX11_go yX11_go, Cond.code yX11_go cX11_go 7 (some .int), Cond.methodLink RX11 181 yX8_note, Cond.instanceMethod yX8_note, Cond.selects RX8 yX8_note yX8_note, Cond.code yX8_note cX8_note 5 none, Cond.fieldLink RX8 28 "HallTables$Track" "next" "I", Cond.methodLink RX8 31 Lib.Math.min.name, Cond.static Lib.Math.min.name, Cond.initialized "java/lang/Math", Cond.code Lib.Math.min.name Lib.Math.min.code 2 (some .int), Cond.methodLink RX11 185 yX4_enter, Cond.instanceMethod yX4_enter, Cond.selects RX4 yX4_enter yX4_enter, Cond.code yX4_enter cX4_enter 5 none, Cond.methodLink RX4 51 yX7_minutesTo, Cond.methodLink RX4 55 yX7_oneOf, Cond.methodLink RX4 59 yX7_worthAt, Cond.methodLink RX4 62 yX7_cell, Cond.methodLink RL 61 yX12_go, Cond.instanceMethod yX12_go, Cond.selects RX12 yX12_go yX12_go, Cond.code yX12_go cX12_go 6 (some .int), Cond.methodLink RX12 371 yX12_keeps]
def wsL_law_r36 : List Cond := [Cond.instanceMethod yX12_keeps, Cond.selects RX12 yX12_keeps yX12_keeps, Cond.code yX12_keeps cX12_keeps 2 none, Cond.methodLink RL 62 yX11_buy, Cond.instanceMethod yX11_buy, Cond.selects RX11 yX11_buy yX11_buy, Cond.code yX11_buy cX11_buy 3 (some .int), Cond.methodLink RX11 189 yX7_isSold, Cond.instanceMethod yX7_isSold, Cond.selects RX7 yX7_isSold yX7_isSold, Cond.code yX7_isSold cX7_isSold 3 (some .boolean), Cond.methodLink RX11 193 yX7_oneOf, Cond.methodLink RL 65 yX12_buy, Cond.instanceMethod yX12_buy, Cond.selects RX12 yX12_buy yX12_buy, Cond.code yX12_buy cX12_buy 3 (some .int), Cond.methodLink RL 66 yX11_undo, Cond.instanceMethod yX11_undo, Cond.selects RX11 yX11_undo yX11_undo, Cond.code yX11_undo cX11_undo 2 (some .boolean), Cond.methodLink RX11 196 yX8_takeLast, Cond.instanceMethod yX8_takeLast, Cond.selects RX8 yX8_takeLast yX8_takeLast, Cond.code yX8_takeLast cX8_takeLast 1 (some .int)]
def wsL_law_r37 : List Cond := [Cond.methodLink RX11 200 yX4_takeBack, Cond.instanceMethod yX4_takeBack, Cond.selects RX4 yX4_takeBack yX4_takeBack, Cond.code yX4_takeBack cX4_takeBack 7 none, Cond.fieldLink RX4 65 "HallTables$Track" "man" "[I", Cond.fieldLink RX4 70 "HallTables$Track" "sort" "[I", Cond.fieldLink RX4 73 "HallTables$Track" "minutes" "[I", Cond.fieldLink RX4 74 "HallTables$Track" "from" "[I", Cond.methodLink RL 70 yX12_undo, Cond.instanceMethod yX12_undo, Cond.selects RX12 yX12_undo yX12_undo, Cond.code yX12_undo cX12_undo 2 (some .boolean), Cond.methodLink RL 71 yX11_way, Cond.instanceMethod yX11_way, Cond.selects RX11 yX11_way yX11_way, Cond.code yX11_way cX11_way 6 (some .int), Cond.fieldLink RX11 218 "HallTables$Ways" "sums" "[I", Cond.methodLink RX11 204 yX11_isWay, Cond.instanceMethod yX11_isWay, Cond.selects RX11 yX11_isWay yX11_isWay, Cond.code yX11_isWay cX11_isWay 5 (some .boolean), Cond.methodLink RX11 221 yX10_isBy, Cond.static yX10_isBy, Cond.code yX10_isBy cX10_isBy 1 (some .boolean)]
def wsL_law_r38 : List Cond := [Cond.methodLink RX11 208 yX10_startWith, Cond.instanceMethod yX10_startWith, Cond.selects RX10 yX10_startWith yX10_startWith, Cond.code yX10_startWith cX10_startWith 5 none, Cond.fieldLink RX10 51 "HallTables$Stand" "at" "[I", Cond.fieldLink RX10 56 "HallTables$Stand" "hand" "[I", Cond.fieldLink RX10 59 "HallTables$Ways" "start" "I", Cond.fieldLink RX10 63 "HallTables$Town" "home" "[I", Cond.fieldLink RX10 66 "HallTables$Ways" "home" "I", Cond.methodLink RX11 212 yX10_find, Cond.instanceMethod yX10_find, Cond.selects RX10 yX10_find yX10_find, Cond.code yX10_find cX10_find 6 (some .boolean), Cond.fieldLink RX10 68 "HallTables$Ways" "by" "I", Cond.fieldLink RX10 71 "HallTables$Ways" "goal" "I", Cond.fieldLink RX10 74 "HallTables$Ways" "goalHouse" "I", Cond.fieldLink RX10 77 "HallTables$Ways" "goalSort" "I", Cond.fieldLink RX10 86 "HallTables$Ways" "best" "J", Cond.constantLong RX10 90 (-1), Cond.methodLink RX10 80 yX10_search, Cond.instanceMethod yX10_search, Cond.selects RX10 yX10_search yX10_search, Cond.code yX10_search cX10_search 3 none, Cond.fieldLink RX10 98 "HallTables$Heap" "size" "I"]
def wsL_law_r39 : List Cond := [Cond.fieldLink RX10 101 "HallTables$Ways" "settled" "I", Cond.methodLink RX10 92 yJ7_fill_d0a16, Cond.static yJ7_fill_d0a16, Cond.code yJ7_fill_d0a16 cJ7_fill_d0a16 5 none, Cond.methodLink RX10 104 yX10_reach, Cond.instanceMethod yX10_reach, Cond.selects RX10 yX10_reach yX10_reach, Cond.code yX10_reach cX10_reach 6 none, Cond.methodLink RX10 138 yX7_things, Cond.methodLink RX10 142 yX2_add, Cond.instanceMethod yX2_add, Cond.selects RX2 yX2_add yX2_add, Cond.code yX2_add cX2_add 2 none, Cond.fieldLink RX2 24 "HallTables$Heap" "size" "I", Cond.methodLink RX2 28 yX2_put, Cond.instanceMethod yX2_put, Cond.selects RX2 yX2_put yX2_put, Cond.code yX2_put cX2_put 3 none, Cond.methodLink RX2 32 yX2_rise, Cond.instanceMethod yX2_rise, Cond.selects RX2 yX2_rise yX2_rise, Cond.code yX2_rise cX2_rise 5 none, Cond.methodLink RX10 145 yX2_rise, Cond.methodLink RX10 108 yX2_takeLeast]
def wsL_law_r40 : List Cond := [Cond.instanceMethod yX2_takeLeast, Cond.selects RX2 yX2_takeLeast yX2_takeLeast, Cond.code yX2_takeLeast cX2_takeLeast 2 (some .int), Cond.methodLink RX2 36 yX2_sink, Cond.instanceMethod yX2_sink, Cond.selects RX2 yX2_sink yX2_sink, Cond.code yX2_sink cX2_sink 5 none, Cond.methodLink RX10 112 yX10_far, Cond.instanceMethod yX10_far, Cond.selects RX10 yX10_far yX10_far, Cond.code yX10_far cX10_far 2 (some .long), Cond.methodLink RX10 116 yX10_isGoal, Cond.instanceMethod yX10_isGoal, Cond.selects RX10 yX10_isGoal yX10_isGoal, Cond.code yX10_isGoal cX10_isGoal 4 (some .boolean), Cond.methodLink RX10 166 yX7_inHand, Cond.methodLink RX10 169 yX7_isSold, Cond.methodLink RX10 120 yX10_reachAround, Cond.instanceMethod yX10_reachAround, Cond.selects RX10 yX10_reachAround yX10_reachAround, Cond.code yX10_reachAround cX10_reachAround 3 none, Cond.fieldLink RX10 127 "HallTables$Ways" "steps" "I", Cond.methodLink RX10 124 yX10_lookAround, Cond.instanceMethod yX10_lookAround]
def wsL_law_r41 : List Cond := [Cond.selects RX10 yX10_lookAround yX10_lookAround, Cond.code yX10_lookAround cX10_lookAround 5 none, Cond.fieldLink RX10 173 "HallTables$Town" "houses" "I", Cond.fieldLink RX10 186 "HallTables$Town" "sells" "[I", Cond.methodLink RX10 176 yX7_minutesTo, Cond.methodLink RX10 179 yX7_choices, Cond.methodLink RX10 182 yX10_addSteps, Cond.instanceMethod yX10_addSteps, Cond.selects RX10 yX10_addSteps yX10_addSteps, Cond.code yX10_addSteps cX10_addSteps 4 none, Cond.methodLink RX10 189 yX7_fullSorts, Cond.static yX7_fullSorts, Cond.code yX7_fullSorts cX7_fullSorts 3 (some .int), Cond.methodLink RX10 130 yX10_after, Cond.static yX10_after, Cond.code yX10_after cX10_after 3 (some .int), Cond.methodLink RX10 192 yX7_oneOf, Cond.methodLink RX10 134 yX10_cost, Cond.instanceMethod yX10_cost, Cond.selects RX10 yX10_cost yX10_cost, Cond.code yX10_cost cX10_cost 3 (some .long), Cond.methodLink RX10 157 yX10_doors, Cond.static yX10_doors, Cond.code yX10_doors cX10_doors 1 (some .int)]
def wsL_law_r42 : List Cond := [Cond.methodLink RX10 160 yX10_minutes, Cond.instanceMethod yX10_minutes, Cond.selects RX10 yX10_minutes yX10_minutes, Cond.code yX10_minutes cX10_minutes 3 (some .int), Cond.methodLink RX10 163 yX10_loss, Cond.instanceMethod yX10_loss, Cond.selects RX10 yX10_loss yX10_loss, Cond.code yX10_loss cX10_loss 2 (some .int), Cond.methodLink RX10 195 yX7_worthAt, Cond.methodLink RX10 83 yX10_markGood, Cond.instanceMethod yX10_markGood, Cond.selects RX10 yX10_markGood yX10_markGood, Cond.code yX10_markGood cX10_markGood 3 none, Cond.methodLink RX10 148 yJ7_fill_031fb, Cond.static yJ7_fill_031fb, Cond.code yJ7_fill_031fb cJ7_fill_031fb 4 none, Cond.methodLink RX10 151 yX10_firstGood, Cond.instanceMethod yX10_firstGood, Cond.selects RX10 yX10_firstGood yX10_firstGood, Cond.code yX10_firstGood cX10_firstGood 4 (some .int), Cond.methodLink RX11 215 yX10_follow, Cond.instanceMethod yX10_follow, Cond.selects RX10 yX10_follow yX10_follow, Cond.code yX10_follow cX10_follow 6 (some .int)]
def wsL_law_r43 : List Cond := [Cond.methodLink RX10 154 yJ7_fill_53178, Cond.methodLink RL 74 yX12_way, Cond.instanceMethod yX12_way, Cond.selects RX12 yX12_way yX12_way, Cond.code yX12_way cX12_way 6 (some .int), Cond.fieldLink RX12 430 "HallTablesModel" "wayDoors" "I", Cond.fieldLink RX12 433 "HallTablesModel" "wayMinutes" "I", Cond.fieldLink RX12 436 "HallTablesModel" "wayLoss" "I", Cond.fieldLink RX12 421 "HallTablesModel" "waySteps" "I", Cond.methodLink RX12 445 yX12_canAsk, Cond.instanceMethod yX12_canAsk, Cond.selects RX12 yX12_canAsk yX12_canAsk, Cond.code yX12_canAsk cX12_canAsk 5 (some .boolean), Cond.methodLink RX12 449 yX12_sets, Cond.instanceMethod yX12_sets, Cond.selects RX12 yX12_sets yX12_sets, Cond.code yX12_sets cX12_sets 6 none, Cond.fieldLink RX12 394 "HallTablesModel" "wayMan" "I", Cond.fieldLink RX12 387 "HallTablesModel" "wayBy" "I", Cond.fieldLink RX12 374 "HallTablesModel" "goal" "I", Cond.fieldLink RX12 377 "HallTablesModel" "goalHouse" "I", Cond.fieldLink RX12 380 "HallTablesModel" "goalSort" "I", Cond.methodLink RX12 418 yX12_fillWays, Cond.instanceMethod yX12_fillWays]
def wsL_law_r44 : List Cond := [Cond.selects RX12 yX12_fillWays yX12_fillWays, Cond.code yX12_fillWays cX12_fillWays 6 none, Cond.constantLong RX12 392 (100000000000000000), Cond.methodLink RX12 408 yX12_hands, Cond.instanceMethod yX12_hands, Cond.selects RX12 yX12_hands yX12_hands, Cond.code yX12_hands cX12_hands 1 (some .int), Cond.methodLink RX12 411 yX12_isThere, Cond.instanceMethod yX12_isThere, Cond.selects RX12 yX12_isThere yX12_isThere, Cond.code yX12_isThere cX12_isThere 3 (some .boolean), Cond.methodLink RX12 383 yX12_sellsAt, Cond.instanceMethod yX12_sellsAt, Cond.selects RX12 yX12_sellsAt yX12_sellsAt, Cond.code yX12_sellsAt cX12_sellsAt 3 (some .boolean), Cond.methodLink RX12 414 yX12_leastFrom, Cond.instanceMethod yX12_leastFrom, Cond.selects RX12 yX12_leastFrom yX12_leastFrom, Cond.code yX12_leastFrom cX12_leastFrom 9 (some .long), Cond.methodLink RX12 401 yX12_byGoing, Cond.instanceMethod yX12_byGoing, Cond.selects RX12 yX12_byGoing yX12_byGoing, Cond.code yX12_byGoing cX12_byGoing 6 (some .long), Cond.methodLink RX12 397 yX12_costOf]
def wsL_law_r45 : List Cond := [Cond.instanceMethod yX12_costOf, Cond.selects RX12 yX12_costOf yX12_costOf, Cond.code yX12_costOf cX12_costOf 4 (some .long), Cond.constantLong RX12 390 (100000000), Cond.methodLink RX12 405 yX12_byBuying, Cond.instanceMethod yX12_byBuying, Cond.selects RX12 yX12_byBuying yX12_byBuying, Cond.code yX12_byBuying cX12_byBuying 4 (some .long), Cond.methodLink RX12 453 yX12_findsWay, Cond.instanceMethod yX12_findsWay, Cond.selects RX12 yX12_findsWay yX12_findsWay, Cond.code yX12_findsWay cX12_findsWay 1 (some .boolean), Cond.fieldLink RX12 424 "HallTablesModel" "wayHouse" "I", Cond.fieldLink RX12 427 "HallTablesModel" "wayHand" "I", Cond.methodLink RX12 442 yX12_takesStep, Cond.instanceMethod yX12_takesStep, Cond.selects RX12 yX12_takesStep yX12_takesStep, Cond.code yX12_takesStep cX12_takesStep 6 none, Cond.methodLink RX12 439 yX12_notesStep, Cond.instanceMethod yX12_notesStep, Cond.selects RX12 yX12_notesStep yX12_notesStep, Cond.code yX12_notesStep cX12_notesStep 2 none, Cond.methodLink RL 75 yX11_step, Cond.instanceMethod yX11_step]
def wsL_law_r46 : List Cond := [Cond.selects RX11 yX11_step yX11_step, Cond.code yX11_step cX11_step 6 (some .int), Cond.methodLink RL 78 yX12_step, Cond.instanceMethod yX12_step, Cond.selects RX12 yX12_step yX12_step, Cond.code yX12_step cX12_step 6 (some .int), Cond.methodLink RL 79 yX11_rid, Cond.instanceMethod yX11_rid, Cond.selects RX11 yX11_rid yX11_rid, Cond.code yX11_rid cX11_rid 5 (some .int), Cond.methodLink RL 83 yX12_rid, Cond.instanceMethod yX12_rid, Cond.selects RX12 yX12_rid yX12_rid, Cond.code yX12_rid cX12_rid 5 (some .int), Cond.methodLink RL 84 yX11_get, Cond.instanceMethod yX11_get, Cond.selects RX11 yX11_get yX11_get, Cond.code yX11_get cX11_get 3 (some .int), Cond.methodLink RX11 224 yX10_least, Cond.instanceMethod yX10_least, Cond.selects RX10 yX10_least yX10_least, Cond.code yX10_least cX10_least 1 (some .int), Cond.methodLink RL 87 yX12_get, Cond.instanceMethod yX12_get]
def wsL_law_r47 : List Cond := [Cond.selects RX12 yX12_get yX12_get, Cond.code yX12_get cX12_get 3 (some .int), Cond.methodLink RL 88 yX11_inReach, Cond.instanceMethod yX11_inReach, Cond.selects RX11 yX11_inReach yX11_inReach, Cond.code yX11_inReach cX11_inReach 2 (some .int), Cond.methodLink RX11 227 yX10_housesFound, Cond.instanceMethod yX10_housesFound, Cond.selects RX10 yX10_housesFound yX10_housesFound, Cond.code yX10_housesFound cX10_housesFound 3 (some .int), Cond.methodLink RL 91 yX12_inReach, Cond.instanceMethod yX12_inReach, Cond.selects RX12 yX12_inReach yX12_inReach, Cond.code yX12_inReach cX12_inReach 4 (some .int), Cond.methodLink RX12 463 yX12_fillReach, Cond.instanceMethod yX12_fillReach, Cond.selects RX12 yX12_fillReach yX12_fillReach, Cond.code yX12_fillReach cX12_fillReach 6 none, Cond.fieldLink RX12 457 "HallTablesModel" "piled" "I", Cond.methodLink RX12 460 yX12_comesTo, Cond.instanceMethod yX12_comesTo, Cond.selects RX12 yX12_comesTo yX12_comesTo, Cond.code yX12_comesTo cX12_comesTo 4 none, Cond.methodLink RX12 466 yX12_mostAt]
def wsL_law_r48 : List Cond := [Cond.instanceMethod yX12_mostAt, Cond.selects RX12 yX12_mostAt yX12_mostAt, Cond.code yX12_mostAt cX12_mostAt 4 (some .int), Cond.methodLink RL 92 yX11_most, Cond.instanceMethod yX11_most, Cond.selects RX11 yX11_most yX11_most, Cond.code yX11_most cX11_most 3 (some .int), Cond.methodLink RX11 230 yX10_mostAt, Cond.instanceMethod yX10_mostAt, Cond.selects RX10 yX10_mostAt yX10_mostAt, Cond.code yX10_mostAt cX10_mostAt 4 (some .int), Cond.methodLink RX10 198 Lib.Math.max.name, Cond.static Lib.Math.max.name, Cond.code Lib.Math.max.name Lib.Math.max.code 2 (some .int), Cond.methodLink RL 95 yX12_most, Cond.instanceMethod yX12_most, Cond.selects RX12 yX12_most yX12_most, Cond.code yX12_most cX12_most 3 (some .int), Cond.methodLink RL 96 yX11_meet, Cond.instanceMethod yX11_meet, Cond.selects RX11 yX11_meet yX11_meet, Cond.code yX11_meet cX11_meet 7 (some .int), Cond.fieldLink RX11 233 "HallTables$Ways" "together" "[I", Cond.fieldLink RX11 245 "HallTables$Town" "houses" "I"]
def wsL_law_r49 : List Cond := [Cond.methodLink RX11 236 yJ7_fill_53178, Cond.methodLink RX11 242 yX10_addMinutes, Cond.instanceMethod yX10_addMinutes, Cond.selects RX10 yX10_addMinutes yX10_addMinutes, Cond.code yX10_addMinutes cX10_addMinutes 4 none, Cond.methodLink RL 99 yX12_meet, Cond.instanceMethod yX12_meet, Cond.selects RX12 yX12_meet yX12_meet, Cond.code yX12_meet cX12_meet 9 (some .int), Cond.methodLink RX12 469 yX12_minutesTo, Cond.instanceMethod yX12_minutesTo, Cond.selects RX12 yX12_minutesTo yX12_minutesTo, Cond.code yX12_minutesTo cX12_minutesTo 3 (some .int), Cond.methodLink RL 100 yX11_riches, Cond.instanceMethod yX11_riches, Cond.selects RX11 yX11_riches yX11_riches, Cond.code yX11_riches cX11_riches 6 (some .int), Cond.methodLink RX11 248 yX11_richesAt, Cond.instanceMethod yX11_richesAt, Cond.selects RX11 yX11_richesAt yX11_richesAt, Cond.code yX11_richesAt cX11_richesAt 4 (some .int), Cond.fieldLink RX11 251 "HallTables$Town" "sorts" "I", Cond.methodLink RL 103 yX12_riches, Cond.instanceMethod yX12_riches]
def wsL_law_r50 : List Cond := [Cond.selects RX12 yX12_riches yX12_riches, Cond.code yX12_riches cX12_riches 4 (some .int), Cond.methodLink RX12 472 yX12_richesOf, Cond.instanceMethod yX12_richesOf, Cond.selects RX12 yX12_richesOf yX12_richesOf, Cond.code yX12_richesOf cX12_richesOf 4 (some .int), Cond.methodLink RL 104 yX11_round, Cond.instanceMethod yX11_round, Cond.selects RX11 yX11_round yX11_round, Cond.code yX11_round cX11_round 3 (some .int), Cond.methodLink RX11 254 yX3_fewest, Cond.instanceMethod yX3_fewest, Cond.selects RX3 yX3_fewest yX3_fewest, Cond.code yX3_fewest cX3_fewest 9 (some .int), Cond.fieldLink RX3 25 "HallTables$Town" "home" "[I", Cond.fieldLink RX3 28 "HallTables$Rounds" "home" "I", Cond.fieldLink RX3 31 "HallTables$Rounds" "set" "I", Cond.constant RX3 34 (536870912), Cond.fieldLink RX3 35 "HallTables$Stand" "hand" "[I", Cond.fieldLink RX3 50 "HallTables$Stand" "at" "[I", Cond.methodLink RX3 60 Lib.Math.min.name, Cond.methodLink RX3 40 yX7_things, Cond.methodLink RX3 44 yJ7_fill_53178, Cond.methodLink RX3 53 yX3_spot]
def wsL_law_r51 : List Cond := [Cond.instanceMethod yX3_spot, Cond.selects RX3 yX3_spot yX3_spot, Cond.code yX3_spot cX3_spot 3 (some .int), Cond.methodLink RX3 57 yX3_goHome, Cond.instanceMethod yX3_goHome, Cond.selects RX3 yX3_goHome yX3_goHome, Cond.code yX3_goHome cX3_goHome 3 none, Cond.fieldLink RX3 68 "HallTables$Town" "houses" "I", Cond.methodLink RX3 71 yX3_isPart, Cond.instanceMethod yX3_isPart, Cond.selects RX3 yX3_isPart yX3_isPart, Cond.code yX3_isPart cX3_isPart 2 (some .boolean), Cond.methodLink RX3 75 yX3_pass, Cond.instanceMethod yX3_pass, Cond.selects RX3 yX3_pass yX3_pass, Cond.code yX3_pass cX3_pass 8 none, Cond.methodLink RX3 83 yX7_minutesTo, Cond.methodLink RX3 65 yX3_goOn, Cond.instanceMethod yX3_goOn, Cond.selects RX3 yX3_goOn yX3_goOn, Cond.code yX3_goOn cX3_goOn 3 none, Cond.methodLink RX3 79 yX3_goOnFrom, Cond.instanceMethod yX3_goOnFrom, Cond.selects RX3 yX3_goOnFrom yX3_goOnFrom]
def wsL_law_r52 : List Cond := [Cond.code yX3_goOnFrom cX3_goOnFrom 4 none, Cond.methodLink RL 107 yX12_round, Cond.instanceMethod yX12_round, Cond.selects RX12 yX12_round yX12_round, Cond.code yX12_round cX12_round 7 (some .int), Cond.constant RX12 475 (1000000000), Cond.methodLink RX12 476 yX12_goesHome, Cond.instanceMethod yX12_goesHome, Cond.selects RX12 yX12_goesHome yX12_goesHome, Cond.code yX12_goesHome cX12_goesHome 7 none, Cond.methodLink RX12 479 yX12_goesOnward, Cond.instanceMethod yX12_goesOnward, Cond.selects RX12 yX12_goesOnward yX12_goesOnward, Cond.code yX12_goesOnward cX12_goesOnward 8 none, Cond.methodLink RL 108 yX11_carried, Cond.instanceMethod yX11_carried, Cond.selects RX11 yX11_carried yX11_carried, Cond.code yX11_carried cX11_carried 3 (some .int), Cond.methodLink RX11 258 yX1_prepare, Cond.instanceMethod yX1_prepare, Cond.selects RX1 yX1_prepare yX1_prepare, Cond.code yX1_prepare cX1_prepare 5 none, Cond.fieldLink RX1 39 "HallTables$Town" "houses" "I", Cond.fieldLink RX1 45 "HallTables$Day" "houses" "I"]
def wsL_law_r53 : List Cond := [Cond.fieldLink RX1 46 "HallTables$Town" "calls" "I", Cond.fieldLink RX1 49 "HallTables$Day" "calls" "I", Cond.fieldLink RX1 50 "HallTables$Day" "target" "I", Cond.fieldLink RX1 53 "HallTables$Town" "table" "[I", Cond.fieldLink RX1 60 "HallTables$Town" "men" "I", Cond.fieldLink RX1 63 "HallTables$Town" "home" "[I", Cond.fieldLink RX1 66 "HallTables$Town" "hand" "[I", Cond.fieldLink RX1 72 "HallTables$Town" "callMan" "[I", Cond.fieldLink RX1 75 "HallTables$Town" "callHouse" "[I", Cond.methodLink RX1 56 yX7_cell, Cond.methodLink RX1 69 yX7_inHand, Cond.methodLink RX11 262 yX1_flow, Cond.instanceMethod yX1_flow, Cond.selects RX1 yX1_flow yX1_flow, Cond.code yX1_flow cX1_flow 3 (some .int), Cond.methodLink RX1 84 arraycopyName, Cond.methodLink RX1 78 yJ7_fill_53178, Cond.methodLink RX1 90 yX1_sendOne, Cond.instanceMethod yX1_sendOne, Cond.selects RX1 yX1_sendOne yX1_sendOne, Cond.code yX1_sendOne cX1_sendOne 3 (some .boolean), Cond.methodLink RX1 94 yX1_spread, Cond.instanceMethod yX1_spread, Cond.selects RX1 yX1_spread yX1_spread]
def wsL_law_r54 : List Cond := [Cond.code yX1_spread cX1_spread 6 none, Cond.fieldLink RX1 101 "HallTables$Day" "queued" "I", Cond.methodLink RX1 104 yX1_reach, Cond.instanceMethod yX1_reach, Cond.selects RX1 yX1_reach yX1_reach, Cond.code yX1_reach cX1_reach 4 none, Cond.methodLink RX1 97 yX1_change, Cond.instanceMethod yX1_change, Cond.selects RX1 yX1_change yX1_change, Cond.code yX1_change cX1_change 5 none, Cond.methodLink RL 111 yX12_carried, Cond.instanceMethod yX12_carried, Cond.selects RX12 yX12_carried yX12_carried, Cond.code yX12_carried cX12_carried 3 (some .int), Cond.methodLink RX12 494 yX12_lists, Cond.instanceMethod yX12_lists, Cond.selects RX12 yX12_lists yX12_lists, Cond.code yX12_lists cX12_lists 2 none, Cond.fieldLink RX12 482 "HallTablesModel" "listed" "I", Cond.methodLink RX12 497 yX12_pools, Cond.instanceMethod yX12_pools, Cond.selects RX12 yX12_pools yX12_pools, Cond.code yX12_pools cX12_pools 3 none, Cond.methodLink RX12 500 yX12_carriesTo]
def wsL_law_r55 : List Cond := [Cond.instanceMethod yX12_carriesTo, Cond.selects RX12 yX12_carriesTo yX12_carriesTo, Cond.code yX12_carriesTo cX12_carriesTo 4 (some .int), Cond.methodLink RX12 491 yX12_oneMore, Cond.instanceMethod yX12_oneMore, Cond.selects RX12 yX12_oneMore yX12_oneMore, Cond.code yX12_oneMore cX12_oneMore 8 (some .boolean), Cond.methodLink RX12 485 yX12_reaches, Cond.instanceMethod yX12_reaches, Cond.selects RX12 yX12_reaches yX12_reaches, Cond.code yX12_reaches cX12_reaches 4 none, Cond.methodLink RX12 488 yX12_moves, Cond.instanceMethod yX12_moves, Cond.selects RX12 yX12_moves yX12_moves, Cond.code yX12_moves cX12_moves 4 none, Cond.methodLink RL 112 yX11_helps, Cond.instanceMethod yX11_helps, Cond.selects RX11 yX11_helps yX11_helps, Cond.code yX11_helps cX11_helps 4 (some .int), Cond.methodLink RX11 265 yX1_help, Cond.instanceMethod yX1_help, Cond.selects RX1 yX1_help yX1_help, Cond.code yX1_help cX1_help 7 (some .int), Cond.methodLink RX1 108 yX1_flow]
def wsL_law_r56 : List Cond := [Cond.methodLink RX1 112 yX1_spreadBack, Cond.instanceMethod yX1_spreadBack, Cond.selects RX1 yX1_spreadBack yX1_spreadBack, Cond.code yX1_spreadBack cX1_spreadBack 5 none, Cond.methodLink RX1 115 yX1_firstHelped, Cond.instanceMethod yX1_firstHelped, Cond.selects RX1 yX1_firstHelped yX1_firstHelped, Cond.code yX1_firstHelped cX1_firstHelped 4 (some .int), Cond.methodLink RL 115 yX12_helps, Cond.instanceMethod yX12_helps, Cond.selects RX12 yX12_helps yX12_helps, Cond.code yX12_helps cX12_helps 10 (some .int), Cond.methodLink RX12 503 yX12_putsIn, Cond.instanceMethod yX12_putsIn, Cond.selects RX12 yX12_putsIn yX12_putsIn, Cond.code yX12_putsIn cX12_putsIn 5 none, Cond.methodLink RL 116 yX11_turned, Cond.instanceMethod yX11_turned, Cond.selects RX11 yX11_turned yX11_turned, Cond.code yX11_turned cX11_turned 3 (some .int), Cond.methodLink RX11 269 yX1_bestTurn, Cond.instanceMethod yX1_bestTurn, Cond.selects RX1 yX1_bestTurn yX1_bestTurn, Cond.code yX1_bestTurn cX1_bestTurn 6 (some .int)]
def wsL_law_r57 : List Cond := [Cond.methodLink RX1 118 yX1_exchange, Cond.instanceMethod yX1_exchange, Cond.selects RX1 yX1_exchange yX1_exchange, Cond.code yX1_exchange cX1_exchange 5 none, Cond.methodLink RL 119 yX12_turned, Cond.instanceMethod yX12_turned, Cond.selects RX12 yX12_turned yX12_turned, Cond.code yX12_turned cX12_turned 8 (some .int), Cond.methodLink RL 120 yX11_year, Cond.instanceMethod yX11_year, Cond.selects RX11 yX11_year yX11_year, Cond.code yX11_year cX11_year 4 (some .int), Cond.fieldLink RX11 276 "HallTables$Chance" "steps" "I", Cond.fieldLink RX11 279 "HallTables$Chance" "loss" "I", Cond.fieldLink RX11 281 "HallTables$Chance" "stand" "LHallTables$Stand;", Cond.methodLink RX11 272 yX0_live, Cond.instanceMethod yX0_live, Cond.selects RX0 yX0_live yX0_live, Cond.code yX0_live cX0_live 9 none, Cond.fieldLink RX0 34 "HallTables$Chance" "steps" "I", Cond.fieldLink RX0 38 "HallTables$Chance" "loss" "I", Cond.fieldLink RX0 41 "HallTables$Town" "men" "I", Cond.fieldLink RX0 46 "HallTables$Stand" "at" "[I", Cond.methodLink RX0 30 yX4_copyOf]
def wsL_law_r58 : List Cond := [Cond.instanceMethod yX4_copyOf, Cond.selects RX4 yX4_copyOf yX4_copyOf, Cond.code yX4_copyOf cX4_copyOf 2 none, Cond.methodLink RX0 49 yX0_doorsAt, Cond.static yX0_doorsAt, Cond.code yX0_doorsAt cX0_doorsAt 4 (some .int), Cond.fieldLink RX0 65 "HallTables$Town" "houses" "I", Cond.methodLink RX0 68 yX7_minutesTo, Cond.methodLink RX0 53 yX0_lot, Cond.static yX0_lot, Cond.code yX0_lot cX0_lot 4 (some .int), Cond.methodLink RX0 25 yX0_mixed, Cond.static yX0_mixed, Cond.code yX0_mixed cX0_mixed 3 (some .int), Cond.constant RX0 29 (1103515245), Cond.methodLink RX0 57 yX0_behindDoor, Cond.static yX0_behindDoor, Cond.code yX0_behindDoor cX0_behindDoor 5 (some .int), Cond.methodLink RX0 61 yX0_goByLaw, Cond.instanceMethod yX0_goByLaw, Cond.selects RX0 yX0_goByLaw yX0_goByLaw, Cond.code yX0_goByLaw cX0_goByLaw 6 (some .boolean), Cond.fieldLink RX0 71 "HallTables$Town" "home" "[I", Cond.fieldLink RX0 74 "HallTables$Stand" "hand" "[I"]
def wsL_law_r59 : List Cond := [Cond.methodLink RX0 77 yX7_leftByLaw, Cond.methodLink RX0 80 yX4_enter, Cond.methodLink RX0 84 yX7_worthAt, Cond.methodLink RX11 284 yX4_thingsCarried, Cond.instanceMethod yX4_thingsCarried, Cond.selects RX4 yX4_thingsCarried yX4_thingsCarried, Cond.code yX4_thingsCarried cX4_thingsCarried 3 (some .int), Cond.methodLink RX4 77 yX7_things, Cond.methodLink RX11 287 yX4_menAtHome, Cond.instanceMethod yX4_menAtHome, Cond.selects RX4 yX4_menAtHome yX4_menAtHome, Cond.code yX4_menAtHome cX4_menAtHome 4 (some .int), Cond.methodLink RL 123 yX12_year, Cond.instanceMethod yX12_year, Cond.selects RX12 yX12_year yX12_year, Cond.code yX12_year cX12_year 10 (some .int), Cond.methodLink RX12 510 yX12_doorsAt, Cond.instanceMethod yX12_doorsAt, Cond.selects RX12 yX12_doorsAt yX12_doorsAt, Cond.code yX12_doorsAt cX12_doorsAt 4 (some .int), Cond.methodLink RX12 513 yX12_lot, Cond.static yX12_lot, Cond.code yX12_lot cX12_lot 3 (some .int), Cond.methodLink RX12 507 yX12_mixed]
def wsL_law_r60 : List Cond := [Cond.static yX12_mixed, Cond.code yX12_mixed cX12_mixed 3 (some .int), Cond.constant RX12 506 (1103515245), Cond.methodLink RX12 516 yX12_behind, Cond.instanceMethod yX12_behind, Cond.selects RX12 yX12_behind yX12_behind, Cond.code yX12_behind cX12_behind 5 (some .int), Cond.methodLink RX12 519 yX12_leaves, Cond.instanceMethod yX12_leaves, Cond.selects RX12 yX12_leaves yX12_leaves, Cond.code yX12_leaves cX12_leaves 3 (some .int), Cond.methodLink RL 124 yX11_rest, Cond.instanceMethod yX11_rest, Cond.selects RX11 yX11_rest yX11_rest, Cond.code yX11_rest cX11_rest 2 (some .int), Cond.fieldLink RX11 294 "HallTables$Chance" "dropped" "I", Cond.methodLink RX11 291 yX0_payAll, Cond.instanceMethod yX0_payAll, Cond.selects RX0 yX0_payAll yX0_payAll, Cond.code yX0_payAll cX0_payAll 3 none, Cond.fieldLink RX0 91 "HallTables$Chance" "dropped" "I", Cond.fieldLink RX0 94 "HallTables$Chance" "owed" "I", Cond.fieldLink RX0 97 "HallTables$Town" "calls" "I", Cond.fieldLink RX0 100 "HallTables$Town" "callMan" "[I"]
def wsL_law_r61 : List Cond := [Cond.fieldLink RX0 103 "HallTables$Town" "callHouse" "[I", Cond.methodLink RX0 87 yX4_begin, Cond.methodLink RX0 106 yX0_owe, Cond.instanceMethod yX0_owe, Cond.selects RX0 yX0_owe yX0_owe, Cond.code yX0_owe cX0_owe 3 none, Cond.methodLink RX0 110 yX0_pay, Cond.instanceMethod yX0_pay, Cond.selects RX0 yX0_pay yX0_pay, Cond.code yX0_pay cX0_pay 5 none, Cond.methodLink RL 127 yX12_rest, Cond.instanceMethod yX12_rest, Cond.selects RX12 yX12_rest yX12_rest, Cond.code yX12_rest cX12_rest 10 (some .int), Cond.methodLink RL 128 yX11_see, Cond.instanceMethod yX11_see, Cond.selects RX11 yX11_see yX11_see, Cond.code yX11_see cX11_see 4 (some .int), Cond.methodLink RX11 297 yX9_add, Cond.instanceMethod yX9_add, Cond.selects RX9 yX9_add yX9_add, Cond.code yX9_add cX9_add 4 (some .int), Cond.methodLink RX9 35 yX7_cell, Cond.methodLink RL 131 yX12_see]
def wsL_law_r62 : List Cond := [Cond.instanceMethod yX12_see, Cond.selects RX12 yX12_see yX12_see, Cond.code yX12_see cX12_see 4 (some .int), Cond.methodLink RL 132 yX11_forget, Cond.instanceMethod yX11_forget, Cond.selects RX11 yX11_forget yX11_forget, Cond.code yX11_forget cX11_forget 2 (some .int), Cond.fieldLink RX11 301 "HallTables$Visits" "seen" "I", Cond.methodLink RL 135 yX12_forget, Cond.instanceMethod yX12_forget, Cond.selects RX12 yX12_forget yX12_forget, Cond.code yX12_forget cX12_forget 2 (some .int), Cond.methodLink RL 136 yX11_fits, Cond.instanceMethod yX11_fits, Cond.selects RX11 yX11_fits yX11_fits, Cond.code yX11_fits cX11_fits 2 (some .long), Cond.constantLong RX11 307 (-1), Cond.methodLink RX11 304 yX9_isKnown, Cond.instanceMethod yX9_isKnown, Cond.selects RX9 yX9_isKnown yX9_isKnown, Cond.code yX9_isKnown cX9_isKnown 2 (some .boolean), Cond.methodLink RX11 309 yX9_know, Cond.instanceMethod yX9_know, Cond.selects RX9 yX9_know yX9_know]
def wsL_law_r63 : List Cond := [Cond.code yX9_know cX9_know 5 (some .boolean), Cond.fieldLink RX9 47 "HallTables$Visits" "parts" "I", Cond.methodLink RX9 50 Lib.Math.max.name, Cond.fieldLink RX9 55 "HallTables$Town" "men" "I", Cond.methodLink RX9 41 yJ7_fill_53178, Cond.methodLink RX11 313 yX9_ways, Cond.instanceMethod yX9_ways, Cond.selects RX9 yX9_ways yX9_ways, Cond.code yX9_ways cX9_ways 6 (some .long), Cond.methodLink RX9 61 arraycopyName, Cond.fieldLink RX9 67 "HallTables$Town" "houses" "I", Cond.fieldLink RX9 70 "HallTables$Town" "home" "[I", Cond.fieldLink RX9 73 "HallTables$Town" "hand" "[I", Cond.methodLink RX9 58 yJ7_fill_d0a16, Cond.methodLink RX9 76 yX7_choices, Cond.methodLink RX9 79 yX9_visit, Cond.instanceMethod yX9_visit, Cond.selects RX9 yX9_visit yX9_visit, Cond.code yX9_visit cX9_visit 4 none, Cond.methodLink RX9 83 yX9_leave, Cond.instanceMethod yX9_leave, Cond.selects RX9 yX9_leave yX9_leave, Cond.code yX9_leave cX9_leave 7 none, Cond.methodLink RL 140 yX12_fits]
def wsL_law_r64 : List Cond := [Cond.instanceMethod yX12_fits, Cond.selects RX12 yX12_fits yX12_fits, Cond.code yX12_fits cX12_fits 2 (some .long), Cond.constantLong RX12 541 (-1), Cond.fieldLink RX12 531 "HallTablesModel" "fitAll" "J", Cond.methodLink RX12 543 yX12_counts, Cond.instanceMethod yX12_counts, Cond.selects RX12 yX12_counts yX12_counts, Cond.code yX12_counts cX12_counts 5 none, Cond.fieldLink RX12 525 "HallTablesModel" "needAll" "I", Cond.fieldLink RX12 522 "HallTablesModel" "kinds" "I", Cond.methodLink RX12 528 yX12_knows, Cond.instanceMethod yX12_knows, Cond.selects RX12 yX12_knows yX12_knows, Cond.code yX12_knows cX12_knows 8 none, Cond.methodLink RX12 535 yX12_isAllMet, Cond.instanceMethod yX12_isAllMet, Cond.selects RX12 yX12_isAllMet yX12_isAllMet, Cond.code yX12_isAllMet cX12_isAllMet 2 (some .boolean), Cond.methodLink RX12 538 yX12_adds, Cond.instanceMethod yX12_adds, Cond.selects RX12 yX12_adds yX12_adds, Cond.code yX12_adds cX12_adds 5 none, Cond.methodLink RL 141 yX11_visitors]
def wsL_law_r65 : List Cond := [Cond.instanceMethod yX11_visitors, Cond.selects RX11 yX11_visitors yX11_visitors, Cond.code yX11_visitors cX11_visitors 10 (some .int), Cond.fieldLink RX11 316 "HallTables$Town" "men" "I", Cond.methodLink RL 145 yX12_visitors, Cond.instanceMethod yX12_visitors, Cond.selects RX12 yX12_visitors yX12_visitors, Cond.code yX12_visitors cX12_visitors 6 (some .int), Cond.methodLink RL 146 yX11_hold, Cond.instanceMethod yX11_hold, Cond.selects RX11 yX11_hold yX11_hold, Cond.code yX11_hold cX11_hold 2 (some .boolean), Cond.methodLink RX11 319 yX4_copyOf, Cond.methodLink RL 150 yX12_hold, Cond.instanceMethod yX12_hold, Cond.selects RX12 yX12_hold yX12_hold, Cond.code yX12_hold cX12_hold 3 (some .boolean), Cond.methodLink RL 151 yX11_restore, Cond.instanceMethod yX11_restore, Cond.selects RX11 yX11_restore yX11_restore, Cond.code yX11_restore cX11_restore 2 (some .boolean), Cond.methodLink RL 154 yX12_restore, Cond.instanceMethod yX12_restore, Cond.selects RX12 yX12_restore yX12_restore]
def wsL_law_r66 : List Cond := [Cond.code yX12_restore cX12_restore 3 (some .boolean), Cond.methodLink RL 155 yX11_count, Cond.instanceMethod yX11_count, Cond.selects RX11 yX11_count yX11_count, Cond.code yX11_count cX11_count 2 (some .int), Cond.fieldLink RX11 323 "HallTables$Town" "doors" "I", Cond.fieldLink RX11 326 "HallTables$Town" "calls" "I", Cond.fieldLink RX11 329 "HallTables$Town" "law" "I", Cond.fieldLink RX11 332 "HallTables$Track" "count" "I", Cond.methodLink RX11 335 yX11_slotsHeld, Cond.instanceMethod yX11_slotsHeld, Cond.selects RX11 yX11_slotsHeld yX11_slotsHeld, Cond.code yX11_slotsHeld cX11_slotsHeld 3 (some .int), Cond.methodLink RX11 338 yX4_thingsOnTables, Cond.instanceMethod yX4_thingsOnTables, Cond.selects RX4 yX4_thingsOnTables yX4_thingsOnTables, Cond.code yX4_thingsOnTables cX4_thingsOnTables 3 (some .int), Cond.methodLink RL 158 yX12_count, Cond.instanceMethod yX12_count, Cond.selects RX12 yX12_count yX12_count, Cond.code yX12_count cX12_count 4 (some .int)]
def wsL_law : List Cond := (wsL_law_r1 ++ (wsL_law_r2 ++ (wsL_law_r3 ++ (wsL_law_r4 ++ (wsL_law_r5 ++ (wsL_law_r6 ++ (wsL_law_r7 ++ (wsL_law_r8 ++ (wsL_law_r9 ++ (wsL_law_r10 ++ (wsL_law_r11 ++ (wsL_law_r12 ++ (wsL_law_r13 ++ (wsL_law_r14 ++ (wsL_law_r15 ++ (wsL_law_r16 ++ (wsL_law_r17 ++ (wsL_law_r18 ++ (wsL_law_r19 ++ (wsL_law_r20 ++ (wsL_law_r21 ++ (wsL_law_r22 ++ (wsL_law_r23 ++ (wsL_law_r24 ++ (wsL_law_r25 ++ (wsL_law_r26 ++ (wsL_law_r27 ++ (wsL_law_r28 ++ (wsL_law_r29 ++ (wsL_law_r30 ++ (wsL_law_r31 ++ (wsL_law_r32 ++ (wsL_law_r33 ++ (wsL_law_r34 ++ (wsL_law_r35 ++ (wsL_law_r36 ++ (wsL_law_r37 ++ (wsL_law_r38 ++ (wsL_law_r39 ++ (wsL_law_r40 ++ (wsL_law_r41 ++ (wsL_law_r42 ++ (wsL_law_r43 ++ (wsL_law_r44 ++ (wsL_law_r45 ++ (wsL_law_r46 ++ (wsL_law_r47 ++ (wsL_law_r48 ++ (wsL_law_r49 ++ (wsL_law_r50 ++ (wsL_law_r51 ++ (wsL_law_r52 ++ (wsL_law_r53 ++ (wsL_law_r54 ++ (wsL_law_r55 ++ (wsL_law_r56 ++ (wsL_law_r57 ++ (wsL_law_r58 ++ (wsL_law_r59 ++ (wsL_law_r60 ++ (wsL_law_r61 ++ (wsL_law_r62 ++ (wsL_law_r63 ++ (wsL_law_r64 ++ (wsL_law_r65 ++ wsL_law_r66))))))))))))))))))))))))))))))))))))))))))))))))))))))))))))))))) ++ wsX110 ++ wsX120 ++ wsX50 ++ wsX40 ++ wsX80 ++ wsX100 ++ wsX30 ++ wsX10 ++ wsX00 ++ wsX90 ++ wsX70 ++ wsX60 ++ wsX20 ++ ([] : List Cond)
set_option maxRecDepth 20000 in
theorem wsL_law_in : ∀ w ∈ wsL_law, w ∈ lw_tbl := fun w h => (goodIn_p wsL_law [151, 154, 159, 165, 170, 174, 178, 184, 188, 191, 194, 199, 202, 205, 208, 212, 221, 283, 405, 445, 475, 483, 561, 585, 631, 665, 1449, 1453, 1456, 732, 736, 740, 1732, 1736, 744, 1740, 748, 752, 756, 759, 763, 767, 771, 774, 778, 781, 785, 790, 793, 796, 809, 813, 817, 822, 826, 830, 834, 838, 843, 846, 850, 855, 859, 862, 866, 870, 874, 878, 882, 887, 891, 895, 898, 901, 905, 909, 913, 917, 921, 929, 933, 937, 1744, 1748, 1752, 1756, 1759, 1762, 1766, 1770, 1774, 1778, 1782, 1786, 1790, 1794, 1798, 1802, 1806, 1810, 1814, 1818, 1822, 1826, 1830, 1834, 1838, 1842, 941, 1846, 945, 949, 953, 1850, 1854, 1857, 1861, 957, 961, 965, 1865, 1869, 1873, 969, 1877, 974, 978, 981, 984, 1881, 1885, 1889, 1893, 1896, 991, 1900, 1903, 996, 1000, 1005, 1009, 1907, 1911, 1915, 1015, 1019, 1022, 1026, 1919, 1923, 1034, 1038, 1927, 1043, 1047, 1051, 1931, 1055, 1059, 1062, 1066, 1070, 1074, 1078, 1082, 1087, 1091, 1095, 1100, 1104, 1108, 1112, 1118, 1122, 1128, 1131, 1134, 1139, 1142, 1146, 1150, 1155, 1158, 1162, 1166, 1935, 1939, 1943, 1947, 1951, 1955, 1959, 1964, 1968, 1972, 1977, 1981, 1985, 1989, 1171, 1993, 1175, 1997, 1179, 1183, 2001, 1187, 1191, 2005, 2009, 2013, 2017, 1195, 1199, 1202, 2021, 1206, 1211, 2025, 2029, 1215, 1219, 2033, 2037, 1223, 1227, 1234, 1238, 1242, 1246, 1252, 1256, 2041, 2046, 2050, 1260, 1264, 1270, 1276, 1280, 1284, 1288, 2054, 2058, 2062, 2066, 2070, 2074, 2078, 1292, 1296, 1301, 1305, 2082, 2086, 1309, 1313, 1317, 2090, 1321, 1325, 1329, 1332, 1336, 1339, 1343, 1347, 1354, 1359, 2094, 2098, 2101, 2104, 2109, 2113, 1363, 1367, 1372, 1376, 2117, 1380, 1384, 2121, 1389, 2125, 1393, 1397, 1402, 1408, 1415, 1419, 2129, 2134, 2138, 2142, 2146, 1423, 2150, 1427, 2154, 1432, 2158, 1436, 1440, 1444, 2162] (by decide +kernel) (by decide +kernel) w h).1
theorem inlX0 : ∀ w ∈ wsX00, w ∈ wsL_law := fun _ h => List.mem_append_left _ (List.mem_append_left _ (List.mem_append_left _ (List.mem_append_left _ (List.mem_append_left _ (List.mem_append_right _ h)))))
theorem inlX1 : ∀ w ∈ wsX10, w ∈ wsL_law := fun _ h => List.mem_append_left _ (List.mem_append_left _ (List.mem_append_left _ (List.mem_append_left _ (List.mem_append_left _ (List.mem_append_left _ (List.mem_append_right _ h))))))
theorem inlX2 : ∀ w ∈ wsX20, w ∈ wsL_law := fun _ h => List.mem_append_left _ (List.mem_append_right _ h)
theorem inlX3 : ∀ w ∈ wsX30, w ∈ wsL_law := fun _ h => List.mem_append_left _ (List.mem_append_left _ (List.mem_append_left _ (List.mem_append_left _ (List.mem_append_left _ (List.mem_append_left _ (List.mem_append_left _ (List.mem_append_right _ h)))))))
theorem inlX4 : ∀ w ∈ wsX40, w ∈ wsL_law := fun _ h => List.mem_append_left _ (List.mem_append_left _ (List.mem_append_left _ (List.mem_append_left _ (List.mem_append_left _ (List.mem_append_left _ (List.mem_append_left _ (List.mem_append_left _ (List.mem_append_left _ (List.mem_append_left _ (List.mem_append_right _ h))))))))))
theorem inlX5 : ∀ w ∈ wsX50, w ∈ wsL_law := fun _ h => List.mem_append_left _ (List.mem_append_left _ (List.mem_append_left _ (List.mem_append_left _ (List.mem_append_left _ (List.mem_append_left _ (List.mem_append_left _ (List.mem_append_left _ (List.mem_append_left _ (List.mem_append_left _ (List.mem_append_left _ (List.mem_append_right _ h)))))))))))
theorem inlX6 : ∀ w ∈ wsX60, w ∈ wsL_law := fun _ h => List.mem_append_left _ (List.mem_append_left _ (List.mem_append_right _ h))
theorem inlX7 : ∀ w ∈ wsX70, w ∈ wsL_law := fun _ h => List.mem_append_left _ (List.mem_append_left _ (List.mem_append_left _ (List.mem_append_right _ h)))
theorem inlX8 : ∀ w ∈ wsX80, w ∈ wsL_law := fun _ h => List.mem_append_left _ (List.mem_append_left _ (List.mem_append_left _ (List.mem_append_left _ (List.mem_append_left _ (List.mem_append_left _ (List.mem_append_left _ (List.mem_append_left _ (List.mem_append_left _ (List.mem_append_right _ h)))))))))
theorem inlX9 : ∀ w ∈ wsX90, w ∈ wsL_law := fun _ h => List.mem_append_left _ (List.mem_append_left _ (List.mem_append_left _ (List.mem_append_left _ (List.mem_append_right _ h))))
theorem inlX10 : ∀ w ∈ wsX100, w ∈ wsL_law := fun _ h => List.mem_append_left _ (List.mem_append_left _ (List.mem_append_left _ (List.mem_append_left _ (List.mem_append_left _ (List.mem_append_left _ (List.mem_append_left _ (List.mem_append_left _ (List.mem_append_right _ h))))))))
theorem inlX11 : ∀ w ∈ wsX110, w ∈ wsL_law := fun _ h => List.mem_append_left _ (List.mem_append_left _ (List.mem_append_left _ (List.mem_append_left _ (List.mem_append_left _ (List.mem_append_left _ (List.mem_append_left _ (List.mem_append_left _ (List.mem_append_left _ (List.mem_append_left _ (List.mem_append_left _ (List.mem_append_left _ (List.mem_append_left _ (List.mem_append_right _ h)))))))))))))
theorem inlX12 : ∀ w ∈ wsX120, w ∈ wsL_law := fun _ h => List.mem_append_left _ (List.mem_append_left _ (List.mem_append_left _ (List.mem_append_left _ (List.mem_append_left _ (List.mem_append_left _ (List.mem_append_left _ (List.mem_append_left _ (List.mem_append_left _ (List.mem_append_left _ (List.mem_append_left _ (List.mem_append_left _ (List.mem_append_right _ h))))))))))))
set_option maxRecDepth 20000 in
theorem ggL_law_X11_init : GoodIn wsL_law wsX11_init := goodIn_r _ [8, 9, 10, 11, 12, 13, 14, 15, 16, 17, 18, 19, 20, 21, 22, 23, 24, 25, 26, 27, 28, 29, 30, 31, 32, 33, 34, 35, 36, 37, 38, 39, 40, 41, 42, 43, 44, 45, 46, 47, 48, 49, 50, 51, 52, 53, 54, 55, 56, 57, 58, 59, 60, 61, 62, 63, 64, 65, 66, 67, 68, 69, 70, 71, 72, 73, 74, 75, 76, 77, 78, 79, 80, 81, 82, 83, 84, 85, 86, 87, 88, 89, 90, 91, 92, 93, 94, 95, 96, 97, 98, 99, 100, 101, 102, 103, 104, 105, 106, 107, 108, 109, 110, 111, 112, 113, 114, 115, 116, 117, 118, 119, 120, 121, 122, 123, 124, 125, 126, 127, 128, 129, 130, 131, 132, 133, 134, 135, 136, 137, 138, 139, 140, 141, 142, 143, 144, 145, 146, 147, 148, 149, 150, 151, 152, 153, 154, 155, 156, 157, 158, 159, 160, 161, 162, 163, 164, 165, 166, 167, 168, 169, 170, 171, 172, 173, 174, 175, 176, 177, 178, 179, 180, 181, 182, 183, 184, 185, 186, 187, 188, 189, 190, 191, 192, 193, 194, 195, 196, 197, 198, 199, 200, 201, 202, 203, 204, 205, 206, 207, 208, 209, 210, 211, 212, 213, 214, 215, 1682, 1683, 1684, 1581, 1582, 1583, 1584, 1585, 1586, 1587, 1588, 1589, 1590, 1591, 1685, 1686, 1687, 1688, 1689, 1690, 1691, 1692, 1693, 1694, 1695, 1696, 1697, 1698, 1699, 1700, 1701, 1702, 1703, 1704, 1705, 1706, 1707, 1708, 1709, 1710, 1711, 1712, 1713, 1714, 1715, 1716, 1717, 1718, 1719, 1720, 1721, 1722, 1723, 1724, 1725, 1726, 1727, 1728, 1729, 1730, 1731, 1732, 1733, 1734, 1735, 1736, 1737, 1738, 1739, 1740, 1741, 1742, 1743, 1744, 1745, 1746, 1747, 1748, 1749, 1750, 1751, 1752, 1753, 1754, 1755, 1756, 1757, 1758, 1759, 1760, 1761, 1762, 1763, 1764, 1765, 1766, 1767, 1768, 1769, 1770, 1771, 1772, 1773, 1774, 1775, 1776, 1777, 1778, 1779, 1780, 1781, 1782] (by decide +kernel) (by decide +kernel)
set_option maxRecDepth 20000 in
theorem ggL_law_X12_init : GoodIn wsL_law wsX12_init := goodIn_r _ [218, 219, 10, 11, 64, 220, 221, 66, 222, 223, 224, 68, 225, 226, 227, 228, 229, 230, 231, 232, 233, 234, 235, 236, 237, 238, 239, 240, 241, 242, 243, 244, 245, 246, 247, 248, 249, 250, 251, 252, 253, 254, 255, 256, 257, 258, 259, 260, 261, 262, 263, 264, 265, 266, 267, 268, 269, 270, 271, 272, 273, 274, 275, 276, 277, 278, 279, 280, 281, 5, 282, 283, 284, 285, 286, 1592, 1593, 1594, 1595, 1596, 1597, 1598, 1599, 1600, 1601, 1602, 1603, 1604, 1605, 1606, 1607, 1608, 1609, 1610, 1611, 1612, 1613, 1614, 1615, 1616, 1617, 1618, 1619, 1620, 1621, 1622, 1623, 1624, 1625, 1626, 1627, 1628, 1629, 1630, 1631, 1632, 1633, 1634, 1635, 1636, 1637, 1638, 1639, 1640, 1641, 1642, 1643, 1644, 1645, 1646, 1647, 1648, 1649, 1650, 1651, 1652, 1653, 1654, 1655, 1656, 1657, 1658, 1659, 1660, 1661, 1662, 1663, 1664, 1665, 1666, 1667, 1668, 1669, 1670, 1671, 1672, 1673, 1674, 1675, 1676, 1677, 1678, 1679, 1680, 1681] (by decide +kernel) (by decide +kernel)
set_option maxRecDepth 20000 in
theorem ggL_law_X11_feed : GoodIn wsL_law wsX11_feed := goodIn_r _ [290, 17, 291, 292, 293, 294, 56, 295, 296, 297, 298, 299, 300, 65, 1581, 1582, 1583, 1584, 1585, 1586, 1587, 1588, 1589, 1590, 1591, 1767, 1768, 1769, 1770, 1771, 1772, 1773, 1774, 1775, 1776, 1777, 1778] (by decide +kernel) (by decide +kernel)
set_option maxRecDepth 20000 in
theorem gL_law_X11_feed : GoodIn wsL_law (wsV RL 13 RX11 yX11_feed wsX11_feed) := goodIn_app (goodIn_of _ (by decide +kernel)) ggL_law_X11_feed
set_option maxRecDepth 20000 in
theorem ggL_law_X12_feed : GoodIn wsL_law wsX12_feed := goodIn_r _ [304, 305, 306, 307, 308, 5, 309, 220, 1592, 1593, 1594, 1595, 1596, 1597, 1598, 1599, 1600, 1601, 1602, 1603, 1604, 1605, 1606, 1607, 1608, 1609, 1610, 1611, 1612, 1613, 1614, 1615, 1616, 1617, 1618, 1619, 1620, 1621, 1622, 1623, 1624, 1625, 1626, 1627, 1628, 1629, 1630, 1631, 1632, 1633, 1634, 1635, 1636, 1637, 1638, 1639, 1640, 1641, 1642, 1643, 1644, 1645, 1646, 1647, 1648, 1649, 1650, 1651, 1652, 1653, 1654, 1655, 1656, 1657, 1658, 1659, 1660, 1661, 1662, 1663, 1664, 1665, 1666, 1667, 1668, 1669, 1670, 1671, 1672, 1673, 1674, 1675, 1676, 1677, 1678, 1679, 1680, 1681] (by decide +kernel) (by decide +kernel)
set_option maxRecDepth 20000 in
theorem gL_law_X12_feed : GoodIn wsL_law (wsV RL 17 RX12 yX12_feed wsX12_feed) := goodIn_app (goodIn_of _ (by decide +kernel)) ggL_law_X12_feed
set_option maxRecDepth 20000 in
theorem ggL_law_X11_back : GoodIn wsL_law wsX11_back := goodIn_r _ [313, 17, 291, 1581, 1582, 1583, 1584, 1585, 1586, 1587, 1588, 1589, 1590, 1591, 1767, 1768, 1769, 1770, 1771, 1772, 1773, 1774, 1775, 1776, 1777, 1778] (by decide +kernel) (by decide +kernel)
set_option maxRecDepth 20000 in
theorem gL_law_X11_back : GoodIn wsL_law (wsV RL 18 RX11 yX11_back wsX11_back) := goodIn_app (goodIn_of _ (by decide +kernel)) ggL_law_X11_back
set_option maxRecDepth 20000 in
theorem ggL_law_X12_back : GoodIn wsL_law wsX12_back := goodIn_r _ [317, 305, 1592, 1593, 1594, 1595, 1596, 1597, 1598, 1599, 1600, 1601, 1602, 1603, 1604, 1605, 1606, 1607, 1608, 1609, 1610, 1611, 1612, 1613, 1614, 1615, 1616, 1617, 1618, 1619, 1620, 1621, 1622, 1623, 1624, 1625, 1626, 1627, 1628, 1629, 1630, 1631, 1632, 1633, 1634, 1635, 1636, 1637, 1638, 1639, 1640, 1641, 1642, 1643, 1644, 1645, 1646, 1647, 1648, 1649, 1650, 1651, 1652, 1653, 1654, 1655, 1656, 1657, 1658, 1659, 1660, 1661, 1662, 1663, 1664, 1665, 1666, 1667, 1668, 1669, 1670, 1671, 1672, 1673, 1674, 1675, 1676, 1677, 1678, 1679, 1680, 1681] (by decide +kernel) (by decide +kernel)
set_option maxRecDepth 20000 in
theorem gL_law_X12_back : GoodIn wsL_law (wsV RL 22 RX12 yX12_back wsX12_back) := goodIn_app (goodIn_of _ (by decide +kernel)) ggL_law_X12_back
set_option maxRecDepth 20000 in
theorem ggL_law_X11_read : GoodIn wsL_law wsX11_read := goodIn_r _ [321, 17, 322, 15, 291, 323, 324, 325, 56, 326, 327, 71, 296, 328, 329, 330, 331, 332, 333, 334, 63, 335, 336, 337, 338, 339, 340, 341, 342, 343, 344, 345, 346, 65, 347, 348, 349, 350, 351, 352, 353, 354, 355, 356, 357, 358, 72, 125, 126, 127, 128, 359, 360, 361, 362, 363, 364, 365, 366, 367, 368, 369, 370, 371, 372, 373, 374, 375, 376, 76, 77, 78, 79, 80, 81, 82, 83, 84, 85, 86, 87, 88, 89, 90, 91, 92, 93, 94, 95, 96, 97, 98, 99, 100, 101, 102, 103, 104, 105, 106, 107, 108, 109, 110, 111, 112, 113, 114, 115, 116, 117, 118, 119, 120, 121, 122, 123, 124, 377, 378, 379, 380, 67, 69, 70, 381, 382, 383, 14, 384, 59, 385, 57, 386, 387, 388, 389, 390, 49, 391, 392, 393, 394, 395, 396, 397, 137, 138, 139, 398, 399, 400, 401, 402, 403, 404, 405, 406, 407, 408, 409, 410, 411, 412, 413, 414, 415, 416, 417, 418, 419, 420, 421, 422, 423, 424, 425, 426, 427, 428, 429, 430, 431, 432, 433, 434, 435, 436, 437, 438, 439, 440, 441, 442, 443, 444, 445, 132, 135, 136, 446, 447, 448, 449, 450, 451, 452, 453, 454, 455, 456, 457, 458, 459, 460, 461, 462, 463, 464, 465, 466, 467, 468, 469, 470, 471, 472, 473, 474, 475, 476, 477, 478, 479, 480, 481, 482, 483, 484, 485, 486, 487, 488, 489, 490, 491, 492, 493, 494, 495, 496, 497, 498, 499, 500, 501, 502, 503, 504, 505, 506, 507, 2, 508, 50, 21, 26, 46, 30, 22, 509, 510, 511, 512, 513, 514, 515, 516, 20, 517, 518, 519, 520, 147, 521, 522, 523, 524, 525, 148, 526, 151, 149, 150, 527, 528, 529, 530, 25, 531, 532, 533, 534, 535, 45, 536, 537, 538, 539, 540, 29, 541, 542, 1581, 1582, 1583, 1584, 1585, 1586, 1587, 1588, 1589, 1590, 1591, 1767, 1768, 1769, 1770, 1771, 1772, 1773, 1774, 1775, 1776, 1777, 1778, 1682, 1683, 1684, 1749, 1750, 1751, 1752, 1753, 1754, 1755, 1756, 1757, 1758, 1759, 1760, 1761, 1762, 1763, 1764, 1765, 1766, 1685, 1686, 1687, 1688, 1689, 1690, 1691, 1692, 1693, 1694, 1695, 1696, 1697, 1741, 1742, 1743, 1744, 1745, 1746, 1747, 1748, 1698, 1699, 1700, 1701, 1702, 1703, 1704, 1705, 1706, 1707, 1708, 1709, 1710, 1711, 1712, 1713, 1714, 1715] (by decide +kernel) (by decide +kernel)
set_option maxRecDepth 20000 in
theorem gL_law_X11_read : GoodIn wsL_law (wsV RL 23 RX11 yX11_read wsX11_read) := goodIn_app (goodIn_of _ (by decide +kernel)) ggL_law_X11_read
set_option maxRecDepth 20000 in
theorem ggL_law_X12_read : GoodIn wsL_law wsX12_read := goodIn_r _ [546, 305, 547, 221, 220, 548, 549, 550, 551, 552, 553, 554, 231, 233, 238, 240, 243, 244, 234, 235, 237, 239, 555, 556, 227, 557, 558, 278, 559, 560, 561, 5, 562, 563, 226, 564, 565, 566, 567, 568, 569, 570, 571, 222, 223, 224, 225, 572, 573, 574, 283, 284, 285, 286, 575, 576, 577, 578, 579, 580, 581, 582, 583, 584, 585, 586, 587, 588, 589, 590, 591, 592, 593, 594, 595, 596, 597, 598, 599, 600, 601, 602, 603, 604, 605, 232, 606, 607, 608, 609, 228, 610, 611, 612, 613, 614, 615, 616, 617, 618, 619, 620, 621, 622, 623, 624, 625, 229, 230, 626, 627, 628, 629, 630, 631, 632, 633, 634, 635, 636, 637, 638, 639, 640, 641, 241, 242, 642, 643, 644, 645, 245, 246, 646, 647, 648, 649, 247, 650, 651, 652, 653, 654, 655, 656, 657, 1592, 1593, 1594, 1595, 1596, 1597, 1598, 1599, 1600, 1601, 1602, 1603, 1604, 1605, 1606, 1607, 1608, 1609, 1610, 1611, 1612, 1613, 1614, 1615, 1616, 1617, 1618, 1619, 1620, 1621, 1622, 1623, 1624, 1625, 1626, 1627, 1628, 1629, 1630, 1631, 1632, 1633, 1634, 1635, 1636, 1637, 1638, 1639, 1640, 1641, 1642, 1643, 1644, 1645, 1646, 1647, 1648, 1649, 1650, 1651, 1652, 1653, 1654, 1655, 1656, 1657, 1658, 1659, 1660, 1661, 1662, 1663, 1664, 1665, 1666, 1667, 1668, 1669, 1670, 1671, 1672, 1673, 1674, 1675, 1676, 1677, 1678, 1679, 1680, 1681] (by decide +kernel) (by decide +kernel)
set_option maxRecDepth 20000 in
theorem gL_law_X12_read : GoodIn wsL_law (wsV RL 27 RX12 yX12_read wsX12_read) := goodIn_app (goodIn_of _ (by decide +kernel)) ggL_law_X12_read
set_option maxRecDepth 20000 in
theorem ggL_law_X11_place : GoodIn wsL_law wsX11_place := goodIn_r _ [661, 17, 662, 1581, 1582, 1583, 1584, 1585, 1586, 1587, 1588, 1589, 1590, 1591, 1767, 1768, 1769, 1770, 1771, 1772, 1773, 1774, 1775, 1776, 1777, 1778] (by decide +kernel) (by decide +kernel)
set_option maxRecDepth 20000 in
theorem gL_law_X11_place : GoodIn wsL_law (wsV RL 28 RX11 yX11_place wsX11_place) := goodIn_app (goodIn_of _ (by decide +kernel)) ggL_law_X11_place
set_option maxRecDepth 20000 in
theorem ggL_law_X12_place : GoodIn wsL_law wsX12_place := goodIn_r _ [666, 227, 1592, 1593, 1594, 1595, 1596, 1597, 1598, 1599, 1600, 1601, 1602, 1603, 1604, 1605, 1606, 1607, 1608, 1609, 1610, 1611, 1612, 1613, 1614, 1615, 1616, 1617, 1618, 1619, 1620, 1621, 1622, 1623, 1624, 1625, 1626, 1627, 1628, 1629, 1630, 1631, 1632, 1633, 1634, 1635, 1636, 1637, 1638, 1639, 1640, 1641, 1642, 1643, 1644, 1645, 1646, 1647, 1648, 1649, 1650, 1651, 1652, 1653, 1654, 1655, 1656, 1657, 1658, 1659, 1660, 1661, 1662, 1663, 1664, 1665, 1666, 1667, 1668, 1669, 1670, 1671, 1672, 1673, 1674, 1675, 1676, 1677, 1678, 1679, 1680, 1681] (by decide +kernel) (by decide +kernel)
set_option maxRecDepth 20000 in
theorem gL_law_X12_place : GoodIn wsL_law (wsV RL 31 RX12 yX12_place wsX12_place) := goodIn_app (goodIn_of _ (by decide +kernel)) ggL_law_X12_place
set_option maxRecDepth 20000 in
theorem ggL_law_X11_door : GoodIn wsL_law wsX11_door := goodIn_r _ [670, 50, 671, 672, 673, 49, 674, 393, 675, 676, 677, 678, 137, 1581, 1582, 1583, 1584, 1585, 1586, 1587, 1588, 1589, 1590, 1591, 1749, 1750, 1751, 1752, 1753, 1754, 1755, 1756, 1757, 1758, 1759, 1760, 1761, 1762, 1763, 1764, 1765, 1766] (by decide +kernel) (by decide +kernel)
set_option maxRecDepth 20000 in
theorem gL_law_X11_door : GoodIn wsL_law (wsV RL 32 RX11 yX11_door wsX11_door) := goodIn_app (goodIn_of _ (by decide +kernel)) ggL_law_X11_door
set_option maxRecDepth 20000 in
theorem ggL_law_X12_door : GoodIn wsL_law wsX12_door := goodIn_r _ [682, 683, 684, 685, 5, 686, 233, 552, 687, 688, 689, 690, 691, 692, 693, 239, 1592, 1593, 1594, 1595, 1596, 1597, 1598, 1599, 1600, 1601, 1602, 1603, 1604, 1605, 1606, 1607, 1608, 1609, 1610, 1611, 1612, 1613, 1614, 1615, 1616, 1617, 1618, 1619, 1620, 1621, 1622, 1623, 1624, 1625, 1626, 1627, 1628, 1629, 1630, 1631, 1632, 1633, 1634, 1635, 1636, 1637, 1638, 1639, 1640, 1641, 1642, 1643, 1644, 1645, 1646, 1647, 1648, 1649, 1650, 1651, 1652, 1653, 1654, 1655, 1656, 1657, 1658, 1659, 1660, 1661, 1662, 1663, 1664, 1665, 1666, 1667, 1668, 1669, 1670, 1671, 1672, 1673, 1674, 1675, 1676, 1677, 1678, 1679, 1680, 1681] (by decide +kernel) (by decide +kernel)
set_option maxRecDepth 20000 in
theorem gL_law_X12_door : GoodIn wsL_law (wsV RL 36 RX12 yX12_door wsX12_door) := goodIn_app (goodIn_of _ (by decide +kernel)) ggL_law_X12_door
set_option maxRecDepth 20000 in
theorem ggL_law_X11_worth : GoodIn wsL_law wsX11_worth := goodIn_r _ [697, 50, 698, 699, 700, 701, 49, 702, 392, 671, 672, 673, 674, 393, 703, 704, 705, 706, 136, 1581, 1582, 1583, 1584, 1585, 1586, 1587, 1588, 1589, 1590, 1591, 1749, 1750, 1751, 1752, 1753, 1754, 1755, 1756, 1757, 1758, 1759, 1760, 1761, 1762, 1763, 1764, 1765, 1766] (by decide +kernel) (by decide +kernel)
set_option maxRecDepth 20000 in
theorem gL_law_X11_worth : GoodIn wsL_law (wsV RL 37 RX11 yX11_worth wsX11_worth) := goodIn_app (goodIn_of _ (by decide +kernel)) ggL_law_X11_worth
set_option maxRecDepth 20000 in
theorem ggL_law_X12_worth : GoodIn wsL_law wsX12_worth := goodIn_r _ [710, 232, 552, 711, 712, 713, 5, 714, 231, 687, 688, 689, 683, 684, 685, 686, 233, 715, 716, 717, 718, 234, 1592, 1593, 1594, 1595, 1596, 1597, 1598, 1599, 1600, 1601, 1602, 1603, 1604, 1605, 1606, 1607, 1608, 1609, 1610, 1611, 1612, 1613, 1614, 1615, 1616, 1617, 1618, 1619, 1620, 1621, 1622, 1623, 1624, 1625, 1626, 1627, 1628, 1629, 1630, 1631, 1632, 1633, 1634, 1635, 1636, 1637, 1638, 1639, 1640, 1641, 1642, 1643, 1644, 1645, 1646, 1647, 1648, 1649, 1650, 1651, 1652, 1653, 1654, 1655, 1656, 1657, 1658, 1659, 1660, 1661, 1662, 1663, 1664, 1665, 1666, 1667, 1668, 1669, 1670, 1671, 1672, 1673, 1674, 1675, 1676, 1677, 1678, 1679, 1680, 1681] (by decide +kernel) (by decide +kernel)
set_option maxRecDepth 20000 in
theorem gL_law_X12_worth : GoodIn wsL_law (wsV RL 40 RX12 yX12_worth wsX12_worth) := goodIn_app (goodIn_of _ (by decide +kernel)) ggL_law_X12_worth
set_option maxRecDepth 20000 in
theorem ggL_law_X11_table : GoodIn wsL_law wsX11_table := goodIn_r _ [722, 50, 21, 723, 671, 672, 673, 49, 674, 393, 699, 700, 701, 702, 392, 724, 447, 448, 1581, 1582, 1583, 1584, 1585, 1586, 1587, 1588, 1589, 1590, 1591, 1685, 1686, 1687, 1688, 1689, 1690, 1691, 1749, 1750, 1751, 1752, 1753, 1754, 1755, 1756, 1757, 1758, 1759, 1760, 1761, 1762, 1763, 1764, 1765, 1766] (by decide +kernel) (by decide +kernel)
set_option maxRecDepth 20000 in
theorem gL_law_X11_table : GoodIn wsL_law (wsV RL 41 RX11 yX11_table wsX11_table) := goodIn_app (goodIn_of _ (by decide +kernel)) ggL_law_X11_table
set_option maxRecDepth 20000 in
theorem ggL_law_X12_table : GoodIn wsL_law wsX12_table := goodIn_r _ [728, 247, 683, 684, 685, 5, 686, 233, 552, 687, 688, 689, 711, 712, 713, 714, 231, 1592, 1593, 1594, 1595, 1596, 1597, 1598, 1599, 1600, 1601, 1602, 1603, 1604, 1605, 1606, 1607, 1608, 1609, 1610, 1611, 1612, 1613, 1614, 1615, 1616, 1617, 1618, 1619, 1620, 1621, 1622, 1623, 1624, 1625, 1626, 1627, 1628, 1629, 1630, 1631, 1632, 1633, 1634, 1635, 1636, 1637, 1638, 1639, 1640, 1641, 1642, 1643, 1644, 1645, 1646, 1647, 1648, 1649, 1650, 1651, 1652, 1653, 1654, 1655, 1656, 1657, 1658, 1659, 1660, 1661, 1662, 1663, 1664, 1665, 1666, 1667, 1668, 1669, 1670, 1671, 1672, 1673, 1674, 1675, 1676, 1677, 1678, 1679, 1680, 1681] (by decide +kernel) (by decide +kernel)
set_option maxRecDepth 20000 in
theorem gL_law_X12_table : GoodIn wsL_law (wsV RL 44 RX12 yX12_table wsX12_table) := goodIn_app (goodIn_of _ (by decide +kernel)) ggL_law_X12_table
set_option maxRecDepth 20000 in
theorem ggL_law_X11_man : GoodIn wsL_law wsX11_man := goodIn_r _ [732, 50, 21, 733, 734, 735, 736, 737, 738, 739, 740, 49, 741, 395, 742, 743, 744, 745, 746, 747, 748, 749, 750, 751, 1581, 1582, 1583, 1584, 1585, 1586, 1587, 1588, 1589, 1590, 1591, 1685, 1686, 1687, 1688, 1689, 1690, 1691, 1749, 1750, 1751, 1752, 1753, 1754, 1755, 1756, 1757, 1758, 1759, 1760, 1761, 1762, 1763, 1764, 1765, 1766] (by decide +kernel) (by decide +kernel)
set_option maxRecDepth 20000 in
theorem gL_law_X11_man : GoodIn wsL_law (wsV RL 45 RX11 yX11_man wsX11_man) := goodIn_app (goodIn_of _ (by decide +kernel)) ggL_law_X11_man
set_option maxRecDepth 20000 in
theorem ggL_law_X12_man : GoodIn wsL_law wsX12_man := goodIn_r _ [755, 247, 756, 757, 758, 5, 759, 240, 552, 687, 688, 689, 760, 761, 762, 763, 650, 651, 652, 653, 241, 764, 765, 766, 767, 768, 769, 770, 1592, 1593, 1594, 1595, 1596, 1597, 1598, 1599, 1600, 1601, 1602, 1603, 1604, 1605, 1606, 1607, 1608, 1609, 1610, 1611, 1612, 1613, 1614, 1615, 1616, 1617, 1618, 1619, 1620, 1621, 1622, 1623, 1624, 1625, 1626, 1627, 1628, 1629, 1630, 1631, 1632, 1633, 1634, 1635, 1636, 1637, 1638, 1639, 1640, 1641, 1642, 1643, 1644, 1645, 1646, 1647, 1648, 1649, 1650, 1651, 1652, 1653, 1654, 1655, 1656, 1657, 1658, 1659, 1660, 1661, 1662, 1663, 1664, 1665, 1666, 1667, 1668, 1669, 1670, 1671, 1672, 1673, 1674, 1675, 1676, 1677, 1678, 1679, 1680, 1681] (by decide +kernel) (by decide +kernel)
set_option maxRecDepth 20000 in
theorem gL_law_X12_man : GoodIn wsL_law (wsV RL 48 RX12 yX12_man wsX12_man) := goodIn_app (goodIn_of _ (by decide +kernel)) ggL_law_X12_man
set_option maxRecDepth 20000 in
theorem ggL_law_X11_has : GoodIn wsL_law wsX11_has := goodIn_r _ [774, 50, 21, 735, 738, 739, 740, 49, 741, 395, 699, 700, 701, 702, 392, 775, 488, 489, 1581, 1582, 1583, 1584, 1585, 1586, 1587, 1588, 1589, 1590, 1591, 1685, 1686, 1687, 1688, 1689, 1690, 1691, 1749, 1750, 1751, 1752, 1753, 1754, 1755, 1756, 1757, 1758, 1759, 1760, 1761, 1762, 1763, 1764, 1765, 1766] (by decide +kernel) (by decide +kernel)
set_option maxRecDepth 20000 in
theorem gL_law_X11_has : GoodIn wsL_law (wsV RL 49 RX11 yX11_has wsX11_has) := goodIn_app (goodIn_of _ (by decide +kernel)) ggL_law_X11_has
set_option maxRecDepth 20000 in
theorem ggL_law_X12_has : GoodIn wsL_law wsX12_has := goodIn_r _ [779, 756, 757, 758, 5, 759, 240, 552, 687, 688, 689, 711, 712, 713, 714, 231, 764, 765, 766, 767, 247, 780, 781, 782, 1592, 1593, 1594, 1595, 1596, 1597, 1598, 1599, 1600, 1601, 1602, 1603, 1604, 1605, 1606, 1607, 1608, 1609, 1610, 1611, 1612, 1613, 1614, 1615, 1616, 1617, 1618, 1619, 1620, 1621, 1622, 1623, 1624, 1625, 1626, 1627, 1628, 1629, 1630, 1631, 1632, 1633, 1634, 1635, 1636, 1637, 1638, 1639, 1640, 1641, 1642, 1643, 1644, 1645, 1646, 1647, 1648, 1649, 1650, 1651, 1652, 1653, 1654, 1655, 1656, 1657, 1658, 1659, 1660, 1661, 1662, 1663, 1664, 1665, 1666, 1667, 1668, 1669, 1670, 1671, 1672, 1673, 1674, 1675, 1676, 1677, 1678, 1679, 1680, 1681] (by decide +kernel) (by decide +kernel)
set_option maxRecDepth 20000 in
theorem gL_law_X12_has : GoodIn wsL_law (wsV RL 52 RX12 yX12_has wsX12_has) := goodIn_app (goodIn_of _ (by decide +kernel)) ggL_law_X12_has
set_option maxRecDepth 20000 in
theorem ggL_law_X11_may : GoodIn wsL_law wsX11_may := goodIn_r _ [786, 50, 734, 21, 735, 738, 739, 740, 49, 741, 395, 671, 672, 673, 674, 393, 699, 700, 701, 702, 392, 787, 788, 789, 790, 791, 792, 793, 794, 795, 397, 796, 797, 798, 799, 800, 704, 705, 706, 136, 801, 488, 489, 1581, 1582, 1583, 1584, 1585, 1586, 1587, 1588, 1589, 1590, 1591, 1749, 1750, 1751, 1752, 1753, 1754, 1755, 1756, 1757, 1758, 1759, 1760, 1761, 1762, 1763, 1764, 1765, 1766, 1685, 1686, 1687, 1688, 1689, 1690, 1691] (by decide +kernel) (by decide +kernel)
set_option maxRecDepth 20000 in
theorem gL_law_X11_may : GoodIn wsL_law (wsV RL 53 RX11 yX11_may wsX11_may) := goodIn_app (goodIn_of _ (by decide +kernel)) ggL_law_X11_may
set_option maxRecDepth 20000 in
theorem ggL_law_X12_may : GoodIn wsL_law wsX12_may := goodIn_r _ [805, 756, 757, 758, 5, 759, 240, 552, 687, 688, 689, 683, 684, 685, 686, 233, 711, 712, 713, 714, 231, 650, 651, 652, 653, 241, 764, 765, 766, 767, 247, 806, 807, 808, 809, 243, 780, 781, 782, 810, 811, 812, 813, 715, 716, 717, 718, 234, 232, 1592, 1593, 1594, 1595, 1596, 1597, 1598, 1599, 1600, 1601, 1602, 1603, 1604, 1605, 1606, 1607, 1608, 1609, 1610, 1611, 1612, 1613, 1614, 1615, 1616, 1617, 1618, 1619, 1620, 1621, 1622, 1623, 1624, 1625, 1626, 1627, 1628, 1629, 1630, 1631, 1632, 1633, 1634, 1635, 1636, 1637, 1638, 1639, 1640, 1641, 1642, 1643, 1644, 1645, 1646, 1647, 1648, 1649, 1650, 1651, 1652, 1653, 1654, 1655, 1656, 1657, 1658, 1659, 1660, 1661, 1662, 1663, 1664, 1665, 1666, 1667, 1668, 1669, 1670, 1671, 1672, 1673, 1674, 1675, 1676, 1677, 1678, 1679, 1680, 1681] (by decide +kernel) (by decide +kernel)
set_option maxRecDepth 20000 in
theorem gL_law_X12_may : GoodIn wsL_law (wsV RL 57 RX12 yX12_may wsX12_may) := goodIn_app (goodIn_of _ (by decide +kernel)) ggL_law_X12_may
set_option maxRecDepth 20000 in
theorem ggL_law_X11_go : GoodIn wsL_law wsX11_go := goodIn_r _ [817, 50, 21, 733, 734, 735, 26, 738, 739, 740, 49, 741, 395, 671, 672, 673, 674, 393, 699, 700, 701, 702, 392, 675, 676, 677, 678, 137, 787, 788, 789, 790, 791, 792, 793, 794, 795, 397, 796, 797, 798, 799, 800, 704, 705, 706, 136, 801, 488, 489, 818, 819, 820, 25, 821, 155, 822, 156, 157, 158, 532, 823, 824, 825, 826, 827, 828, 829, 20, 830, 149, 147, 148, 150, 151, 831, 832, 491, 492, 833, 834, 447, 448, 1581, 1582, 1583, 1584, 1585, 1586, 1587, 1588, 1589, 1590, 1591, 1685, 1686, 1687, 1688, 1689, 1690, 1691, 1749, 1750, 1751, 1752, 1753, 1754, 1755, 1756, 1757, 1758, 1759, 1760, 1761, 1762, 1763, 1764, 1765, 1766, 1692, 1693, 1694, 1695, 1696, 1697] (by decide +kernel) (by decide +kernel)
set_option maxRecDepth 20000 in
theorem gL_law_X11_go : GoodIn wsL_law (wsV RL 58 RX11 yX11_go wsX11_go) := goodIn_app (goodIn_of _ (by decide +kernel)) ggL_law_X11_go
set_option maxRecDepth 20000 in
theorem ggL_law_X12_go : GoodIn wsL_law wsX12_go := goodIn_r _ [838, 247, 756, 757, 758, 5, 759, 240, 552, 687, 688, 689, 683, 684, 685, 686, 233, 711, 712, 713, 714, 231, 760, 761, 762, 763, 690, 691, 692, 693, 239, 650, 651, 652, 653, 241, 764, 765, 766, 767, 806, 807, 808, 809, 243, 780, 781, 782, 810, 811, 812, 813, 715, 716, 717, 718, 234, 232, 839, 840, 841, 842, 557, 248, 1592, 1593, 1594, 1595, 1596, 1597, 1598, 1599, 1600, 1601, 1602, 1603, 1604, 1605, 1606, 1607, 1608, 1609, 1610, 1611, 1612, 1613, 1614, 1615, 1616, 1617, 1618, 1619, 1620, 1621, 1622, 1623, 1624, 1625, 1626, 1627, 1628, 1629, 1630, 1631, 1632, 1633, 1634, 1635, 1636, 1637, 1638, 1639, 1640, 1641, 1642, 1643, 1644, 1645, 1646, 1647, 1648, 1649, 1650, 1651, 1652, 1653, 1654, 1655, 1656, 1657, 1658, 1659, 1660, 1661, 1662, 1663, 1664, 1665, 1666, 1667, 1668, 1669, 1670, 1671, 1672, 1673, 1674, 1675, 1676, 1677, 1678, 1679, 1680, 1681] (by decide +kernel) (by decide +kernel)
set_option maxRecDepth 20000 in
theorem gL_law_X12_go : GoodIn wsL_law (wsV RL 61 RX12 yX12_go wsX12_go) := goodIn_app (goodIn_of _ (by decide +kernel)) ggL_law_X12_go
set_option maxRecDepth 20000 in
theorem ggL_law_X11_buy : GoodIn wsL_law wsX11_buy := goodIn_r _ [846, 50, 21, 733, 735, 26, 736, 738, 739, 740, 49, 741, 395, 699, 700, 701, 702, 392, 847, 848, 849, 850, 138, 775, 488, 489, 818, 819, 820, 25, 821, 155, 822, 156, 157, 158, 532, 823, 824, 825, 826, 851, 491, 492, 1581, 1582, 1583, 1584, 1585, 1586, 1587, 1588, 1589, 1590, 1591, 1685, 1686, 1687, 1688, 1689, 1690, 1691, 1749, 1750, 1751, 1752, 1753, 1754, 1755, 1756, 1757, 1758, 1759, 1760, 1761, 1762, 1763, 1764, 1765, 1766, 1692, 1693, 1694, 1695, 1696, 1697] (by decide +kernel) (by decide +kernel)
set_option maxRecDepth 20000 in
theorem gL_law_X11_buy : GoodIn wsL_law (wsV RL 62 RX11 yX11_buy wsX11_buy) := goodIn_app (goodIn_of _ (by decide +kernel)) ggL_law_X11_buy
set_option maxRecDepth 20000 in
theorem ggL_law_X12_buy : GoodIn wsL_law wsX12_buy := goodIn_r _ [855, 237, 552, 247, 756, 757, 758, 5, 759, 240, 687, 688, 689, 711, 712, 713, 714, 231, 760, 761, 762, 763, 764, 765, 766, 767, 780, 781, 782, 839, 840, 841, 842, 557, 248, 1592, 1593, 1594, 1595, 1596, 1597, 1598, 1599, 1600, 1601, 1602, 1603, 1604, 1605, 1606, 1607, 1608, 1609, 1610, 1611, 1612, 1613, 1614, 1615, 1616, 1617, 1618, 1619, 1620, 1621, 1622, 1623, 1624, 1625, 1626, 1627, 1628, 1629, 1630, 1631, 1632, 1633, 1634, 1635, 1636, 1637, 1638, 1639, 1640, 1641, 1642, 1643, 1644, 1645, 1646, 1647, 1648, 1649, 1650, 1651, 1652, 1653, 1654, 1655, 1656, 1657, 1658, 1659, 1660, 1661, 1662, 1663, 1664, 1665, 1666, 1667, 1668, 1669, 1670, 1671, 1672, 1673, 1674, 1675, 1676, 1677, 1678, 1679, 1680, 1681] (by decide +kernel) (by decide +kernel)
set_option maxRecDepth 20000 in
theorem gL_law_X12_buy : GoodIn wsL_law (wsV RL 65 RX12 yX12_buy wsX12_buy) := goodIn_app (goodIn_of _ (by decide +kernel)) ggL_law_X12_buy
set_option maxRecDepth 20000 in
theorem ggL_law_X11_undo : GoodIn wsL_law wsX11_undo := goodIn_r _ [859, 26, 21, 50, 860, 861, 862, 25, 863, 532, 822, 864, 865, 866, 20, 867, 868, 869, 147, 149, 870, 871, 148, 150, 151, 832, 491, 49, 492, 833, 704, 705, 706, 136, 834, 447, 448, 1581, 1582, 1583, 1584, 1585, 1586, 1587, 1588, 1589, 1590, 1591, 1692, 1693, 1694, 1695, 1696, 1697, 1685, 1686, 1687, 1688, 1689, 1690, 1691, 1749, 1750, 1751, 1752, 1753, 1754, 1755, 1756, 1757, 1758, 1759, 1760, 1761, 1762, 1763, 1764, 1765, 1766] (by decide +kernel) (by decide +kernel)
set_option maxRecDepth 20000 in
theorem gL_law_X11_undo : GoodIn wsL_law (wsV RL 66 RX11 yX11_undo wsX11_undo) := goodIn_app (goodIn_of _ (by decide +kernel)) ggL_law_X11_undo
set_option maxRecDepth 20000 in
theorem ggL_law_X12_undo : GoodIn wsL_law wsX12_undo := goodIn_r _ [875, 557, 247, 248, 1592, 1593, 1594, 1595, 1596, 1597, 1598, 1599, 1600, 1601, 1602, 1603, 1604, 1605, 1606, 1607, 1608, 1609, 1610, 1611, 1612, 1613, 1614, 1615, 1616, 1617, 1618, 1619, 1620, 1621, 1622, 1623, 1624, 1625, 1626, 1627, 1628, 1629, 1630, 1631, 1632, 1633, 1634, 1635, 1636, 1637, 1638, 1639, 1640, 1641, 1642, 1643, 1644, 1645, 1646, 1647, 1648, 1649, 1650, 1651, 1652, 1653, 1654, 1655, 1656, 1657, 1658, 1659, 1660, 1661, 1662, 1663, 1664, 1665, 1666, 1667, 1668, 1669, 1670, 1671, 1672, 1673, 1674, 1675, 1676, 1677, 1678, 1679, 1680, 1681] (by decide +kernel) (by decide +kernel)
set_option maxRecDepth 20000 in
theorem gL_law_X12_undo : GoodIn wsL_law (wsV RL 70 RX12 yX12_undo wsX12_undo) := goodIn_app (goodIn_of _ (by decide +kernel)) ggL_law_X12_undo
set_option maxRecDepth 20000 in
theorem ggL_law_X11_way : GoodIn wsL_law wsX11_way := goodIn_r _ [879, 30, 50, 21, 880, 881, 882, 883, 2, 884, 738, 739, 740, 49, 741, 395, 671, 672, 673, 674, 393, 699, 700, 701, 702, 392, 885, 886, 29, 887, 888, 889, 890, 891, 892, 893, 542, 894, 895, 896, 165, 897, 898, 899, 900, 901, 902, 903, 904, 905, 906, 907, 908, 909, 910, 172, 170, 911, 912, 173, 913, 914, 337, 915, 916, 917, 918, 919, 920, 743, 744, 745, 746, 747, 748, 749, 750, 751, 921, 922, 923, 169, 924, 925, 179, 926, 927, 928, 929, 180, 930, 931, 932, 933, 178, 934, 935, 936, 937, 938, 939, 940, 941, 942, 943, 944, 945, 946, 947, 948, 949, 950, 951, 488, 489, 952, 848, 849, 850, 138, 953, 954, 955, 956, 957, 166, 958, 959, 960, 961, 962, 963, 964, 676, 677, 678, 137, 965, 793, 794, 795, 397, 796, 797, 798, 799, 800, 704, 705, 706, 136, 801, 966, 967, 968, 969, 970, 971, 972, 973, 974, 975, 976, 491, 492, 977, 978, 979, 980, 981, 982, 983, 984, 985, 986, 987, 988, 989, 990, 991, 992, 993, 994, 995, 996, 174, 997, 998, 999, 1000, 1001, 1002, 1003, 1004, 1005, 1006, 1007, 162, 1008, 336, 338, 1581, 1582, 1583, 1584, 1585, 1586, 1587, 1588, 1589, 1590, 1591, 1698, 1699, 1700, 1701, 1702, 1703, 1704, 1705, 1706, 1707, 1708, 1709, 1710, 1711, 1712, 1713, 1714, 1715, 1749, 1750, 1751, 1752, 1753, 1754, 1755, 1756, 1757, 1758, 1759, 1760, 1761, 1762, 1763, 1764, 1765, 1766, 1685, 1686, 1687, 1688, 1689, 1690, 1691, 1779, 1780, 1781, 1782] (by decide +kernel) (by decide +kernel)
set_option maxRecDepth 20000 in
theorem gL_law_X11_way : GoodIn wsL_law (wsV RL 71 RX11 yX11_way wsX11_way) := goodIn_app (goodIn_of _ (by decide +kernel)) ggL_law_X11_way
set_option maxRecDepth 20000 in
theorem ggL_law_X12_way : GoodIn wsL_law wsX12_way := goodIn_r _ [1012, 1013, 1014, 1015, 1016, 1017, 1018, 1019, 5, 1020, 756, 757, 758, 759, 240, 552, 687, 688, 689, 683, 684, 685, 686, 233, 711, 712, 713, 714, 231, 1021, 1022, 1023, 1024, 1025, 1026, 1027, 1028, 1029, 1030, 1031, 1032, 1033, 249, 1034, 1035, 1036, 1037, 1038, 1039, 1040, 1041, 1042, 780, 781, 782, 1043, 1044, 1045, 1046, 237, 1047, 1048, 1049, 1050, 1051, 1052, 1053, 1054, 690, 691, 692, 693, 239, 650, 651, 652, 653, 241, 1055, 1056, 1057, 1058, 1059, 806, 807, 808, 809, 243, 810, 811, 812, 813, 715, 716, 717, 718, 234, 232, 1060, 1061, 1062, 1063, 1064, 1065, 1066, 1067, 1068, 1069, 760, 761, 762, 763, 247, 764, 765, 766, 767, 1070, 1071, 1072, 1073, 1074, 1075, 1076, 1077, 250, 1592, 1593, 1594, 1595, 1596, 1597, 1598, 1599, 1600, 1601, 1602, 1603, 1604, 1605, 1606, 1607, 1608, 1609, 1610, 1611, 1612, 1613, 1614, 1615, 1616, 1617, 1618, 1619, 1620, 1621, 1622, 1623, 1624, 1625, 1626, 1627, 1628, 1629, 1630, 1631, 1632, 1633, 1634, 1635, 1636, 1637, 1638, 1639, 1640, 1641, 1642, 1643, 1644, 1645, 1646, 1647, 1648, 1649, 1650, 1651, 1652, 1653, 1654, 1655, 1656, 1657, 1658, 1659, 1660, 1661, 1662, 1663, 1664, 1665, 1666, 1667, 1668, 1669, 1670, 1671, 1672, 1673, 1674, 1675, 1676, 1677, 1678, 1679, 1680, 1681] (by decide +kernel) (by decide +kernel)
set_option maxRecDepth 20000 in
theorem gL_law_X12_way : GoodIn wsL_law (wsV RL 74 RX12 yX12_way wsX12_way) := goodIn_app (goodIn_of _ (by decide +kernel)) ggL_law_X12_way
set_option maxRecDepth 20000 in
theorem ggL_law_X11_step : GoodIn wsL_law wsX11_step := goodIn_r _ [1081, 30, 50, 21, 881, 882, 883, 2, 884, 738, 739, 740, 49, 741, 395, 671, 672, 673, 674, 393, 699, 700, 701, 702, 392, 885, 886, 29, 887, 888, 889, 890, 891, 892, 893, 542, 894, 895, 896, 165, 897, 898, 899, 900, 901, 902, 903, 904, 905, 906, 907, 908, 909, 910, 172, 170, 911, 912, 173, 913, 914, 337, 915, 916, 917, 918, 919, 920, 743, 744, 745, 746, 747, 748, 749, 750, 751, 921, 922, 923, 169, 924, 925, 179, 926, 927, 928, 929, 180, 930, 931, 932, 933, 178, 934, 935, 936, 937, 938, 939, 940, 941, 942, 943, 944, 945, 946, 947, 948, 949, 950, 951, 488, 489, 952, 848, 849, 850, 138, 953, 954, 955, 956, 957, 166, 958, 959, 960, 961, 962, 963, 964, 676, 677, 678, 137, 965, 793, 794, 795, 397, 796, 797, 798, 799, 800, 704, 705, 706, 136, 801, 966, 967, 968, 969, 970, 971, 972, 973, 974, 975, 976, 491, 492, 977, 978, 979, 980, 981, 982, 983, 984, 985, 986, 987, 988, 989, 990, 991, 992, 993, 994, 995, 996, 174, 997, 998, 999, 1000, 1001, 1002, 1003, 1004, 1005, 1006, 1007, 162, 1008, 336, 338, 1581, 1582, 1583, 1584, 1585, 1586, 1587, 1588, 1589, 1590, 1591, 1749, 1750, 1751, 1752, 1753, 1754, 1755, 1756, 1757, 1758, 1759, 1760, 1761, 1762, 1763, 1764, 1765, 1766, 1685, 1686, 1687, 1688, 1689, 1690, 1691, 1698, 1699, 1700, 1701, 1702, 1703, 1704, 1705, 1706, 1707, 1708, 1709, 1710, 1711, 1712, 1713, 1714, 1715, 1779, 1780, 1781, 1782] (by decide +kernel) (by decide +kernel)
set_option maxRecDepth 20000 in
theorem gL_law_X11_step : GoodIn wsL_law (wsV RL 75 RX11 yX11_step wsX11_step) := goodIn_app (goodIn_of _ (by decide +kernel)) ggL_law_X11_step
set_option maxRecDepth 20000 in
theorem ggL_law_X12_step : GoodIn wsL_law wsX12_step := goodIn_r _ [1085, 1016, 250, 1017, 1018, 1019, 5, 1020, 756, 757, 758, 759, 240, 552, 687, 688, 689, 683, 684, 685, 686, 233, 711, 712, 713, 714, 231, 1021, 1022, 1023, 1024, 1025, 1026, 1027, 1028, 1029, 1030, 1031, 1032, 1033, 249, 1034, 1035, 1036, 1037, 1038, 1039, 1040, 1041, 1042, 780, 781, 782, 1043, 1044, 1045, 1046, 237, 1047, 1048, 1049, 1050, 1051, 1052, 1053, 1054, 690, 691, 692, 693, 239, 650, 651, 652, 653, 241, 1055, 1056, 1057, 1058, 1059, 806, 807, 808, 809, 243, 810, 811, 812, 813, 715, 716, 717, 718, 234, 232, 1060, 1061, 1062, 1063, 1064, 1065, 1066, 1067, 1013, 1014, 1015, 1068, 1069, 760, 761, 762, 763, 247, 764, 765, 766, 767, 1070, 1071, 1072, 1073, 1074, 1075, 1076, 1077, 1592, 1593, 1594, 1595, 1596, 1597, 1598, 1599, 1600, 1601, 1602, 1603, 1604, 1605, 1606, 1607, 1608, 1609, 1610, 1611, 1612, 1613, 1614, 1615, 1616, 1617, 1618, 1619, 1620, 1621, 1622, 1623, 1624, 1625, 1626, 1627, 1628, 1629, 1630, 1631, 1632, 1633, 1634, 1635, 1636, 1637, 1638, 1639, 1640, 1641, 1642, 1643, 1644, 1645, 1646, 1647, 1648, 1649, 1650, 1651, 1652, 1653, 1654, 1655, 1656, 1657, 1658, 1659, 1660, 1661, 1662, 1663, 1664, 1665, 1666, 1667, 1668, 1669, 1670, 1671, 1672, 1673, 1674, 1675, 1676, 1677, 1678, 1679, 1680, 1681] (by decide +kernel) (by decide +kernel)
set_option maxRecDepth 20000 in
theorem gL_law_X12_step : GoodIn wsL_law (wsV RL 78 RX12 yX12_step wsX12_step) := goodIn_app (goodIn_of _ (by decide +kernel)) ggL_law_X12_step
set_option maxRecDepth 20000 in
theorem ggL_law_X11_rid : GoodIn wsL_law wsX11_rid := goodIn_r _ [1089, 50, 30, 21, 880, 738, 739, 740, 49, 741, 395, 699, 700, 701, 702, 392, 885, 886, 29, 887, 888, 889, 890, 891, 892, 893, 542, 894, 895, 896, 165, 897, 898, 899, 900, 901, 902, 903, 904, 905, 906, 907, 908, 909, 910, 172, 170, 911, 912, 173, 913, 914, 337, 915, 916, 917, 918, 919, 920, 743, 744, 745, 746, 747, 748, 749, 750, 751, 921, 922, 923, 169, 924, 925, 179, 926, 927, 928, 929, 180, 930, 931, 932, 933, 178, 934, 935, 936, 937, 938, 939, 940, 941, 942, 943, 944, 945, 946, 947, 948, 949, 950, 951, 488, 489, 952, 848, 849, 850, 138, 953, 954, 955, 956, 957, 166, 958, 959, 960, 961, 962, 963, 964, 676, 677, 678, 137, 965, 793, 794, 795, 397, 796, 797, 798, 799, 800, 704, 705, 706, 136, 801, 966, 967, 968, 969, 970, 971, 972, 973, 974, 975, 976, 491, 492, 977, 978, 979, 980, 981, 982, 983, 984, 985, 986, 987, 988, 989, 990, 991, 992, 993, 994, 995, 996, 174, 997, 998, 999, 1000, 1001, 1002, 1003, 1004, 1005, 1006, 1007, 162, 1008, 336, 338, 1581, 1582, 1583, 1584, 1585, 1586, 1587, 1588, 1589, 1590, 1591, 1698, 1699, 1700, 1701, 1702, 1703, 1704, 1705, 1706, 1707, 1708, 1709, 1710, 1711, 1712, 1713, 1714, 1715, 1749, 1750, 1751, 1752, 1753, 1754, 1755, 1756, 1757, 1758, 1759, 1760, 1761, 1762, 1763, 1764, 1765, 1766, 1685, 1686, 1687, 1688, 1689, 1690, 1691, 1779, 1780, 1781, 1782] (by decide +kernel) (by decide +kernel)
set_option maxRecDepth 20000 in
theorem gL_law_X11_rid : GoodIn wsL_law (wsV RL 79 RX11 yX11_rid wsX11_rid) := goodIn_app (goodIn_of _ (by decide +kernel)) ggL_law_X11_rid
set_option maxRecDepth 20000 in
theorem ggL_law_X12_rid : GoodIn wsL_law wsX12_rid := goodIn_r _ [1093, 1013, 1014, 1015, 756, 757, 758, 5, 759, 240, 552, 687, 688, 689, 711, 712, 713, 714, 231, 1021, 1022, 1023, 1024, 1025, 1026, 1027, 1028, 1029, 1030, 1031, 1032, 1033, 233, 249, 1034, 1035, 1036, 1037, 1038, 1039, 1040, 1041, 1042, 780, 781, 782, 1043, 1044, 1045, 1046, 237, 1047, 1048, 1049, 1050, 1051, 1052, 1053, 1054, 690, 691, 692, 693, 239, 650, 651, 652, 653, 241, 1055, 1056, 1057, 1058, 1059, 806, 807, 808, 809, 243, 810, 811, 812, 813, 715, 716, 717, 718, 234, 232, 1060, 1061, 1062, 1063, 1064, 1065, 1066, 1067, 1016, 1068, 1069, 760, 761, 762, 763, 247, 764, 765, 766, 767, 1070, 1071, 1072, 1073, 1074, 1075, 1076, 1077, 250, 1592, 1593, 1594, 1595, 1596, 1597, 1598, 1599, 1600, 1601, 1602, 1603, 1604, 1605, 1606, 1607, 1608, 1609, 1610, 1611, 1612, 1613, 1614, 1615, 1616, 1617, 1618, 1619, 1620, 1621, 1622, 1623, 1624, 1625, 1626, 1627, 1628, 1629, 1630, 1631, 1632, 1633, 1634, 1635, 1636, 1637, 1638, 1639, 1640, 1641, 1642, 1643, 1644, 1645, 1646, 1647, 1648, 1649, 1650, 1651, 1652, 1653, 1654, 1655, 1656, 1657, 1658, 1659, 1660, 1661, 1662, 1663, 1664, 1665, 1666, 1667, 1668, 1669, 1670, 1671, 1672, 1673, 1674, 1675, 1676, 1677, 1678, 1679, 1680, 1681] (by decide +kernel) (by decide +kernel)
set_option maxRecDepth 20000 in
theorem gL_law_X12_rid : GoodIn wsL_law (wsV RL 83 RX12 yX12_rid wsX12_rid) := goodIn_app (goodIn_of _ (by decide +kernel)) ggL_law_X12_rid
set_option maxRecDepth 20000 in
theorem ggL_law_X11_get : GoodIn wsL_law wsX11_get := goodIn_r _ [1097, 50, 30, 21, 738, 739, 740, 49, 741, 395, 699, 700, 701, 702, 392, 888, 889, 890, 29, 891, 892, 893, 542, 894, 895, 896, 165, 897, 898, 899, 900, 901, 902, 903, 904, 905, 906, 907, 908, 909, 910, 172, 170, 911, 912, 173, 913, 914, 337, 915, 916, 917, 918, 919, 920, 743, 744, 745, 746, 747, 748, 749, 750, 751, 921, 922, 923, 169, 924, 925, 179, 926, 927, 928, 929, 180, 930, 931, 932, 933, 178, 934, 935, 936, 937, 938, 939, 940, 941, 942, 943, 944, 945, 946, 947, 948, 949, 950, 951, 488, 489, 952, 848, 849, 850, 138, 953, 954, 955, 956, 957, 166, 958, 959, 960, 961, 962, 963, 964, 676, 677, 678, 137, 965, 793, 794, 795, 397, 796, 797, 798, 799, 800, 704, 705, 706, 136, 801, 966, 967, 968, 969, 970, 971, 972, 973, 974, 975, 976, 491, 492, 977, 978, 979, 980, 981, 982, 983, 984, 985, 986, 987, 988, 989, 990, 991, 992, 993, 994, 995, 996, 174, 997, 998, 999, 1000, 1001, 1002, 1003, 1098, 1099, 1100, 1101, 1581, 1582, 1583, 1584, 1585, 1586, 1587, 1588, 1589, 1590, 1591, 1749, 1750, 1751, 1752, 1753, 1754, 1755, 1756, 1757, 1758, 1759, 1760, 1761, 1762, 1763, 1764, 1765, 1766, 1685, 1686, 1687, 1688, 1689, 1690, 1691, 1698, 1699, 1700, 1701, 1702, 1703, 1704, 1705, 1706, 1707, 1708, 1709, 1710, 1711, 1712, 1713, 1714, 1715, 1779, 1780, 1781, 1782] (by decide +kernel) (by decide +kernel)
set_option maxRecDepth 20000 in
theorem gL_law_X11_get : GoodIn wsL_law (wsV RL 84 RX11 yX11_get wsX11_get) := goodIn_app (goodIn_of _ (by decide +kernel)) ggL_law_X11_get
set_option maxRecDepth 20000 in
theorem ggL_law_X12_get : GoodIn wsL_law wsX12_get := goodIn_r _ [1105, 1013, 756, 757, 758, 5, 759, 240, 552, 687, 688, 689, 711, 712, 713, 714, 231, 1021, 1022, 1023, 1024, 1025, 1026, 1027, 1028, 1029, 1030, 1031, 1032, 1033, 233, 249, 1034, 1035, 1036, 1037, 1038, 1039, 1040, 1041, 1042, 780, 781, 782, 1043, 1044, 1045, 1046, 237, 1047, 1048, 1049, 1050, 1051, 1052, 1053, 1054, 690, 691, 692, 693, 239, 650, 651, 652, 653, 241, 1055, 1056, 1057, 1058, 1059, 806, 807, 808, 809, 243, 810, 811, 812, 813, 715, 716, 717, 718, 234, 232, 1060, 1061, 1062, 1063, 1064, 1065, 1066, 1067, 1016, 1014, 1015, 1068, 1069, 760, 761, 762, 763, 247, 764, 765, 766, 767, 1070, 1071, 1072, 1073, 1074, 1075, 1076, 1077, 250, 1592, 1593, 1594, 1595, 1596, 1597, 1598, 1599, 1600, 1601, 1602, 1603, 1604, 1605, 1606, 1607, 1608, 1609, 1610, 1611, 1612, 1613, 1614, 1615, 1616, 1617, 1618, 1619, 1620, 1621, 1622, 1623, 1624, 1625, 1626, 1627, 1628, 1629, 1630, 1631, 1632, 1633, 1634, 1635, 1636, 1637, 1638, 1639, 1640, 1641, 1642, 1643, 1644, 1645, 1646, 1647, 1648, 1649, 1650, 1651, 1652, 1653, 1654, 1655, 1656, 1657, 1658, 1659, 1660, 1661, 1662, 1663, 1664, 1665, 1666, 1667, 1668, 1669, 1670, 1671, 1672, 1673, 1674, 1675, 1676, 1677, 1678, 1679, 1680, 1681] (by decide +kernel) (by decide +kernel)
set_option maxRecDepth 20000 in
theorem gL_law_X12_get : GoodIn wsL_law (wsV RL 87 RX12 yX12_get wsX12_get) := goodIn_app (goodIn_of _ (by decide +kernel)) ggL_law_X12_get
set_option maxRecDepth 20000 in
theorem ggL_law_X11_inReach : GoodIn wsL_law wsX11_inReach := goodIn_r _ [1109, 50, 30, 21, 738, 739, 740, 49, 741, 395, 888, 889, 890, 29, 891, 892, 893, 542, 894, 895, 896, 165, 897, 898, 899, 900, 901, 902, 903, 904, 905, 906, 907, 908, 909, 910, 172, 170, 911, 912, 173, 913, 914, 337, 915, 916, 917, 918, 919, 920, 743, 744, 745, 746, 747, 748, 749, 750, 751, 921, 922, 923, 169, 924, 925, 179, 926, 927, 928, 929, 180, 930, 931, 932, 933, 178, 934, 935, 936, 937, 938, 939, 940, 941, 942, 943, 944, 945, 946, 947, 948, 949, 950, 951, 488, 489, 952, 848, 849, 850, 138, 953, 954, 955, 956, 957, 166, 958, 959, 960, 961, 962, 963, 964, 676, 677, 678, 137, 965, 793, 794, 795, 397, 392, 796, 797, 798, 799, 800, 704, 705, 706, 136, 801, 966, 967, 968, 969, 970, 971, 972, 973, 974, 975, 976, 491, 492, 977, 978, 979, 980, 981, 982, 983, 984, 985, 986, 987, 988, 989, 990, 991, 992, 993, 994, 995, 996, 174, 997, 998, 999, 1000, 1001, 1002, 1003, 1110, 1111, 1112, 1113, 1581, 1582, 1583, 1584, 1585, 1586, 1587, 1588, 1589, 1590, 1591, 1749, 1750, 1751, 1752, 1753, 1754, 1755, 1756, 1757, 1758, 1759, 1760, 1761, 1762, 1763, 1764, 1765, 1766, 1685, 1686, 1687, 1688, 1689, 1690, 1691, 1698, 1699, 1700, 1701, 1702, 1703, 1704, 1705, 1706, 1707, 1708, 1709, 1710, 1711, 1712, 1713, 1714, 1715, 1779, 1780, 1781, 1782] (by decide +kernel) (by decide +kernel)
set_option maxRecDepth 20000 in
theorem gL_law_X11_inReach : GoodIn wsL_law (wsV RL 88 RX11 yX11_inReach wsX11_inReach) := goodIn_app (goodIn_of _ (by decide +kernel)) ggL_law_X11_inReach
set_option maxRecDepth 20000 in
theorem ggL_law_X12_inReach : GoodIn wsL_law wsX12_inReach := goodIn_r _ [1117, 233, 552, 756, 757, 758, 5, 759, 240, 687, 688, 689, 1118, 1119, 1120, 1121, 251, 1122, 252, 231, 760, 761, 762, 763, 247, 764, 765, 766, 767, 1123, 1124, 1125, 1126, 690, 691, 692, 693, 239, 650, 651, 652, 653, 241, 806, 807, 808, 809, 243, 780, 781, 782, 810, 811, 812, 813, 715, 716, 717, 718, 234, 232, 1043, 1044, 1045, 1046, 237, 1127, 1128, 1129, 1130, 1035, 1036, 1037, 1038, 768, 769, 770, 1592, 1593, 1594, 1595, 1596, 1597, 1598, 1599, 1600, 1601, 1602, 1603, 1604, 1605, 1606, 1607, 1608, 1609, 1610, 1611, 1612, 1613, 1614, 1615, 1616, 1617, 1618, 1619, 1620, 1621, 1622, 1623, 1624, 1625, 1626, 1627, 1628, 1629, 1630, 1631, 1632, 1633, 1634, 1635, 1636, 1637, 1638, 1639, 1640, 1641, 1642, 1643, 1644, 1645, 1646, 1647, 1648, 1649, 1650, 1651, 1652, 1653, 1654, 1655, 1656, 1657, 1658, 1659, 1660, 1661, 1662, 1663, 1664, 1665, 1666, 1667, 1668, 1669, 1670, 1671, 1672, 1673, 1674, 1675, 1676, 1677, 1678, 1679, 1680, 1681] (by decide +kernel) (by decide +kernel)
set_option maxRecDepth 20000 in
theorem gL_law_X12_inReach : GoodIn wsL_law (wsV RL 91 RX12 yX12_inReach wsX12_inReach) := goodIn_app (goodIn_of _ (by decide +kernel)) ggL_law_X12_inReach
set_option maxRecDepth 20000 in
theorem ggL_law_X11_most : GoodIn wsL_law wsX11_most := goodIn_r _ [1134, 50, 30, 21, 738, 739, 740, 49, 741, 395, 671, 672, 673, 674, 393, 888, 889, 890, 29, 891, 892, 893, 542, 894, 895, 896, 165, 897, 898, 899, 900, 901, 902, 903, 904, 905, 906, 907, 908, 909, 910, 172, 170, 911, 912, 173, 913, 914, 337, 915, 916, 917, 918, 919, 920, 743, 744, 745, 746, 747, 748, 749, 750, 751, 921, 922, 923, 169, 924, 925, 179, 926, 927, 928, 929, 180, 930, 931, 932, 933, 178, 934, 935, 936, 937, 938, 939, 940, 941, 942, 943, 944, 945, 946, 947, 948, 949, 950, 951, 488, 489, 952, 848, 849, 850, 138, 953, 954, 955, 956, 957, 166, 958, 959, 960, 961, 962, 963, 964, 676, 677, 678, 137, 965, 793, 794, 795, 397, 392, 796, 797, 798, 799, 800, 704, 705, 706, 136, 801, 966, 967, 968, 969, 970, 971, 972, 973, 974, 975, 976, 491, 492, 977, 978, 979, 980, 981, 982, 983, 984, 985, 986, 987, 988, 989, 990, 991, 992, 993, 994, 995, 996, 174, 997, 998, 999, 1000, 1001, 1002, 1003, 1135, 1136, 1137, 1138, 1139, 1140, 825, 1141, 1581, 1582, 1583, 1584, 1585, 1586, 1587, 1588, 1589, 1590, 1591, 1749, 1750, 1751, 1752, 1753, 1754, 1755, 1756, 1757, 1758, 1759, 1760, 1761, 1762, 1763, 1764, 1765, 1766, 1685, 1686, 1687, 1688, 1689, 1690, 1691, 1698, 1699, 1700, 1701, 1702, 1703, 1704, 1705, 1706, 1707, 1708, 1709, 1710, 1711, 1712, 1713, 1714, 1715, 1779, 1780, 1781, 1782] (by decide +kernel) (by decide +kernel)
set_option maxRecDepth 20000 in
theorem gL_law_X11_most : GoodIn wsL_law (wsV RL 92 RX11 yX11_most wsX11_most) := goodIn_app (goodIn_of _ (by decide +kernel)) ggL_law_X11_most
set_option maxRecDepth 20000 in
theorem ggL_law_X12_most : GoodIn wsL_law wsX12_most := goodIn_r _ [1145, 756, 757, 758, 5, 759, 240, 552, 687, 688, 689, 683, 684, 685, 686, 233, 1118, 1119, 1120, 1121, 251, 1122, 252, 231, 760, 761, 762, 763, 247, 764, 765, 766, 767, 1123, 1124, 1125, 1126, 690, 691, 692, 693, 239, 650, 651, 652, 653, 241, 806, 807, 808, 809, 243, 780, 781, 782, 810, 811, 812, 813, 715, 716, 717, 718, 234, 232, 1043, 1044, 1045, 1046, 237, 1127, 1128, 1129, 1130, 1035, 1036, 1037, 1038, 768, 769, 770, 1592, 1593, 1594, 1595, 1596, 1597, 1598, 1599, 1600, 1601, 1602, 1603, 1604, 1605, 1606, 1607, 1608, 1609, 1610, 1611, 1612, 1613, 1614, 1615, 1616, 1617, 1618, 1619, 1620, 1621, 1622, 1623, 1624, 1625, 1626, 1627, 1628, 1629, 1630, 1631, 1632, 1633, 1634, 1635, 1636, 1637, 1638, 1639, 1640, 1641, 1642, 1643, 1644, 1645, 1646, 1647, 1648, 1649, 1650, 1651, 1652, 1653, 1654, 1655, 1656, 1657, 1658, 1659, 1660, 1661, 1662, 1663, 1664, 1665, 1666, 1667, 1668, 1669, 1670, 1671, 1672, 1673, 1674, 1675, 1676, 1677, 1678, 1679, 1680, 1681] (by decide +kernel) (by decide +kernel)
set_option maxRecDepth 20000 in
theorem gL_law_X12_most : GoodIn wsL_law (wsV RL 95 RX12 yX12_most wsX12_most) := goodIn_app (goodIn_of _ (by decide +kernel)) ggL_law_X12_most
set_option maxRecDepth 20000 in
theorem ggL_law_X11_meet : GoodIn wsL_law wsX11_meet := goodIn_r _ [1149, 50, 30, 1150, 21, 1151, 738, 739, 740, 49, 741, 395, 1152, 336, 337, 338, 888, 889, 890, 29, 891, 892, 893, 542, 894, 895, 896, 165, 897, 898, 899, 900, 901, 902, 903, 904, 905, 906, 907, 908, 909, 910, 172, 170, 911, 912, 173, 913, 914, 915, 916, 917, 918, 919, 920, 743, 744, 745, 746, 747, 748, 749, 750, 751, 921, 922, 923, 169, 924, 925, 179, 926, 927, 928, 929, 180, 930, 931, 932, 933, 178, 934, 935, 936, 937, 938, 939, 940, 941, 942, 943, 944, 945, 946, 947, 948, 949, 950, 951, 488, 489, 952, 848, 849, 850, 138, 953, 954, 955, 956, 957, 166, 958, 959, 960, 961, 962, 963, 964, 676, 677, 678, 137, 965, 793, 794, 795, 397, 392, 796, 797, 798, 799, 800, 704, 705, 706, 136, 801, 966, 967, 968, 969, 970, 971, 972, 973, 974, 975, 976, 491, 492, 977, 978, 979, 980, 981, 982, 983, 984, 985, 986, 987, 988, 989, 990, 991, 992, 993, 994, 995, 996, 174, 997, 998, 999, 1000, 1001, 1002, 1003, 1153, 1154, 1155, 1156, 163, 1581, 1582, 1583, 1584, 1585, 1586, 1587, 1588, 1589, 1590, 1591, 1698, 1699, 1700, 1701, 1702, 1703, 1704, 1705, 1706, 1707, 1708, 1709, 1710, 1711, 1712, 1713, 1714, 1715, 1749, 1750, 1751, 1752, 1753, 1754, 1755, 1756, 1757, 1758, 1759, 1760, 1761, 1762, 1763, 1764, 1765, 1766, 1685, 1686, 1687, 1688, 1689, 1690, 1691, 1779, 1780, 1781, 1782] (by decide +kernel) (by decide +kernel)
set_option maxRecDepth 20000 in
theorem gL_law_X11_meet : GoodIn wsL_law (wsV RL 96 RX11 yX11_meet wsX11_meet) := goodIn_app (goodIn_of _ (by decide +kernel)) ggL_law_X11_meet
set_option maxRecDepth 20000 in
theorem ggL_law_X12_meet : GoodIn wsL_law wsX12_meet := goodIn_r _ [1160, 233, 552, 756, 757, 758, 5, 759, 240, 687, 688, 689, 1161, 1162, 1163, 1164, 1014, 1021, 1022, 1023, 1024, 1025, 1026, 1027, 1028, 1029, 1030, 1031, 1032, 1033, 249, 1034, 1035, 1036, 1037, 1038, 231, 1039, 1040, 1041, 1042, 780, 781, 782, 1043, 1044, 1045, 1046, 237, 1047, 1048, 1049, 1050, 1051, 1052, 1053, 1054, 690, 691, 692, 693, 239, 650, 651, 652, 653, 241, 1055, 1056, 1057, 1058, 1059, 806, 807, 808, 809, 243, 810, 811, 812, 813, 715, 716, 717, 718, 234, 232, 1060, 1061, 1062, 1063, 1064, 1065, 1066, 1067, 1016, 1013, 1015, 1068, 1069, 760, 761, 762, 763, 247, 764, 765, 766, 767, 1070, 1071, 1072, 1073, 1074, 1075, 1076, 1077, 250, 1592, 1593, 1594, 1595, 1596, 1597, 1598, 1599, 1600, 1601, 1602, 1603, 1604, 1605, 1606, 1607, 1608, 1609, 1610, 1611, 1612, 1613, 1614, 1615, 1616, 1617, 1618, 1619, 1620, 1621, 1622, 1623, 1624, 1625, 1626, 1627, 1628, 1629, 1630, 1631, 1632, 1633, 1634, 1635, 1636, 1637, 1638, 1639, 1640, 1641, 1642, 1643, 1644, 1645, 1646, 1647, 1648, 1649, 1650, 1651, 1652, 1653, 1654, 1655, 1656, 1657, 1658, 1659, 1660, 1661, 1662, 1663, 1664, 1665, 1666, 1667, 1668, 1669, 1670, 1671, 1672, 1673, 1674, 1675, 1676, 1677, 1678, 1679, 1680, 1681] (by decide +kernel) (by decide +kernel)
set_option maxRecDepth 20000 in
theorem gL_law_X12_meet : GoodIn wsL_law (wsV RL 99 RX12 yX12_meet wsX12_meet) := goodIn_app (goodIn_of _ (by decide +kernel)) ggL_law_X12_meet
set_option maxRecDepth 20000 in
theorem ggL_law_X11_riches : GoodIn wsL_law wsX11_riches := goodIn_r _ [1168, 50, 1151, 671, 672, 673, 49, 674, 393, 1169, 1170, 1171, 2, 1172, 1173, 21, 723, 724, 447, 448, 703, 704, 705, 706, 136, 1581, 1582, 1583, 1584, 1585, 1586, 1587, 1588, 1589, 1590, 1591, 1749, 1750, 1751, 1752, 1753, 1754, 1755, 1756, 1757, 1758, 1759, 1760, 1761, 1762, 1763, 1764, 1765, 1766, 1685, 1686, 1687, 1688, 1689, 1690, 1691] (by decide +kernel) (by decide +kernel)
set_option maxRecDepth 20000 in
theorem gL_law_X11_riches : GoodIn wsL_law (wsV RL 100 RX11 yX11_riches wsX11_riches) := goodIn_app (goodIn_of _ (by decide +kernel)) ggL_law_X11_riches
set_option maxRecDepth 20000 in
theorem ggL_law_X12_riches : GoodIn wsL_law wsX12_riches := goodIn_r _ [1177, 233, 552, 683, 684, 685, 5, 686, 687, 688, 689, 1178, 1179, 1180, 1181, 231, 247, 715, 716, 717, 718, 234, 232, 1592, 1593, 1594, 1595, 1596, 1597, 1598, 1599, 1600, 1601, 1602, 1603, 1604, 1605, 1606, 1607, 1608, 1609, 1610, 1611, 1612, 1613, 1614, 1615, 1616, 1617, 1618, 1619, 1620, 1621, 1622, 1623, 1624, 1625, 1626, 1627, 1628, 1629, 1630, 1631, 1632, 1633, 1634, 1635, 1636, 1637, 1638, 1639, 1640, 1641, 1642, 1643, 1644, 1645, 1646, 1647, 1648, 1649, 1650, 1651, 1652, 1653, 1654, 1655, 1656, 1657, 1658, 1659, 1660, 1661, 1662, 1663, 1664, 1665, 1666, 1667, 1668, 1669, 1670, 1671, 1672, 1673, 1674, 1675, 1676, 1677, 1678, 1679, 1680, 1681] (by decide +kernel) (by decide +kernel)
set_option maxRecDepth 20000 in
theorem gL_law_X12_riches : GoodIn wsL_law (wsV RL 103 RX12 yX12_riches wsX12_riches) := goodIn_app (goodIn_of _ (by decide +kernel)) ggL_law_X12_riches
set_option maxRecDepth 20000 in
theorem ggL_law_X11_round : GoodIn wsL_law wsX11_round := goodIn_r _ [1185, 50, 1151, 34, 21, 738, 739, 740, 49, 741, 395, 1186, 1187, 1188, 33, 1189, 187, 1190, 1191, 1192, 1193, 1194, 184, 1195, 1196, 824, 825, 826, 185, 1197, 743, 744, 745, 746, 747, 748, 749, 750, 751, 1198, 336, 337, 338, 1199, 1200, 1201, 1202, 1203, 1204, 1205, 1206, 1207, 1208, 1209, 1210, 1211, 1212, 1213, 1214, 1215, 1216, 676, 677, 678, 137, 1217, 1218, 1219, 1220, 1221, 1222, 1223, 1224, 1581, 1582, 1583, 1584, 1585, 1586, 1587, 1588, 1589, 1590, 1591, 1749, 1750, 1751, 1752, 1753, 1754, 1755, 1756, 1757, 1758, 1759, 1760, 1761, 1762, 1763, 1764, 1765, 1766, 1716, 1717, 1718, 1719, 1720, 1685, 1686, 1687, 1688, 1689, 1690, 1691] (by decide +kernel) (by decide +kernel)
set_option maxRecDepth 20000 in
theorem gL_law_X11_round : GoodIn wsL_law (wsV RL 104 RX11 yX11_round wsX11_round) := goodIn_app (goodIn_of _ (by decide +kernel)) ggL_law_X11_round
set_option maxRecDepth 20000 in
theorem ggL_law_X12_round : GoodIn wsL_law wsX12_round := goodIn_r _ [1228, 233, 552, 253, 1229, 756, 757, 758, 5, 759, 240, 687, 688, 689, 650, 651, 652, 653, 241, 760, 761, 762, 763, 247, 764, 765, 766, 767, 768, 769, 770, 1230, 1231, 1232, 1233, 690, 691, 692, 693, 239, 1234, 1235, 1236, 1237, 254, 1592, 1593, 1594, 1595, 1596, 1597, 1598, 1599, 1600, 1601, 1602, 1603, 1604, 1605, 1606, 1607, 1608, 1609, 1610, 1611, 1612, 1613, 1614, 1615, 1616, 1617, 1618, 1619, 1620, 1621, 1622, 1623, 1624, 1625, 1626, 1627, 1628, 1629, 1630, 1631, 1632, 1633, 1634, 1635, 1636, 1637, 1638, 1639, 1640, 1641, 1642, 1643, 1644, 1645, 1646, 1647, 1648, 1649, 1650, 1651, 1652, 1653, 1654, 1655, 1656, 1657, 1658, 1659, 1660, 1661, 1662, 1663, 1664, 1665, 1666, 1667, 1668, 1669, 1670, 1671, 1672, 1673, 1674, 1675, 1676, 1677, 1678, 1679, 1680, 1681] (by decide +kernel) (by decide +kernel)
set_option maxRecDepth 20000 in
theorem gL_law_X12_round : GoodIn wsL_law (wsV RL 107 RX12 yX12_round wsX12_round) := goodIn_app (goodIn_of _ (by decide +kernel)) ggL_law_X12_round
set_option maxRecDepth 20000 in
theorem ggL_law_X11_carried : GoodIn wsL_law wsX11_carried := goodIn_r _ [1241, 50, 38, 699, 700, 701, 49, 702, 392, 671, 672, 673, 674, 393, 1242, 1243, 1244, 37, 1245, 1246, 1247, 1248, 1249, 1250, 191, 1251, 1252, 1253, 1254, 193, 1255, 194, 1256, 1257, 447, 448, 1258, 488, 489, 1259, 1260, 1261, 1262, 195, 196, 192, 1263, 522, 523, 524, 1264, 336, 337, 338, 1265, 1266, 1267, 1268, 198, 1269, 1270, 1271, 1272, 1273, 197, 1274, 1275, 1276, 1277, 1278, 1279, 1280, 1281, 1581, 1582, 1583, 1584, 1585, 1586, 1587, 1588, 1589, 1590, 1591, 1749, 1750, 1751, 1752, 1753, 1754, 1755, 1756, 1757, 1758, 1759, 1760, 1761, 1762, 1763, 1764, 1765, 1766, 1721, 1722, 1723, 1724, 1725, 1726, 1727, 1728, 1729, 1730, 1731, 1732, 1733] (by decide +kernel) (by decide +kernel)
set_option maxRecDepth 20000 in
theorem gL_law_X11_carried : GoodIn wsL_law (wsV RL 108 RX11 yX11_carried wsX11_carried) := goodIn_app (goodIn_of _ (by decide +kernel)) ggL_law_X11_carried
set_option maxRecDepth 20000 in
theorem ggL_law_X12_carried : GoodIn wsL_law wsX12_carried := goodIn_r _ [1285, 711, 712, 713, 5, 714, 231, 552, 687, 688, 689, 683, 684, 685, 686, 233, 1286, 1287, 1288, 1289, 244, 1290, 255, 245, 256, 246, 1291, 1292, 1293, 1294, 261, 235, 240, 242, 650, 651, 652, 653, 241, 1295, 1296, 1297, 1298, 258, 257, 262, 1299, 1300, 1301, 1302, 259, 260, 1303, 1304, 1305, 1306, 1307, 1308, 1309, 1310, 1592, 1593, 1594, 1595, 1596, 1597, 1598, 1599, 1600, 1601, 1602, 1603, 1604, 1605, 1606, 1607, 1608, 1609, 1610, 1611, 1612, 1613, 1614, 1615, 1616, 1617, 1618, 1619, 1620, 1621, 1622, 1623, 1624, 1625, 1626, 1627, 1628, 1629, 1630, 1631, 1632, 1633, 1634, 1635, 1636, 1637, 1638, 1639, 1640, 1641, 1642, 1643, 1644, 1645, 1646, 1647, 1648, 1649, 1650, 1651, 1652, 1653, 1654, 1655, 1656, 1657, 1658, 1659, 1660, 1661, 1662, 1663, 1664, 1665, 1666, 1667, 1668, 1669, 1670, 1671, 1672, 1673, 1674, 1675, 1676, 1677, 1678, 1679, 1680, 1681] (by decide +kernel) (by decide +kernel)
set_option maxRecDepth 20000 in
theorem gL_law_X12_carried : GoodIn wsL_law (wsV RL 111 RX12 yX12_carried wsX12_carried) := goodIn_app (goodIn_of _ (by decide +kernel)) ggL_law_X12_carried
set_option maxRecDepth 20000 in
theorem ggL_law_X11_helps : GoodIn wsL_law wsX11_helps := goodIn_r _ [1314, 50, 38, 699, 700, 701, 49, 702, 392, 671, 672, 673, 674, 393, 1242, 1243, 1244, 37, 1245, 1246, 1247, 1248, 1249, 1250, 191, 1251, 1252, 1253, 1254, 193, 1255, 194, 1256, 1257, 447, 448, 1258, 488, 489, 1315, 1316, 1317, 1318, 1319, 1260, 1261, 1262, 195, 196, 192, 1263, 522, 523, 524, 1264, 336, 337, 338, 1265, 1266, 1267, 1268, 198, 1269, 1270, 1271, 1272, 1273, 197, 1274, 1275, 1276, 1277, 1278, 1279, 1280, 1281, 1320, 1321, 1322, 1323, 199, 1324, 1325, 1326, 1327, 1581, 1582, 1583, 1584, 1585, 1586, 1587, 1588, 1589, 1590, 1591, 1749, 1750, 1751, 1752, 1753, 1754, 1755, 1756, 1757, 1758, 1759, 1760, 1761, 1762, 1763, 1764, 1765, 1766, 1721, 1722, 1723, 1724, 1725, 1726, 1727, 1728, 1729, 1730, 1731, 1732, 1733] (by decide +kernel) (by decide +kernel)
set_option maxRecDepth 20000 in
theorem gL_law_X11_helps : GoodIn wsL_law (wsV RL 112 RX11 yX11_helps wsX11_helps) := goodIn_app (goodIn_of _ (by decide +kernel)) ggL_law_X11_helps
set_option maxRecDepth 20000 in
theorem ggL_law_X12_helps : GoodIn wsL_law wsX12_helps := goodIn_r _ [1331, 244, 552, 240, 233, 711, 712, 713, 5, 714, 231, 687, 688, 689, 683, 684, 685, 686, 1286, 1287, 1288, 1289, 1290, 255, 245, 256, 246, 1291, 1292, 1293, 1294, 261, 235, 242, 650, 651, 652, 653, 241, 1295, 1296, 1297, 1298, 258, 257, 262, 1299, 1300, 1301, 1302, 259, 260, 1303, 1304, 1305, 1306, 1307, 1308, 1309, 1310, 1332, 1333, 1334, 1335, 1592, 1593, 1594, 1595, 1596, 1597, 1598, 1599, 1600, 1601, 1602, 1603, 1604, 1605, 1606, 1607, 1608, 1609, 1610, 1611, 1612, 1613, 1614, 1615, 1616, 1617, 1618, 1619, 1620, 1621, 1622, 1623, 1624, 1625, 1626, 1627, 1628, 1629, 1630, 1631, 1632, 1633, 1634, 1635, 1636, 1637, 1638, 1639, 1640, 1641, 1642, 1643, 1644, 1645, 1646, 1647, 1648, 1649, 1650, 1651, 1652, 1653, 1654, 1655, 1656, 1657, 1658, 1659, 1660, 1661, 1662, 1663, 1664, 1665, 1666, 1667, 1668, 1669, 1670, 1671, 1672, 1673, 1674, 1675, 1676, 1677, 1678, 1679, 1680, 1681] (by decide +kernel) (by decide +kernel)
set_option maxRecDepth 20000 in
theorem gL_law_X12_helps : GoodIn wsL_law (wsV RL 115 RX12 yX12_helps wsX12_helps) := goodIn_app (goodIn_of _ (by decide +kernel)) ggL_law_X12_helps
set_option maxRecDepth 20000 in
theorem ggL_law_X11_turned : GoodIn wsL_law wsX11_turned := goodIn_r _ [1339, 50, 38, 699, 700, 701, 49, 702, 392, 671, 672, 673, 674, 393, 1242, 1243, 1244, 37, 1245, 1246, 1247, 1248, 1249, 1250, 191, 1251, 1252, 1253, 1254, 193, 1255, 194, 1256, 1257, 447, 448, 1258, 488, 489, 1340, 1341, 1342, 1343, 1319, 1260, 1261, 1262, 195, 196, 192, 1263, 522, 523, 524, 1264, 336, 337, 338, 1265, 1266, 1267, 1268, 198, 1269, 1270, 1271, 1272, 1273, 197, 1274, 1275, 1276, 1277, 1278, 1279, 1280, 1281, 1344, 1345, 1346, 1347, 1581, 1582, 1583, 1584, 1585, 1586, 1587, 1588, 1589, 1590, 1591, 1749, 1750, 1751, 1752, 1753, 1754, 1755, 1756, 1757, 1758, 1759, 1760, 1761, 1762, 1763, 1764, 1765, 1766, 1721, 1722, 1723, 1724, 1725, 1726, 1727, 1728, 1729, 1730, 1731, 1732, 1733] (by decide +kernel) (by decide +kernel)
set_option maxRecDepth 20000 in
theorem gL_law_X11_turned : GoodIn wsL_law (wsV RL 116 RX11 yX11_turned wsX11_turned) := goodIn_app (goodIn_of _ (by decide +kernel)) ggL_law_X11_turned
set_option maxRecDepth 20000 in
theorem ggL_law_X12_turned : GoodIn wsL_law wsX12_turned := goodIn_r _ [1351, 244, 552, 255, 245, 256, 246, 711, 712, 713, 5, 714, 231, 687, 688, 689, 683, 684, 685, 686, 233, 1286, 1287, 1288, 1289, 1290, 1291, 1292, 1293, 1294, 261, 235, 240, 242, 650, 651, 652, 653, 241, 1295, 1296, 1297, 1298, 258, 257, 262, 1299, 1300, 1301, 1302, 259, 260, 1303, 1304, 1305, 1306, 1307, 1308, 1309, 1310, 1592, 1593, 1594, 1595, 1596, 1597, 1598, 1599, 1600, 1601, 1602, 1603, 1604, 1605, 1606, 1607, 1608, 1609, 1610, 1611, 1612, 1613, 1614, 1615, 1616, 1617, 1618, 1619, 1620, 1621, 1622, 1623, 1624, 1625, 1626, 1627, 1628, 1629, 1630, 1631, 1632, 1633, 1634, 1635, 1636, 1637, 1638, 1639, 1640, 1641, 1642, 1643, 1644, 1645, 1646, 1647, 1648, 1649, 1650, 1651, 1652, 1653, 1654, 1655, 1656, 1657, 1658, 1659, 1660, 1661, 1662, 1663, 1664, 1665, 1666, 1667, 1668, 1669, 1670, 1671, 1672, 1673, 1674, 1675, 1676, 1677, 1678, 1679, 1680, 1681] (by decide +kernel) (by decide +kernel)
set_option maxRecDepth 20000 in
theorem gL_law_X12_turned : GoodIn wsL_law (wsV RL 119 RX12 yX12_turned wsX12_turned) := goodIn_app (goodIn_of _ (by decide +kernel)) ggL_law_X12_turned
set_option maxRecDepth 20000 in
theorem ggL_law_X11_year : GoodIn wsL_law wsX11_year := goodIn_r _ [1355, 42, 50, 21, 1356, 1357, 1358, 1359, 1360, 1361, 41, 1362, 204, 1363, 1364, 1365, 1366, 1367, 1368, 1369, 20, 1370, 519, 147, 521, 522, 523, 524, 148, 151, 149, 150, 1371, 1372, 1373, 1374, 1375, 676, 677, 49, 678, 137, 1376, 1377, 1378, 1379, 1380, 1381, 1382, 1383, 1384, 1385, 1386, 1387, 1388, 1389, 1390, 1391, 1392, 797, 798, 799, 392, 397, 800, 704, 705, 706, 136, 801, 488, 489, 1393, 828, 829, 830, 831, 832, 491, 492, 833, 834, 447, 448, 1394, 1395, 1396, 1397, 1398, 1399, 743, 744, 745, 746, 747, 748, 749, 750, 751, 1400, 1401, 1402, 1403, 520, 1581, 1582, 1583, 1584, 1585, 1586, 1587, 1588, 1589, 1590, 1591, 1734, 1735, 1736, 1737, 1738, 1739, 1740, 1749, 1750, 1751, 1752, 1753, 1754, 1755, 1756, 1757, 1758, 1759, 1760, 1761, 1762, 1763, 1764, 1765, 1766, 1685, 1686, 1687, 1688, 1689, 1690, 1691] (by decide +kernel) (by decide +kernel)
set_option maxRecDepth 20000 in
theorem gL_law_X11_year : GoodIn wsL_law (wsV RL 120 RX11 yX11_year wsX11_year) := goodIn_app (goodIn_of _ (by decide +kernel)) ggL_law_X11_year
set_option maxRecDepth 20000 in
theorem ggL_law_X12_year : GoodIn wsL_law wsX12_year := goodIn_r _ [1407, 240, 552, 263, 264, 687, 688, 5, 689, 760, 761, 762, 763, 247, 764, 765, 766, 767, 1408, 1409, 1410, 1411, 233, 690, 691, 692, 693, 239, 1412, 1413, 1414, 1415, 1416, 1417, 1418, 1419, 1420, 1421, 1422, 650, 651, 652, 653, 241, 1423, 1424, 1425, 1426, 243, 810, 811, 812, 813, 231, 780, 781, 782, 715, 716, 717, 718, 234, 232, 768, 769, 770, 1592, 1593, 1594, 1595, 1596, 1597, 1598, 1599, 1600, 1601, 1602, 1603, 1604, 1605, 1606, 1607, 1608, 1609, 1610, 1611, 1612, 1613, 1614, 1615, 1616, 1617, 1618, 1619, 1620, 1621, 1622, 1623, 1624, 1625, 1626, 1627, 1628, 1629, 1630, 1631, 1632, 1633, 1634, 1635, 1636, 1637, 1638, 1639, 1640, 1641, 1642, 1643, 1644, 1645, 1646, 1647, 1648, 1649, 1650, 1651, 1652, 1653, 1654, 1655, 1656, 1657, 1658, 1659, 1660, 1661, 1662, 1663, 1664, 1665, 1666, 1667, 1668, 1669, 1670, 1671, 1672, 1673, 1674, 1675, 1676, 1677, 1678, 1679, 1680, 1681] (by decide +kernel) (by decide +kernel)
set_option maxRecDepth 20000 in
theorem gL_law_X12_year : GoodIn wsL_law (wsV RL 123 RX12 yX12_year wsX12_year) := goodIn_app (goodIn_of _ (by decide +kernel)) ggL_law_X12_year
set_option maxRecDepth 20000 in
theorem ggL_law_X11_rest : GoodIn wsL_law wsX11_rest := goodIn_r _ [1430, 42, 50, 1356, 1431, 1358, 1432, 1433, 1434, 41, 1435, 204, 1363, 1364, 1436, 1437, 1438, 1439, 1440, 205, 206, 1441, 515, 516, 20, 517, 518, 519, 520, 147, 521, 522, 523, 524, 525, 148, 526, 151, 149, 150, 527, 336, 337, 338, 1442, 1443, 1444, 1445, 1446, 1447, 1448, 1449, 1365, 1390, 1386, 1387, 1388, 1389, 1391, 1392, 797, 798, 49, 799, 392, 397, 800, 704, 705, 706, 136, 801, 488, 489, 1393, 828, 829, 830, 831, 676, 677, 678, 137, 832, 491, 492, 833, 834, 447, 448, 1394, 1395, 1396, 1397, 1398, 1399, 743, 744, 745, 746, 747, 748, 749, 750, 751, 1581, 1582, 1583, 1584, 1585, 1586, 1587, 1588, 1589, 1590, 1591, 1734, 1735, 1736, 1737, 1738, 1739, 1740, 1749, 1750, 1751, 1752, 1753, 1754, 1755, 1756, 1757, 1758, 1759, 1760, 1761, 1762, 1763, 1764, 1765, 1766, 1685, 1686, 1687, 1688, 1689, 1690, 1691] (by decide +kernel) (by decide +kernel)
set_option maxRecDepth 20000 in
theorem gL_law_X11_rest : GoodIn wsL_law (wsV RL 124 RX11 yX11_rest wsX11_rest) := goodIn_app (goodIn_of _ (by decide +kernel)) ggL_law_X11_rest
set_option maxRecDepth 20000 in
theorem ggL_law_X12_rest : GoodIn wsL_law wsX12_rest := goodIn_r _ [1453, 244, 552, 240, 264, 265, 245, 266, 246, 687, 688, 5, 689, 654, 655, 656, 657, 242, 1423, 1424, 1425, 1426, 243, 810, 811, 812, 813, 231, 780, 781, 782, 715, 716, 717, 718, 234, 232, 650, 651, 652, 653, 241, 768, 769, 770, 1592, 1593, 1594, 1595, 1596, 1597, 1598, 1599, 1600, 1601, 1602, 1603, 1604, 1605, 1606, 1607, 1608, 1609, 1610, 1611, 1612, 1613, 1614, 1615, 1616, 1617, 1618, 1619, 1620, 1621, 1622, 1623, 1624, 1625, 1626, 1627, 1628, 1629, 1630, 1631, 1632, 1633, 1634, 1635, 1636, 1637, 1638, 1639, 1640, 1641, 1642, 1643, 1644, 1645, 1646, 1647, 1648, 1649, 1650, 1651, 1652, 1653, 1654, 1655, 1656, 1657, 1658, 1659, 1660, 1661, 1662, 1663, 1664, 1665, 1666, 1667, 1668, 1669, 1670, 1671, 1672, 1673, 1674, 1675, 1676, 1677, 1678, 1679, 1680, 1681] (by decide +kernel) (by decide +kernel)
set_option maxRecDepth 20000 in
theorem gL_law_X12_rest : GoodIn wsL_law (wsV RL 127 RX12 yX12_rest wsX12_rest) := goodIn_app (goodIn_of _ (by decide +kernel)) ggL_law_X12_rest
set_option maxRecDepth 20000 in
theorem ggL_law_X11_see : GoodIn wsL_law wsX11_see := goodIn_r _ [1457, 50, 46, 671, 672, 673, 49, 674, 393, 699, 700, 701, 702, 392, 1458, 1459, 1460, 45, 1461, 537, 210, 211, 1462, 447, 448, 1581, 1582, 1583, 1584, 1585, 1586, 1587, 1588, 1589, 1590, 1591, 1749, 1750, 1751, 1752, 1753, 1754, 1755, 1756, 1757, 1758, 1759, 1760, 1761, 1762, 1763, 1764, 1765, 1766, 1741, 1742, 1743, 1744, 1745, 1746, 1747, 1748] (by decide +kernel) (by decide +kernel)
set_option maxRecDepth 20000 in
theorem gL_law_X11_see : GoodIn wsL_law (wsV RL 128 RX11 yX11_see wsX11_see) := goodIn_app (goodIn_of _ (by decide +kernel)) ggL_law_X11_see
set_option maxRecDepth 20000 in
theorem ggL_law_X12_see : GoodIn wsL_law wsX12_see := goodIn_r _ [1466, 558, 267, 268, 269, 683, 684, 685, 5, 686, 233, 552, 687, 688, 689, 711, 712, 713, 714, 231, 1592, 1593, 1594, 1595, 1596, 1597, 1598, 1599, 1600, 1601, 1602, 1603, 1604, 1605, 1606, 1607, 1608, 1609, 1610, 1611, 1612, 1613, 1614, 1615, 1616, 1617, 1618, 1619, 1620, 1621, 1622, 1623, 1624, 1625, 1626, 1627, 1628, 1629, 1630, 1631, 1632, 1633, 1634, 1635, 1636, 1637, 1638, 1639, 1640, 1641, 1642, 1643, 1644, 1645, 1646, 1647, 1648, 1649, 1650, 1651, 1652, 1653, 1654, 1655, 1656, 1657, 1658, 1659, 1660, 1661, 1662, 1663, 1664, 1665, 1666, 1667, 1668, 1669, 1670, 1671, 1672, 1673, 1674, 1675, 1676, 1677, 1678, 1679, 1680, 1681] (by decide +kernel) (by decide +kernel)
set_option maxRecDepth 20000 in
theorem gL_law_X12_see : GoodIn wsL_law (wsV RL 131 RX12 yX12_see wsX12_see) := goodIn_app (goodIn_of _ (by decide +kernel)) ggL_law_X12_see
set_option maxRecDepth 20000 in
theorem ggL_law_X11_forget : GoodIn wsL_law wsX11_forget := goodIn_r _ [1470, 46, 1471, 533, 534, 535, 45, 536, 537, 1581, 1582, 1583, 1584, 1585, 1586, 1587, 1588, 1589, 1590, 1591, 1741, 1742, 1743, 1744, 1745, 1746, 1747, 1748] (by decide +kernel) (by decide +kernel)
set_option maxRecDepth 20000 in
theorem gL_law_X11_forget : GoodIn wsL_law (wsV RL 132 RX11 yX11_forget wsX11_forget) := goodIn_app (goodIn_of _ (by decide +kernel)) ggL_law_X11_forget
set_option maxRecDepth 20000 in
theorem ggL_law_X12_forget : GoodIn wsL_law wsX12_forget := goodIn_r _ [1475, 558, 1592, 1593, 1594, 1595, 1596, 1597, 1598, 1599, 1600, 1601, 1602, 1603, 1604, 1605, 1606, 1607, 1608, 1609, 1610, 1611, 1612, 1613, 1614, 1615, 1616, 1617, 1618, 1619, 1620, 1621, 1622, 1623, 1624, 1625, 1626, 1627, 1628, 1629, 1630, 1631, 1632, 1633, 1634, 1635, 1636, 1637, 1638, 1639, 1640, 1641, 1642, 1643, 1644, 1645, 1646, 1647, 1648, 1649, 1650, 1651, 1652, 1653, 1654, 1655, 1656, 1657, 1658, 1659, 1660, 1661, 1662, 1663, 1664, 1665, 1666, 1667, 1668, 1669, 1670, 1671, 1672, 1673, 1674, 1675, 1676, 1677, 1678, 1679, 1680, 1681] (by decide +kernel) (by decide +kernel)
set_option maxRecDepth 20000 in
theorem gL_law_X12_forget : GoodIn wsL_law (wsV RL 135 RX12 yX12_forget wsX12_forget) := goodIn_app (goodIn_of _ (by decide +kernel)) ggL_law_X12_forget
set_option maxRecDepth 20000 in
theorem ggL_law_X11_fits : GoodIn wsL_law wsX11_fits := goodIn_r _ [1479, 46, 1480, 50, 1481, 1482, 1483, 45, 1484, 537, 1485, 1486, 1487, 1488, 212, 210, 211, 1489, 1490, 1140, 825, 1141, 1491, 213, 1492, 336, 337, 338, 1493, 1494, 1495, 1496, 214, 215, 1497, 522, 523, 524, 1498, 1499, 1500, 1501, 914, 915, 1502, 793, 794, 49, 795, 397, 392, 796, 797, 798, 799, 800, 704, 705, 706, 136, 801, 488, 489, 1503, 1504, 1505, 1506, 1462, 447, 448, 1507, 1508, 1509, 1510, 1581, 1582, 1583, 1584, 1585, 1586, 1587, 1588, 1589, 1590, 1591, 1741, 1742, 1743, 1744, 1745, 1746, 1747, 1748, 1749, 1750, 1751, 1752, 1753, 1754, 1755, 1756, 1757, 1758, 1759, 1760, 1761, 1762, 1763, 1764, 1765, 1766] (by decide +kernel) (by decide +kernel)
set_option maxRecDepth 20000 in
theorem gL_law_X11_fits : GoodIn wsL_law (wsV RL 136 RX11 yX11_fits wsX11_fits) := goodIn_app (goodIn_of _ (by decide +kernel)) ggL_law_X11_fits
set_option maxRecDepth 20000 in
theorem ggL_law_X12_fits : GoodIn wsL_law wsX12_fits := goodIn_r _ [1514, 558, 1515, 1516, 687, 688, 5, 689, 1517, 1518, 1519, 1520, 276, 275, 1521, 240, 552, 1522, 1523, 1524, 1525, 1526, 270, 267, 268, 269, 271, 272, 273, 274, 233, 654, 655, 656, 657, 242, 650, 651, 652, 653, 241, 806, 807, 808, 809, 243, 780, 781, 782, 810, 811, 812, 813, 231, 715, 716, 717, 718, 234, 232, 1527, 1528, 1529, 1530, 277, 1531, 1532, 1533, 1534, 1592, 1593, 1594, 1595, 1596, 1597, 1598, 1599, 1600, 1601, 1602, 1603, 1604, 1605, 1606, 1607, 1608, 1609, 1610, 1611, 1612, 1613, 1614, 1615, 1616, 1617, 1618, 1619, 1620, 1621, 1622, 1623, 1624, 1625, 1626, 1627, 1628, 1629, 1630, 1631, 1632, 1633, 1634, 1635, 1636, 1637, 1638, 1639, 1640, 1641, 1642, 1643, 1644, 1645, 1646, 1647, 1648, 1649, 1650, 1651, 1652, 1653, 1654, 1655, 1656, 1657, 1658, 1659, 1660, 1661, 1662, 1663, 1664, 1665, 1666, 1667, 1668, 1669, 1670, 1671, 1672, 1673, 1674, 1675, 1676, 1677, 1678, 1679, 1680, 1681] (by decide +kernel) (by decide +kernel)
set_option maxRecDepth 20000 in
theorem gL_law_X12_fits : GoodIn wsL_law (wsV RL 140 RX12 yX12_fits wsX12_fits) := goodIn_app (goodIn_of _ (by decide +kernel)) ggL_law_X12_fits
set_option maxRecDepth 20000 in
theorem ggL_law_X11_visitors : GoodIn wsL_law wsX11_visitors := goodIn_r _ [1538, 50, 46, 1539, 671, 672, 673, 49, 674, 393, 1481, 1482, 1483, 45, 1484, 537, 1485, 1486, 1487, 1488, 212, 210, 211, 1489, 1490, 1140, 825, 1141, 1491, 213, 1492, 336, 337, 338, 1493, 1494, 1495, 1496, 214, 215, 1497, 522, 523, 524, 1498, 1499, 1500, 1501, 914, 915, 1502, 793, 794, 795, 397, 392, 796, 797, 798, 799, 800, 704, 705, 706, 136, 801, 488, 489, 1503, 1504, 1505, 1506, 1462, 447, 448, 1507, 1508, 1509, 1510, 1581, 1582, 1583, 1584, 1585, 1586, 1587, 1588, 1589, 1590, 1591, 1749, 1750, 1751, 1752, 1753, 1754, 1755, 1756, 1757, 1758, 1759, 1760, 1761, 1762, 1763, 1764, 1765, 1766, 1741, 1742, 1743, 1744, 1745, 1746, 1747, 1748] (by decide +kernel) (by decide +kernel)
set_option maxRecDepth 20000 in
theorem gL_law_X11_visitors : GoodIn wsL_law (wsV RL 141 RX11 yX11_visitors wsX11_visitors) := goodIn_app (goodIn_of _ (by decide +kernel)) ggL_law_X11_visitors
set_option maxRecDepth 20000 in
theorem ggL_law_X12_visitors : GoodIn wsL_law wsX12_visitors := goodIn_r _ [1543, 558, 240, 552, 276, 1516, 683, 684, 685, 5, 686, 233, 687, 688, 689, 1517, 1518, 1519, 1520, 275, 1521, 1522, 1523, 1524, 1525, 1526, 270, 267, 268, 269, 271, 272, 273, 274, 654, 655, 656, 657, 242, 650, 651, 652, 653, 241, 806, 807, 808, 809, 243, 780, 781, 782, 810, 811, 812, 813, 231, 715, 716, 717, 718, 234, 232, 1527, 1528, 1529, 1530, 277, 1531, 1532, 1533, 1534, 1592, 1593, 1594, 1595, 1596, 1597, 1598, 1599, 1600, 1601, 1602, 1603, 1604, 1605, 1606, 1607, 1608, 1609, 1610, 1611, 1612, 1613, 1614, 1615, 1616, 1617, 1618, 1619, 1620, 1621, 1622, 1623, 1624, 1625, 1626, 1627, 1628, 1629, 1630, 1631, 1632, 1633, 1634, 1635, 1636, 1637, 1638, 1639, 1640, 1641, 1642, 1643, 1644, 1645, 1646, 1647, 1648, 1649, 1650, 1651, 1652, 1653, 1654, 1655, 1656, 1657, 1658, 1659, 1660, 1661, 1662, 1663, 1664, 1665, 1666, 1667, 1668, 1669, 1670, 1671, 1672, 1673, 1674, 1675, 1676, 1677, 1678, 1679, 1680, 1681] (by decide +kernel) (by decide +kernel)
set_option maxRecDepth 20000 in
theorem gL_law_X12_visitors : GoodIn wsL_law (wsV RL 145 RX12 yX12_visitors wsX12_visitors) := goodIn_app (goodIn_of _ (by decide +kernel)) ggL_law_X12_visitors
set_option maxRecDepth 20000 in
theorem ggL_law_X11_hold : GoodIn wsL_law wsX11_hold := goodIn_r _ [1547, 22, 21, 509, 1548, 1368, 1369, 20, 1370, 519, 147, 521, 522, 523, 524, 148, 151, 149, 150, 1581, 1582, 1583, 1584, 1585, 1586, 1587, 1588, 1589, 1590, 1591, 1685, 1686, 1687, 1688, 1689, 1690, 1691] (by decide +kernel) (by decide +kernel)
set_option maxRecDepth 20000 in
theorem gL_law_X11_hold : GoodIn wsL_law (wsV RL 146 RX11 yX11_hold wsX11_hold) := goodIn_app (goodIn_of _ (by decide +kernel)) ggL_law_X11_hold
set_option maxRecDepth 20000 in
theorem ggL_law_X12_hold : GoodIn wsL_law wsX12_hold := goodIn_r _ [1552, 278, 279, 247, 687, 688, 5, 689, 1592, 1593, 1594, 1595, 1596, 1597, 1598, 1599, 1600, 1601, 1602, 1603, 1604, 1605, 1606, 1607, 1608, 1609, 1610, 1611, 1612, 1613, 1614, 1615, 1616, 1617, 1618, 1619, 1620, 1621, 1622, 1623, 1624, 1625, 1626, 1627, 1628, 1629, 1630, 1631, 1632, 1633, 1634, 1635, 1636, 1637, 1638, 1639, 1640, 1641, 1642, 1643, 1644, 1645, 1646, 1647, 1648, 1649, 1650, 1651, 1652, 1653, 1654, 1655, 1656, 1657, 1658, 1659, 1660, 1661, 1662, 1663, 1664, 1665, 1666, 1667, 1668, 1669, 1670, 1671, 1672, 1673, 1674, 1675, 1676, 1677, 1678, 1679, 1680, 1681] (by decide +kernel) (by decide +kernel)
set_option maxRecDepth 20000 in
theorem gL_law_X12_hold : GoodIn wsL_law (wsV RL 150 RX12 yX12_hold wsX12_hold) := goodIn_app (goodIn_of _ (by decide +kernel)) ggL_law_X12_hold
set_option maxRecDepth 20000 in
theorem ggL_law_X11_restore : GoodIn wsL_law wsX11_restore := goodIn_r _ [1556, 22, 509, 21, 26, 1548, 1368, 1369, 20, 1370, 519, 147, 521, 522, 523, 524, 148, 151, 149, 150, 528, 529, 530, 25, 531, 532, 1581, 1582, 1583, 1584, 1585, 1586, 1587, 1588, 1589, 1590, 1591, 1685, 1686, 1687, 1688, 1689, 1690, 1691, 1692, 1693, 1694, 1695, 1696, 1697] (by decide +kernel) (by decide +kernel)
set_option maxRecDepth 20000 in
theorem gL_law_X11_restore : GoodIn wsL_law (wsV RL 151 RX11 yX11_restore wsX11_restore) := goodIn_app (goodIn_of _ (by decide +kernel)) ggL_law_X11_restore
set_option maxRecDepth 20000 in
theorem ggL_law_X12_restore : GoodIn wsL_law wsX12_restore := goodIn_r _ [1560, 278, 247, 279, 557, 687, 688, 5, 689, 1592, 1593, 1594, 1595, 1596, 1597, 1598, 1599, 1600, 1601, 1602, 1603, 1604, 1605, 1606, 1607, 1608, 1609, 1610, 1611, 1612, 1613, 1614, 1615, 1616, 1617, 1618, 1619, 1620, 1621, 1622, 1623, 1624, 1625, 1626, 1627, 1628, 1629, 1630, 1631, 1632, 1633, 1634, 1635, 1636, 1637, 1638, 1639, 1640, 1641, 1642, 1643, 1644, 1645, 1646, 1647, 1648, 1649, 1650, 1651, 1652, 1653, 1654, 1655, 1656, 1657, 1658, 1659, 1660, 1661, 1662, 1663, 1664, 1665, 1666, 1667, 1668, 1669, 1670, 1671, 1672, 1673, 1674, 1675, 1676, 1677, 1678, 1679, 1680, 1681] (by decide +kernel) (by decide +kernel)
set_option maxRecDepth 20000 in
theorem gL_law_X12_restore : GoodIn wsL_law (wsV RL 154 RX12 yX12_restore wsX12_restore) := goodIn_app (goodIn_of _ (by decide +kernel)) ggL_law_X12_restore
set_option maxRecDepth 20000 in
theorem ggL_law_X11_count : GoodIn wsL_law wsX11_count := goodIn_r _ [1564, 50, 1173, 1151, 1565, 1539, 1566, 1567, 17, 291, 26, 1568, 46, 1471, 21, 1569, 1570, 1571, 2, 1572, 22, 509, 1573, 1574, 1575, 20, 1576, 151, 1395, 1396, 1397, 1398, 519, 148, 1399, 743, 49, 744, 745, 746, 747, 748, 749, 750, 751, 1581, 1582, 1583, 1584, 1585, 1586, 1587, 1588, 1589, 1590, 1591, 1749, 1750, 1751, 1752, 1753, 1754, 1755, 1756, 1757, 1758, 1759, 1760, 1761, 1762, 1763, 1764, 1765, 1766, 1767, 1768, 1769, 1770, 1771, 1772, 1773, 1774, 1775, 1776, 1777, 1778, 1692, 1693, 1694, 1695, 1696, 1697, 1741, 1742, 1743, 1744, 1745, 1746, 1747, 1748, 1685, 1686, 1687, 1688, 1689, 1690, 1691] (by decide +kernel) (by decide +kernel)
set_option maxRecDepth 20000 in
theorem gL_law_X11_count : GoodIn wsL_law (wsV RL 155 RX11 yX11_count wsX11_count) := goodIn_app (goodIn_of _ (by decide +kernel)) ggL_law_X11_count
set_option maxRecDepth 20000 in
theorem ggL_law_X12_count : GoodIn wsL_law wsX12_count := goodIn_r _ [1580, 231, 552, 233, 238, 240, 244, 243, 305, 557, 558, 278, 247, 764, 765, 766, 5, 767, 768, 769, 770, 1592, 1593, 1594, 1595, 1596, 1597, 1598, 1599, 1600, 1601, 1602, 1603, 1604, 1605, 1606, 1607, 1608, 1609, 1610, 1611, 1612, 1613, 1614, 1615, 1616, 1617, 1618, 1619, 1620, 1621, 1622, 1623, 1624, 1625, 1626, 1627, 1628, 1629, 1630, 1631, 1632, 1633, 1634, 1635, 1636, 1637, 1638, 1639, 1640, 1641, 1642, 1643, 1644, 1645, 1646, 1647, 1648, 1649, 1650, 1651, 1652, 1653, 1654, 1655, 1656, 1657, 1658, 1659, 1660, 1661, 1662, 1663, 1664, 1665, 1666, 1667, 1668, 1669, 1670, 1671, 1672, 1673, 1674, 1675, 1676, 1677, 1678, 1679, 1680, 1681] (by decide +kernel) (by decide +kernel)
set_option maxRecDepth 20000 in
theorem gL_law_X12_count : GoodIn wsL_law (wsV RL 158 RX12 yX12_count wsX12_count) := goodIn_app (goodIn_of _ (by decide +kernel)) ggL_law_X12_count
theorem dL_law_0 : decode cL_law 0 = .ok (.new 7, 3) := by decide +kernel
theorem dL_law_3 : decode cL_law 3 = .ok (.dup, 1) := by decide +kernel
theorem dL_law_4 : decode cL_law 4 = .ok (.invokespecial 9, 3) := by decide +kernel
theorem dL_law_7 : decode cL_law 7 = .ok (.astore_n 1, 1) := by decide +kernel
theorem dL_law_8 : decode cL_law 8 = .ok (.new 10, 3) := by decide +kernel
theorem dL_law_11 : decode cL_law 11 = .ok (.dup, 1) := by decide +kernel
theorem dL_law_12 : decode cL_law 12 = .ok (.invokespecial 12, 3) := by decide +kernel
theorem dL_law_15 : decode cL_law 15 = .ok (.astore_n 2, 1) := by decide +kernel
theorem dL_law_16 : decode cL_law 16 = .ok (.iconst 0, 1) := by decide +kernel
theorem dL_law_17 : decode cL_law 17 = .ok (.istore_n 3, 1) := by decide +kernel
theorem dL_law_18 : decode cL_law 18 = .ok (.iload_n 3, 1) := by decide +kernel
theorem dL_law_19 : decode cL_law 19 = .ok (.aload_n 0, 1) := by decide +kernel
theorem dL_law_20 : decode cL_law 20 = .ok (.arraylength, 1) := by decide +kernel
theorem dL_law_21 : decode cL_law 21 = .ok (.bipush 6, 2) := by decide +kernel
theorem dL_law_23 : decode cL_law 23 = .ok (.isub, 1) := by decide +kernel
theorem dL_law_24 : decode cL_law 24 = .ok (.if_icmp .gt 1325, 3) := by decide +kernel
theorem dL_law_27 : decode cL_law 27 = .ok (.aload_n 0, 1) := by decide +kernel
theorem dL_law_28 : decode cL_law 28 = .ok (.iload_n 3, 1) := by decide +kernel
theorem dL_law_29 : decode cL_law 29 = .ok (.iaload, 1) := by decide +kernel
theorem dL_law_30 : decode cL_law 30 = .ok (.bipush 63, 2) := by decide +kernel
theorem dL_law_32 : decode cL_law 32 = .ok (.iand, 1) := by decide +kernel
theorem dL_law_33 : decode cL_law 33 = .ok (.tableswitch 1310 0 33 #[151, 214, 237, 250, 263, 296, 329, 362, 395, 428, 471, 514, 547, 560, 623, 686, 739, 772, 795, 828, 871, 894, 927, 960, 1003, 1036, 1079, 1102, 1145, 1158, 1182, 1241, 1264, 1287], 151) := by decide +kernel
theorem dL_law_184 : decode cL_law 184 = .ok (.aload_n 1, 1) := by decide +kernel
theorem dL_law_185 : decode cL_law 185 = .ok (.aload_n 0, 1) := by decide +kernel
theorem dL_law_186 : decode cL_law 186 = .ok (.iload_n 3, 1) := by decide +kernel
theorem dL_law_187 : decode cL_law 187 = .ok (.iconst 1, 1) := by decide +kernel
theorem dL_law_188 : decode cL_law 188 = .ok (.iadd, 1) := by decide +kernel
theorem dL_law_189 : decode cL_law 189 = .ok (.iaload, 1) := by decide +kernel
theorem dL_law_190 : decode cL_law 190 = .ok (.aload_n 0, 1) := by decide +kernel
theorem dL_law_191 : decode cL_law 191 = .ok (.iload_n 3, 1) := by decide +kernel
theorem dL_law_192 : decode cL_law 192 = .ok (.iconst 2, 1) := by decide +kernel
theorem dL_law_193 : decode cL_law 193 = .ok (.iadd, 1) := by decide +kernel
theorem dL_law_194 : decode cL_law 194 = .ok (.iaload, 1) := by decide +kernel
theorem dL_law_195 : decode cL_law 195 = .ok (.aload_n 0, 1) := by decide +kernel
theorem dL_law_196 : decode cL_law 196 = .ok (.iload_n 3, 1) := by decide +kernel
theorem dL_law_197 : decode cL_law 197 = .ok (.iconst 3, 1) := by decide +kernel
theorem dL_law_198 : decode cL_law 198 = .ok (.iadd, 1) := by decide +kernel
theorem dL_law_199 : decode cL_law 199 = .ok (.iaload, 1) := by decide +kernel
theorem dL_law_200 : decode cL_law 200 = .ok (.aload_n 0, 1) := by decide +kernel
theorem dL_law_201 : decode cL_law 201 = .ok (.iload_n 3, 1) := by decide +kernel
theorem dL_law_202 : decode cL_law 202 = .ok (.iconst 4, 1) := by decide +kernel
theorem dL_law_203 : decode cL_law 203 = .ok (.iadd, 1) := by decide +kernel
theorem dL_law_204 : decode cL_law 204 = .ok (.iaload, 1) := by decide +kernel
theorem dL_law_205 : decode cL_law 205 = .ok (.aload_n 0, 1) := by decide +kernel
theorem dL_law_206 : decode cL_law 206 = .ok (.iload_n 3, 1) := by decide +kernel
theorem dL_law_207 : decode cL_law 207 = .ok (.iconst 5, 1) := by decide +kernel
theorem dL_law_208 : decode cL_law 208 = .ok (.iadd, 1) := by decide +kernel
theorem dL_law_209 : decode cL_law 209 = .ok (.iaload, 1) := by decide +kernel
theorem dL_law_210 : decode cL_law 210 = .ok (.invokevirtual 13, 3) := by decide +kernel
theorem dL_law_213 : decode cL_law 213 = .ok (.aload_n 2, 1) := by decide +kernel
theorem dL_law_214 : decode cL_law 214 = .ok (.aload_n 0, 1) := by decide +kernel
theorem dL_law_215 : decode cL_law 215 = .ok (.iload_n 3, 1) := by decide +kernel
theorem dL_law_216 : decode cL_law 216 = .ok (.iconst 1, 1) := by decide +kernel
theorem dL_law_217 : decode cL_law 217 = .ok (.iadd, 1) := by decide +kernel
theorem dL_law_218 : decode cL_law 218 = .ok (.iaload, 1) := by decide +kernel
theorem dL_law_219 : decode cL_law 219 = .ok (.aload_n 0, 1) := by decide +kernel
theorem dL_law_220 : decode cL_law 220 = .ok (.iload_n 3, 1) := by decide +kernel
theorem dL_law_221 : decode cL_law 221 = .ok (.iconst 2, 1) := by decide +kernel
theorem dL_law_222 : decode cL_law 222 = .ok (.iadd, 1) := by decide +kernel
theorem dL_law_223 : decode cL_law 223 = .ok (.iaload, 1) := by decide +kernel
theorem dL_law_224 : decode cL_law 224 = .ok (.aload_n 0, 1) := by decide +kernel
theorem dL_law_225 : decode cL_law 225 = .ok (.iload_n 3, 1) := by decide +kernel
theorem dL_law_226 : decode cL_law 226 = .ok (.iconst 3, 1) := by decide +kernel
theorem dL_law_227 : decode cL_law 227 = .ok (.iadd, 1) := by decide +kernel
theorem dL_law_228 : decode cL_law 228 = .ok (.iaload, 1) := by decide +kernel
theorem dL_law_229 : decode cL_law 229 = .ok (.aload_n 0, 1) := by decide +kernel
theorem dL_law_230 : decode cL_law 230 = .ok (.iload_n 3, 1) := by decide +kernel
theorem dL_law_231 : decode cL_law 231 = .ok (.iconst 4, 1) := by decide +kernel
theorem dL_law_232 : decode cL_law 232 = .ok (.iadd, 1) := by decide +kernel
theorem dL_law_233 : decode cL_law 233 = .ok (.iaload, 1) := by decide +kernel
theorem dL_law_234 : decode cL_law 234 = .ok (.aload_n 0, 1) := by decide +kernel
theorem dL_law_235 : decode cL_law 235 = .ok (.iload_n 3, 1) := by decide +kernel
theorem dL_law_236 : decode cL_law 236 = .ok (.iconst 5, 1) := by decide +kernel
theorem dL_law_237 : decode cL_law 237 = .ok (.iadd, 1) := by decide +kernel
theorem dL_law_238 : decode cL_law 238 = .ok (.iaload, 1) := by decide +kernel
theorem dL_law_239 : decode cL_law 239 = .ok (.invokevirtual 17, 3) := by decide +kernel
theorem dL_law_242 : decode cL_law 242 = .ok (.if_icmp .eq 1101, 3) := by decide +kernel
theorem dL_law_247 : decode cL_law 247 = .ok (.aload_n 1, 1) := by decide +kernel
theorem dL_law_248 : decode cL_law 248 = .ok (.aload_n 0, 1) := by decide +kernel
theorem dL_law_249 : decode cL_law 249 = .ok (.iload_n 3, 1) := by decide +kernel
theorem dL_law_250 : decode cL_law 250 = .ok (.iconst 1, 1) := by decide +kernel
theorem dL_law_251 : decode cL_law 251 = .ok (.iadd, 1) := by decide +kernel
theorem dL_law_252 : decode cL_law 252 = .ok (.iaload, 1) := by decide +kernel
theorem dL_law_253 : decode cL_law 253 = .ok (.invokevirtual 18, 3) := by decide +kernel
theorem dL_law_256 : decode cL_law 256 = .ok (.aload_n 2, 1) := by decide +kernel
theorem dL_law_257 : decode cL_law 257 = .ok (.aload_n 0, 1) := by decide +kernel
theorem dL_law_258 : decode cL_law 258 = .ok (.iload_n 3, 1) := by decide +kernel
theorem dL_law_259 : decode cL_law 259 = .ok (.iconst 1, 1) := by decide +kernel
theorem dL_law_260 : decode cL_law 260 = .ok (.iadd, 1) := by decide +kernel
theorem dL_law_261 : decode cL_law 261 = .ok (.iaload, 1) := by decide +kernel
theorem dL_law_262 : decode cL_law 262 = .ok (.invokevirtual 22, 3) := by decide +kernel
theorem dL_law_265 : decode cL_law 265 = .ok (.if_icmp .eq 1078, 3) := by decide +kernel
theorem dL_law_270 : decode cL_law 270 = .ok (.aload_n 1, 1) := by decide +kernel
theorem dL_law_271 : decode cL_law 271 = .ok (.invokevirtual 23, 3) := by decide +kernel
theorem dL_law_274 : decode cL_law 274 = .ok (.aload_n 2, 1) := by decide +kernel
theorem dL_law_275 : decode cL_law 275 = .ok (.invokevirtual 27, 3) := by decide +kernel
theorem dL_law_278 : decode cL_law 278 = .ok (.if_icmp .eq 1065, 3) := by decide +kernel
theorem dL_law_283 : decode cL_law 283 = .ok (.aload_n 1, 1) := by decide +kernel
theorem dL_law_284 : decode cL_law 284 = .ok (.invokevirtual 28, 3) := by decide +kernel
theorem dL_law_287 : decode cL_law 287 = .ok (.aload_n 2, 1) := by decide +kernel
theorem dL_law_288 : decode cL_law 288 = .ok (.invokevirtual 31, 3) := by decide +kernel
theorem dL_law_291 : decode cL_law 291 = .ok (.if_icmp .eq 1052, 3) := by decide +kernel
theorem dL_law_296 : decode cL_law 296 = .ok (.aload_n 1, 1) := by decide +kernel
theorem dL_law_297 : decode cL_law 297 = .ok (.aload_n 0, 1) := by decide +kernel
theorem dL_law_298 : decode cL_law 298 = .ok (.iload_n 3, 1) := by decide +kernel
theorem dL_law_299 : decode cL_law 299 = .ok (.iconst 1, 1) := by decide +kernel
theorem dL_law_300 : decode cL_law 300 = .ok (.iadd, 1) := by decide +kernel
theorem dL_law_301 : decode cL_law 301 = .ok (.iaload, 1) := by decide +kernel
theorem dL_law_302 : decode cL_law 302 = .ok (.aload_n 0, 1) := by decide +kernel
theorem dL_law_303 : decode cL_law 303 = .ok (.iload_n 3, 1) := by decide +kernel
theorem dL_law_304 : decode cL_law 304 = .ok (.iconst 2, 1) := by decide +kernel
theorem dL_law_305 : decode cL_law 305 = .ok (.iadd, 1) := by decide +kernel
theorem dL_law_306 : decode cL_law 306 = .ok (.iaload, 1) := by decide +kernel
theorem dL_law_307 : decode cL_law 307 = .ok (.invokevirtual 32, 3) := by decide +kernel
theorem dL_law_310 : decode cL_law 310 = .ok (.aload_n 2, 1) := by decide +kernel
theorem dL_law_311 : decode cL_law 311 = .ok (.aload_n 0, 1) := by decide +kernel
theorem dL_law_312 : decode cL_law 312 = .ok (.iload_n 3, 1) := by decide +kernel
theorem dL_law_313 : decode cL_law 313 = .ok (.iconst 1, 1) := by decide +kernel
theorem dL_law_314 : decode cL_law 314 = .ok (.iadd, 1) := by decide +kernel
theorem dL_law_315 : decode cL_law 315 = .ok (.iaload, 1) := by decide +kernel
theorem dL_law_316 : decode cL_law 316 = .ok (.aload_n 0, 1) := by decide +kernel
theorem dL_law_317 : decode cL_law 317 = .ok (.iload_n 3, 1) := by decide +kernel
theorem dL_law_318 : decode cL_law 318 = .ok (.iconst 2, 1) := by decide +kernel
theorem dL_law_319 : decode cL_law 319 = .ok (.iadd, 1) := by decide +kernel
theorem dL_law_320 : decode cL_law 320 = .ok (.iaload, 1) := by decide +kernel
theorem dL_law_321 : decode cL_law 321 = .ok (.invokevirtual 36, 3) := by decide +kernel
theorem dL_law_324 : decode cL_law 324 = .ok (.if_icmp .eq 1019, 3) := by decide +kernel
theorem dL_law_329 : decode cL_law 329 = .ok (.aload_n 1, 1) := by decide +kernel
theorem dL_law_330 : decode cL_law 330 = .ok (.aload_n 0, 1) := by decide +kernel
theorem dL_law_331 : decode cL_law 331 = .ok (.iload_n 3, 1) := by decide +kernel
theorem dL_law_332 : decode cL_law 332 = .ok (.iconst 1, 1) := by decide +kernel
theorem dL_law_333 : decode cL_law 333 = .ok (.iadd, 1) := by decide +kernel
theorem dL_law_334 : decode cL_law 334 = .ok (.iaload, 1) := by decide +kernel
theorem dL_law_335 : decode cL_law 335 = .ok (.aload_n 0, 1) := by decide +kernel
theorem dL_law_336 : decode cL_law 336 = .ok (.iload_n 3, 1) := by decide +kernel
theorem dL_law_337 : decode cL_law 337 = .ok (.iconst 2, 1) := by decide +kernel
theorem dL_law_338 : decode cL_law 338 = .ok (.iadd, 1) := by decide +kernel
theorem dL_law_339 : decode cL_law 339 = .ok (.iaload, 1) := by decide +kernel
theorem dL_law_340 : decode cL_law 340 = .ok (.invokevirtual 37, 3) := by decide +kernel
theorem dL_law_343 : decode cL_law 343 = .ok (.aload_n 2, 1) := by decide +kernel
theorem dL_law_344 : decode cL_law 344 = .ok (.aload_n 0, 1) := by decide +kernel
theorem dL_law_345 : decode cL_law 345 = .ok (.iload_n 3, 1) := by decide +kernel
theorem dL_law_346 : decode cL_law 346 = .ok (.iconst 1, 1) := by decide +kernel
theorem dL_law_347 : decode cL_law 347 = .ok (.iadd, 1) := by decide +kernel
theorem dL_law_348 : decode cL_law 348 = .ok (.iaload, 1) := by decide +kernel
theorem dL_law_349 : decode cL_law 349 = .ok (.aload_n 0, 1) := by decide +kernel
theorem dL_law_350 : decode cL_law 350 = .ok (.iload_n 3, 1) := by decide +kernel
theorem dL_law_351 : decode cL_law 351 = .ok (.iconst 2, 1) := by decide +kernel
theorem dL_law_352 : decode cL_law 352 = .ok (.iadd, 1) := by decide +kernel
theorem dL_law_353 : decode cL_law 353 = .ok (.iaload, 1) := by decide +kernel
theorem dL_law_354 : decode cL_law 354 = .ok (.invokevirtual 40, 3) := by decide +kernel
theorem dL_law_357 : decode cL_law 357 = .ok (.if_icmp .eq 986, 3) := by decide +kernel
theorem dL_law_362 : decode cL_law 362 = .ok (.aload_n 1, 1) := by decide +kernel
theorem dL_law_363 : decode cL_law 363 = .ok (.aload_n 0, 1) := by decide +kernel
theorem dL_law_364 : decode cL_law 364 = .ok (.iload_n 3, 1) := by decide +kernel
theorem dL_law_365 : decode cL_law 365 = .ok (.iconst 1, 1) := by decide +kernel
theorem dL_law_366 : decode cL_law 366 = .ok (.iadd, 1) := by decide +kernel
theorem dL_law_367 : decode cL_law 367 = .ok (.iaload, 1) := by decide +kernel
theorem dL_law_368 : decode cL_law 368 = .ok (.aload_n 0, 1) := by decide +kernel
theorem dL_law_369 : decode cL_law 369 = .ok (.iload_n 3, 1) := by decide +kernel
theorem dL_law_370 : decode cL_law 370 = .ok (.iconst 2, 1) := by decide +kernel
theorem dL_law_371 : decode cL_law 371 = .ok (.iadd, 1) := by decide +kernel
theorem dL_law_372 : decode cL_law 372 = .ok (.iaload, 1) := by decide +kernel
theorem dL_law_373 : decode cL_law 373 = .ok (.invokevirtual 41, 3) := by decide +kernel
theorem dL_law_376 : decode cL_law 376 = .ok (.aload_n 2, 1) := by decide +kernel
theorem dL_law_377 : decode cL_law 377 = .ok (.aload_n 0, 1) := by decide +kernel
theorem dL_law_378 : decode cL_law 378 = .ok (.iload_n 3, 1) := by decide +kernel
theorem dL_law_379 : decode cL_law 379 = .ok (.iconst 1, 1) := by decide +kernel
theorem dL_law_380 : decode cL_law 380 = .ok (.iadd, 1) := by decide +kernel
theorem dL_law_381 : decode cL_law 381 = .ok (.iaload, 1) := by decide +kernel
theorem dL_law_382 : decode cL_law 382 = .ok (.aload_n 0, 1) := by decide +kernel
theorem dL_law_383 : decode cL_law 383 = .ok (.iload_n 3, 1) := by decide +kernel
theorem dL_law_384 : decode cL_law 384 = .ok (.iconst 2, 1) := by decide +kernel
theorem dL_law_385 : decode cL_law 385 = .ok (.iadd, 1) := by decide +kernel
theorem dL_law_386 : decode cL_law 386 = .ok (.iaload, 1) := by decide +kernel
theorem dL_law_387 : decode cL_law 387 = .ok (.invokevirtual 44, 3) := by decide +kernel
theorem dL_law_390 : decode cL_law 390 = .ok (.if_icmp .eq 953, 3) := by decide +kernel
theorem dL_law_395 : decode cL_law 395 = .ok (.aload_n 1, 1) := by decide +kernel
theorem dL_law_396 : decode cL_law 396 = .ok (.aload_n 0, 1) := by decide +kernel
theorem dL_law_397 : decode cL_law 397 = .ok (.iload_n 3, 1) := by decide +kernel
theorem dL_law_398 : decode cL_law 398 = .ok (.iconst 1, 1) := by decide +kernel
theorem dL_law_399 : decode cL_law 399 = .ok (.iadd, 1) := by decide +kernel
theorem dL_law_400 : decode cL_law 400 = .ok (.iaload, 1) := by decide +kernel
theorem dL_law_401 : decode cL_law 401 = .ok (.aload_n 0, 1) := by decide +kernel
theorem dL_law_402 : decode cL_law 402 = .ok (.iload_n 3, 1) := by decide +kernel
theorem dL_law_403 : decode cL_law 403 = .ok (.iconst 2, 1) := by decide +kernel
theorem dL_law_404 : decode cL_law 404 = .ok (.iadd, 1) := by decide +kernel
theorem dL_law_405 : decode cL_law 405 = .ok (.iaload, 1) := by decide +kernel
theorem dL_law_406 : decode cL_law 406 = .ok (.invokevirtual 45, 3) := by decide +kernel
theorem dL_law_409 : decode cL_law 409 = .ok (.aload_n 2, 1) := by decide +kernel
theorem dL_law_410 : decode cL_law 410 = .ok (.aload_n 0, 1) := by decide +kernel
theorem dL_law_411 : decode cL_law 411 = .ok (.iload_n 3, 1) := by decide +kernel
theorem dL_law_412 : decode cL_law 412 = .ok (.iconst 1, 1) := by decide +kernel
theorem dL_law_413 : decode cL_law 413 = .ok (.iadd, 1) := by decide +kernel
theorem dL_law_414 : decode cL_law 414 = .ok (.iaload, 1) := by decide +kernel
theorem dL_law_415 : decode cL_law 415 = .ok (.aload_n 0, 1) := by decide +kernel
theorem dL_law_416 : decode cL_law 416 = .ok (.iload_n 3, 1) := by decide +kernel
theorem dL_law_417 : decode cL_law 417 = .ok (.iconst 2, 1) := by decide +kernel
theorem dL_law_418 : decode cL_law 418 = .ok (.iadd, 1) := by decide +kernel
theorem dL_law_419 : decode cL_law 419 = .ok (.iaload, 1) := by decide +kernel
theorem dL_law_420 : decode cL_law 420 = .ok (.invokevirtual 48, 3) := by decide +kernel
theorem dL_law_423 : decode cL_law 423 = .ok (.if_icmp .eq 920, 3) := by decide +kernel
theorem dL_law_428 : decode cL_law 428 = .ok (.aload_n 1, 1) := by decide +kernel
theorem dL_law_429 : decode cL_law 429 = .ok (.aload_n 0, 1) := by decide +kernel
theorem dL_law_430 : decode cL_law 430 = .ok (.iload_n 3, 1) := by decide +kernel
theorem dL_law_431 : decode cL_law 431 = .ok (.iconst 1, 1) := by decide +kernel
theorem dL_law_432 : decode cL_law 432 = .ok (.iadd, 1) := by decide +kernel
theorem dL_law_433 : decode cL_law 433 = .ok (.iaload, 1) := by decide +kernel
theorem dL_law_434 : decode cL_law 434 = .ok (.aload_n 0, 1) := by decide +kernel
theorem dL_law_435 : decode cL_law 435 = .ok (.iload_n 3, 1) := by decide +kernel
theorem dL_law_436 : decode cL_law 436 = .ok (.iconst 2, 1) := by decide +kernel
theorem dL_law_437 : decode cL_law 437 = .ok (.iadd, 1) := by decide +kernel
theorem dL_law_438 : decode cL_law 438 = .ok (.iaload, 1) := by decide +kernel
theorem dL_law_439 : decode cL_law 439 = .ok (.invokevirtual 49, 3) := by decide +kernel
theorem dL_law_442 : decode cL_law 442 = .ok (.aload_n 2, 1) := by decide +kernel
theorem dL_law_443 : decode cL_law 443 = .ok (.aload_n 0, 1) := by decide +kernel
theorem dL_law_444 : decode cL_law 444 = .ok (.iload_n 3, 1) := by decide +kernel
theorem dL_law_445 : decode cL_law 445 = .ok (.iconst 1, 1) := by decide +kernel
theorem dL_law_446 : decode cL_law 446 = .ok (.iadd, 1) := by decide +kernel
theorem dL_law_447 : decode cL_law 447 = .ok (.iaload, 1) := by decide +kernel
theorem dL_law_448 : decode cL_law 448 = .ok (.aload_n 0, 1) := by decide +kernel
theorem dL_law_449 : decode cL_law 449 = .ok (.iload_n 3, 1) := by decide +kernel
theorem dL_law_450 : decode cL_law 450 = .ok (.iconst 2, 1) := by decide +kernel
theorem dL_law_451 : decode cL_law 451 = .ok (.iadd, 1) := by decide +kernel
theorem dL_law_452 : decode cL_law 452 = .ok (.iaload, 1) := by decide +kernel
theorem dL_law_453 : decode cL_law 453 = .ok (.invokevirtual 52, 3) := by decide +kernel
theorem dL_law_456 : decode cL_law 456 = .ok (.if_icmp .eq 887, 3) := by decide +kernel
theorem dL_law_461 : decode cL_law 461 = .ok (.aload_n 1, 1) := by decide +kernel
theorem dL_law_462 : decode cL_law 462 = .ok (.aload_n 0, 1) := by decide +kernel
theorem dL_law_463 : decode cL_law 463 = .ok (.iload_n 3, 1) := by decide +kernel
theorem dL_law_464 : decode cL_law 464 = .ok (.iconst 1, 1) := by decide +kernel
theorem dL_law_465 : decode cL_law 465 = .ok (.iadd, 1) := by decide +kernel
theorem dL_law_466 : decode cL_law 466 = .ok (.iaload, 1) := by decide +kernel
theorem dL_law_467 : decode cL_law 467 = .ok (.aload_n 0, 1) := by decide +kernel
theorem dL_law_468 : decode cL_law 468 = .ok (.iload_n 3, 1) := by decide +kernel
theorem dL_law_469 : decode cL_law 469 = .ok (.iconst 2, 1) := by decide +kernel
theorem dL_law_470 : decode cL_law 470 = .ok (.iadd, 1) := by decide +kernel
theorem dL_law_471 : decode cL_law 471 = .ok (.iaload, 1) := by decide +kernel
theorem dL_law_472 : decode cL_law 472 = .ok (.aload_n 0, 1) := by decide +kernel
theorem dL_law_473 : decode cL_law 473 = .ok (.iload_n 3, 1) := by decide +kernel
theorem dL_law_474 : decode cL_law 474 = .ok (.iconst 3, 1) := by decide +kernel
theorem dL_law_475 : decode cL_law 475 = .ok (.iadd, 1) := by decide +kernel
theorem dL_law_476 : decode cL_law 476 = .ok (.iaload, 1) := by decide +kernel
theorem dL_law_477 : decode cL_law 477 = .ok (.invokevirtual 53, 3) := by decide +kernel
theorem dL_law_480 : decode cL_law 480 = .ok (.aload_n 2, 1) := by decide +kernel
theorem dL_law_481 : decode cL_law 481 = .ok (.aload_n 0, 1) := by decide +kernel
theorem dL_law_482 : decode cL_law 482 = .ok (.iload_n 3, 1) := by decide +kernel
theorem dL_law_483 : decode cL_law 483 = .ok (.iconst 1, 1) := by decide +kernel
theorem dL_law_484 : decode cL_law 484 = .ok (.iadd, 1) := by decide +kernel
theorem dL_law_485 : decode cL_law 485 = .ok (.iaload, 1) := by decide +kernel
theorem dL_law_486 : decode cL_law 486 = .ok (.aload_n 0, 1) := by decide +kernel
theorem dL_law_487 : decode cL_law 487 = .ok (.iload_n 3, 1) := by decide +kernel
theorem dL_law_488 : decode cL_law 488 = .ok (.iconst 2, 1) := by decide +kernel
theorem dL_law_489 : decode cL_law 489 = .ok (.iadd, 1) := by decide +kernel
theorem dL_law_490 : decode cL_law 490 = .ok (.iaload, 1) := by decide +kernel
theorem dL_law_491 : decode cL_law 491 = .ok (.aload_n 0, 1) := by decide +kernel
theorem dL_law_492 : decode cL_law 492 = .ok (.iload_n 3, 1) := by decide +kernel
theorem dL_law_493 : decode cL_law 493 = .ok (.iconst 3, 1) := by decide +kernel
theorem dL_law_494 : decode cL_law 494 = .ok (.iadd, 1) := by decide +kernel
theorem dL_law_495 : decode cL_law 495 = .ok (.iaload, 1) := by decide +kernel
theorem dL_law_496 : decode cL_law 496 = .ok (.invokevirtual 57, 3) := by decide +kernel
theorem dL_law_499 : decode cL_law 499 = .ok (.if_icmp .eq 844, 3) := by decide +kernel
theorem dL_law_504 : decode cL_law 504 = .ok (.aload_n 1, 1) := by decide +kernel
theorem dL_law_505 : decode cL_law 505 = .ok (.aload_n 0, 1) := by decide +kernel
theorem dL_law_506 : decode cL_law 506 = .ok (.iload_n 3, 1) := by decide +kernel
theorem dL_law_507 : decode cL_law 507 = .ok (.iconst 1, 1) := by decide +kernel
theorem dL_law_508 : decode cL_law 508 = .ok (.iadd, 1) := by decide +kernel
theorem dL_law_509 : decode cL_law 509 = .ok (.iaload, 1) := by decide +kernel
theorem dL_law_510 : decode cL_law 510 = .ok (.aload_n 0, 1) := by decide +kernel
theorem dL_law_511 : decode cL_law 511 = .ok (.iload_n 3, 1) := by decide +kernel
theorem dL_law_512 : decode cL_law 512 = .ok (.iconst 2, 1) := by decide +kernel
theorem dL_law_513 : decode cL_law 513 = .ok (.iadd, 1) := by decide +kernel
theorem dL_law_514 : decode cL_law 514 = .ok (.iaload, 1) := by decide +kernel
theorem dL_law_515 : decode cL_law 515 = .ok (.aload_n 0, 1) := by decide +kernel
theorem dL_law_516 : decode cL_law 516 = .ok (.iload_n 3, 1) := by decide +kernel
theorem dL_law_517 : decode cL_law 517 = .ok (.iconst 3, 1) := by decide +kernel
theorem dL_law_518 : decode cL_law 518 = .ok (.iadd, 1) := by decide +kernel
theorem dL_law_519 : decode cL_law 519 = .ok (.iaload, 1) := by decide +kernel
theorem dL_law_520 : decode cL_law 520 = .ok (.invokevirtual 58, 3) := by decide +kernel
theorem dL_law_523 : decode cL_law 523 = .ok (.aload_n 2, 1) := by decide +kernel
theorem dL_law_524 : decode cL_law 524 = .ok (.aload_n 0, 1) := by decide +kernel
theorem dL_law_525 : decode cL_law 525 = .ok (.iload_n 3, 1) := by decide +kernel
theorem dL_law_526 : decode cL_law 526 = .ok (.iconst 1, 1) := by decide +kernel
theorem dL_law_527 : decode cL_law 527 = .ok (.iadd, 1) := by decide +kernel
theorem dL_law_528 : decode cL_law 528 = .ok (.iaload, 1) := by decide +kernel
theorem dL_law_529 : decode cL_law 529 = .ok (.aload_n 0, 1) := by decide +kernel
theorem dL_law_530 : decode cL_law 530 = .ok (.iload_n 3, 1) := by decide +kernel
theorem dL_law_531 : decode cL_law 531 = .ok (.iconst 2, 1) := by decide +kernel
theorem dL_law_532 : decode cL_law 532 = .ok (.iadd, 1) := by decide +kernel
theorem dL_law_533 : decode cL_law 533 = .ok (.iaload, 1) := by decide +kernel
theorem dL_law_534 : decode cL_law 534 = .ok (.aload_n 0, 1) := by decide +kernel
theorem dL_law_535 : decode cL_law 535 = .ok (.iload_n 3, 1) := by decide +kernel
theorem dL_law_536 : decode cL_law 536 = .ok (.iconst 3, 1) := by decide +kernel
theorem dL_law_537 : decode cL_law 537 = .ok (.iadd, 1) := by decide +kernel
theorem dL_law_538 : decode cL_law 538 = .ok (.iaload, 1) := by decide +kernel
theorem dL_law_539 : decode cL_law 539 = .ok (.invokevirtual 61, 3) := by decide +kernel
theorem dL_law_542 : decode cL_law 542 = .ok (.if_icmp .eq 801, 3) := by decide +kernel
theorem dL_law_547 : decode cL_law 547 = .ok (.aload_n 1, 1) := by decide +kernel
theorem dL_law_548 : decode cL_law 548 = .ok (.aload_n 0, 1) := by decide +kernel
theorem dL_law_549 : decode cL_law 549 = .ok (.iload_n 3, 1) := by decide +kernel
theorem dL_law_550 : decode cL_law 550 = .ok (.iconst 1, 1) := by decide +kernel
theorem dL_law_551 : decode cL_law 551 = .ok (.iadd, 1) := by decide +kernel
theorem dL_law_552 : decode cL_law 552 = .ok (.iaload, 1) := by decide +kernel
theorem dL_law_553 : decode cL_law 553 = .ok (.aload_n 0, 1) := by decide +kernel
theorem dL_law_554 : decode cL_law 554 = .ok (.iload_n 3, 1) := by decide +kernel
theorem dL_law_555 : decode cL_law 555 = .ok (.iconst 2, 1) := by decide +kernel
theorem dL_law_556 : decode cL_law 556 = .ok (.iadd, 1) := by decide +kernel
theorem dL_law_557 : decode cL_law 557 = .ok (.iaload, 1) := by decide +kernel
theorem dL_law_558 : decode cL_law 558 = .ok (.invokevirtual 62, 3) := by decide +kernel
theorem dL_law_561 : decode cL_law 561 = .ok (.aload_n 2, 1) := by decide +kernel
theorem dL_law_562 : decode cL_law 562 = .ok (.aload_n 0, 1) := by decide +kernel
theorem dL_law_563 : decode cL_law 563 = .ok (.iload_n 3, 1) := by decide +kernel
theorem dL_law_564 : decode cL_law 564 = .ok (.iconst 1, 1) := by decide +kernel
theorem dL_law_565 : decode cL_law 565 = .ok (.iadd, 1) := by decide +kernel
theorem dL_law_566 : decode cL_law 566 = .ok (.iaload, 1) := by decide +kernel
theorem dL_law_567 : decode cL_law 567 = .ok (.aload_n 0, 1) := by decide +kernel
theorem dL_law_568 : decode cL_law 568 = .ok (.iload_n 3, 1) := by decide +kernel
theorem dL_law_569 : decode cL_law 569 = .ok (.iconst 2, 1) := by decide +kernel
theorem dL_law_570 : decode cL_law 570 = .ok (.iadd, 1) := by decide +kernel
theorem dL_law_571 : decode cL_law 571 = .ok (.iaload, 1) := by decide +kernel
theorem dL_law_572 : decode cL_law 572 = .ok (.invokevirtual 65, 3) := by decide +kernel
theorem dL_law_575 : decode cL_law 575 = .ok (.if_icmp .eq 768, 3) := by decide +kernel
theorem dL_law_580 : decode cL_law 580 = .ok (.aload_n 1, 1) := by decide +kernel
theorem dL_law_581 : decode cL_law 581 = .ok (.invokevirtual 66, 3) := by decide +kernel
theorem dL_law_584 : decode cL_law 584 = .ok (.aload_n 2, 1) := by decide +kernel
theorem dL_law_585 : decode cL_law 585 = .ok (.invokevirtual 70, 3) := by decide +kernel
theorem dL_law_588 : decode cL_law 588 = .ok (.if_icmp .eq 755, 3) := by decide +kernel
theorem dL_law_593 : decode cL_law 593 = .ok (.aload_n 1, 1) := by decide +kernel
theorem dL_law_594 : decode cL_law 594 = .ok (.aload_n 0, 1) := by decide +kernel
theorem dL_law_595 : decode cL_law 595 = .ok (.iload_n 3, 1) := by decide +kernel
theorem dL_law_596 : decode cL_law 596 = .ok (.iconst 1, 1) := by decide +kernel
theorem dL_law_597 : decode cL_law 597 = .ok (.iadd, 1) := by decide +kernel
theorem dL_law_598 : decode cL_law 598 = .ok (.iaload, 1) := by decide +kernel
theorem dL_law_599 : decode cL_law 599 = .ok (.aload_n 0, 1) := by decide +kernel
theorem dL_law_600 : decode cL_law 600 = .ok (.iload_n 3, 1) := by decide +kernel
theorem dL_law_601 : decode cL_law 601 = .ok (.iconst 2, 1) := by decide +kernel
theorem dL_law_602 : decode cL_law 602 = .ok (.iadd, 1) := by decide +kernel
theorem dL_law_603 : decode cL_law 603 = .ok (.iaload, 1) := by decide +kernel
theorem dL_law_604 : decode cL_law 604 = .ok (.aload_n 0, 1) := by decide +kernel
theorem dL_law_605 : decode cL_law 605 = .ok (.iload_n 3, 1) := by decide +kernel
theorem dL_law_606 : decode cL_law 606 = .ok (.iconst 3, 1) := by decide +kernel
theorem dL_law_607 : decode cL_law 607 = .ok (.iadd, 1) := by decide +kernel
theorem dL_law_608 : decode cL_law 608 = .ok (.iaload, 1) := by decide +kernel
theorem dL_law_609 : decode cL_law 609 = .ok (.aload_n 0, 1) := by decide +kernel
theorem dL_law_610 : decode cL_law 610 = .ok (.iload_n 3, 1) := by decide +kernel
theorem dL_law_611 : decode cL_law 611 = .ok (.iconst 4, 1) := by decide +kernel
theorem dL_law_612 : decode cL_law 612 = .ok (.iadd, 1) := by decide +kernel
theorem dL_law_613 : decode cL_law 613 = .ok (.iaload, 1) := by decide +kernel
theorem dL_law_614 : decode cL_law 614 = .ok (.aload_n 0, 1) := by decide +kernel
theorem dL_law_615 : decode cL_law 615 = .ok (.iload_n 3, 1) := by decide +kernel
theorem dL_law_616 : decode cL_law 616 = .ok (.iconst 5, 1) := by decide +kernel
theorem dL_law_617 : decode cL_law 617 = .ok (.iadd, 1) := by decide +kernel
theorem dL_law_618 : decode cL_law 618 = .ok (.iaload, 1) := by decide +kernel
theorem dL_law_619 : decode cL_law 619 = .ok (.invokevirtual 71, 3) := by decide +kernel
theorem dL_law_622 : decode cL_law 622 = .ok (.aload_n 2, 1) := by decide +kernel
theorem dL_law_623 : decode cL_law 623 = .ok (.aload_n 0, 1) := by decide +kernel
theorem dL_law_624 : decode cL_law 624 = .ok (.iload_n 3, 1) := by decide +kernel
theorem dL_law_625 : decode cL_law 625 = .ok (.iconst 1, 1) := by decide +kernel
theorem dL_law_626 : decode cL_law 626 = .ok (.iadd, 1) := by decide +kernel
theorem dL_law_627 : decode cL_law 627 = .ok (.iaload, 1) := by decide +kernel
theorem dL_law_628 : decode cL_law 628 = .ok (.aload_n 0, 1) := by decide +kernel
theorem dL_law_629 : decode cL_law 629 = .ok (.iload_n 3, 1) := by decide +kernel
theorem dL_law_630 : decode cL_law 630 = .ok (.iconst 2, 1) := by decide +kernel
theorem dL_law_631 : decode cL_law 631 = .ok (.iadd, 1) := by decide +kernel
theorem dL_law_632 : decode cL_law 632 = .ok (.iaload, 1) := by decide +kernel
theorem dL_law_633 : decode cL_law 633 = .ok (.aload_n 0, 1) := by decide +kernel
theorem dL_law_634 : decode cL_law 634 = .ok (.iload_n 3, 1) := by decide +kernel
theorem dL_law_635 : decode cL_law 635 = .ok (.iconst 3, 1) := by decide +kernel
theorem dL_law_636 : decode cL_law 636 = .ok (.iadd, 1) := by decide +kernel
theorem dL_law_637 : decode cL_law 637 = .ok (.iaload, 1) := by decide +kernel
theorem dL_law_638 : decode cL_law 638 = .ok (.aload_n 0, 1) := by decide +kernel
theorem dL_law_639 : decode cL_law 639 = .ok (.iload_n 3, 1) := by decide +kernel
theorem dL_law_640 : decode cL_law 640 = .ok (.iconst 4, 1) := by decide +kernel
theorem dL_law_641 : decode cL_law 641 = .ok (.iadd, 1) := by decide +kernel
theorem dL_law_642 : decode cL_law 642 = .ok (.iaload, 1) := by decide +kernel
theorem dL_law_643 : decode cL_law 643 = .ok (.aload_n 0, 1) := by decide +kernel
theorem dL_law_644 : decode cL_law 644 = .ok (.iload_n 3, 1) := by decide +kernel
theorem dL_law_645 : decode cL_law 645 = .ok (.iconst 5, 1) := by decide +kernel
theorem dL_law_646 : decode cL_law 646 = .ok (.iadd, 1) := by decide +kernel
theorem dL_law_647 : decode cL_law 647 = .ok (.iaload, 1) := by decide +kernel
theorem dL_law_648 : decode cL_law 648 = .ok (.invokevirtual 74, 3) := by decide +kernel
theorem dL_law_651 : decode cL_law 651 = .ok (.if_icmp .eq 692, 3) := by decide +kernel
theorem dL_law_656 : decode cL_law 656 = .ok (.aload_n 1, 1) := by decide +kernel
theorem dL_law_657 : decode cL_law 657 = .ok (.aload_n 0, 1) := by decide +kernel
theorem dL_law_658 : decode cL_law 658 = .ok (.iload_n 3, 1) := by decide +kernel
theorem dL_law_659 : decode cL_law 659 = .ok (.iconst 1, 1) := by decide +kernel
theorem dL_law_660 : decode cL_law 660 = .ok (.iadd, 1) := by decide +kernel
theorem dL_law_661 : decode cL_law 661 = .ok (.iaload, 1) := by decide +kernel
theorem dL_law_662 : decode cL_law 662 = .ok (.aload_n 0, 1) := by decide +kernel
theorem dL_law_663 : decode cL_law 663 = .ok (.iload_n 3, 1) := by decide +kernel
theorem dL_law_664 : decode cL_law 664 = .ok (.iconst 2, 1) := by decide +kernel
theorem dL_law_665 : decode cL_law 665 = .ok (.iadd, 1) := by decide +kernel
theorem dL_law_666 : decode cL_law 666 = .ok (.iaload, 1) := by decide +kernel
theorem dL_law_667 : decode cL_law 667 = .ok (.aload_n 0, 1) := by decide +kernel
theorem dL_law_668 : decode cL_law 668 = .ok (.iload_n 3, 1) := by decide +kernel
theorem dL_law_669 : decode cL_law 669 = .ok (.iconst 3, 1) := by decide +kernel
theorem dL_law_670 : decode cL_law 670 = .ok (.iadd, 1) := by decide +kernel
theorem dL_law_671 : decode cL_law 671 = .ok (.iaload, 1) := by decide +kernel
theorem dL_law_672 : decode cL_law 672 = .ok (.aload_n 0, 1) := by decide +kernel
theorem dL_law_673 : decode cL_law 673 = .ok (.iload_n 3, 1) := by decide +kernel
theorem dL_law_674 : decode cL_law 674 = .ok (.iconst 4, 1) := by decide +kernel
theorem dL_law_675 : decode cL_law 675 = .ok (.iadd, 1) := by decide +kernel
theorem dL_law_676 : decode cL_law 676 = .ok (.iaload, 1) := by decide +kernel
theorem dL_law_677 : decode cL_law 677 = .ok (.aload_n 0, 1) := by decide +kernel
theorem dL_law_678 : decode cL_law 678 = .ok (.iload_n 3, 1) := by decide +kernel
theorem dL_law_679 : decode cL_law 679 = .ok (.iconst 5, 1) := by decide +kernel
theorem dL_law_680 : decode cL_law 680 = .ok (.iadd, 1) := by decide +kernel
theorem dL_law_681 : decode cL_law 681 = .ok (.iaload, 1) := by decide +kernel
theorem dL_law_682 : decode cL_law 682 = .ok (.invokevirtual 75, 3) := by decide +kernel
theorem dL_law_685 : decode cL_law 685 = .ok (.aload_n 2, 1) := by decide +kernel
theorem dL_law_686 : decode cL_law 686 = .ok (.aload_n 0, 1) := by decide +kernel
theorem dL_law_687 : decode cL_law 687 = .ok (.iload_n 3, 1) := by decide +kernel
theorem dL_law_688 : decode cL_law 688 = .ok (.iconst 1, 1) := by decide +kernel
theorem dL_law_689 : decode cL_law 689 = .ok (.iadd, 1) := by decide +kernel
theorem dL_law_690 : decode cL_law 690 = .ok (.iaload, 1) := by decide +kernel
theorem dL_law_691 : decode cL_law 691 = .ok (.aload_n 0, 1) := by decide +kernel
theorem dL_law_692 : decode cL_law 692 = .ok (.iload_n 3, 1) := by decide +kernel
theorem dL_law_693 : decode cL_law 693 = .ok (.iconst 2, 1) := by decide +kernel
theorem dL_law_694 : decode cL_law 694 = .ok (.iadd, 1) := by decide +kernel
theorem dL_law_695 : decode cL_law 695 = .ok (.iaload, 1) := by decide +kernel
theorem dL_law_696 : decode cL_law 696 = .ok (.aload_n 0, 1) := by decide +kernel
theorem dL_law_697 : decode cL_law 697 = .ok (.iload_n 3, 1) := by decide +kernel
theorem dL_law_698 : decode cL_law 698 = .ok (.iconst 3, 1) := by decide +kernel
theorem dL_law_699 : decode cL_law 699 = .ok (.iadd, 1) := by decide +kernel
theorem dL_law_700 : decode cL_law 700 = .ok (.iaload, 1) := by decide +kernel
theorem dL_law_701 : decode cL_law 701 = .ok (.aload_n 0, 1) := by decide +kernel
theorem dL_law_702 : decode cL_law 702 = .ok (.iload_n 3, 1) := by decide +kernel
theorem dL_law_703 : decode cL_law 703 = .ok (.iconst 4, 1) := by decide +kernel
theorem dL_law_704 : decode cL_law 704 = .ok (.iadd, 1) := by decide +kernel
theorem dL_law_705 : decode cL_law 705 = .ok (.iaload, 1) := by decide +kernel
theorem dL_law_706 : decode cL_law 706 = .ok (.aload_n 0, 1) := by decide +kernel
theorem dL_law_707 : decode cL_law 707 = .ok (.iload_n 3, 1) := by decide +kernel
theorem dL_law_708 : decode cL_law 708 = .ok (.iconst 5, 1) := by decide +kernel
theorem dL_law_709 : decode cL_law 709 = .ok (.iadd, 1) := by decide +kernel
theorem dL_law_710 : decode cL_law 710 = .ok (.iaload, 1) := by decide +kernel
theorem dL_law_711 : decode cL_law 711 = .ok (.invokevirtual 78, 3) := by decide +kernel
theorem dL_law_714 : decode cL_law 714 = .ok (.if_icmp .eq 629, 3) := by decide +kernel
theorem dL_law_719 : decode cL_law 719 = .ok (.aload_n 1, 1) := by decide +kernel
theorem dL_law_720 : decode cL_law 720 = .ok (.aload_n 0, 1) := by decide +kernel
theorem dL_law_721 : decode cL_law 721 = .ok (.iload_n 3, 1) := by decide +kernel
theorem dL_law_722 : decode cL_law 722 = .ok (.iconst 1, 1) := by decide +kernel
theorem dL_law_723 : decode cL_law 723 = .ok (.iadd, 1) := by decide +kernel
theorem dL_law_724 : decode cL_law 724 = .ok (.iaload, 1) := by decide +kernel
theorem dL_law_725 : decode cL_law 725 = .ok (.aload_n 0, 1) := by decide +kernel
theorem dL_law_726 : decode cL_law 726 = .ok (.iload_n 3, 1) := by decide +kernel
theorem dL_law_727 : decode cL_law 727 = .ok (.iconst 2, 1) := by decide +kernel
theorem dL_law_728 : decode cL_law 728 = .ok (.iadd, 1) := by decide +kernel
theorem dL_law_729 : decode cL_law 729 = .ok (.iaload, 1) := by decide +kernel
theorem dL_law_730 : decode cL_law 730 = .ok (.aload_n 0, 1) := by decide +kernel
theorem dL_law_731 : decode cL_law 731 = .ok (.iload_n 3, 1) := by decide +kernel
theorem dL_law_732 : decode cL_law 732 = .ok (.iconst 3, 1) := by decide +kernel
theorem dL_law_733 : decode cL_law 733 = .ok (.iadd, 1) := by decide +kernel
theorem dL_law_734 : decode cL_law 734 = .ok (.iaload, 1) := by decide +kernel
theorem dL_law_735 : decode cL_law 735 = .ok (.aload_n 0, 1) := by decide +kernel
theorem dL_law_736 : decode cL_law 736 = .ok (.iload_n 3, 1) := by decide +kernel
theorem dL_law_737 : decode cL_law 737 = .ok (.iconst 4, 1) := by decide +kernel
theorem dL_law_738 : decode cL_law 738 = .ok (.iadd, 1) := by decide +kernel
theorem dL_law_739 : decode cL_law 739 = .ok (.iaload, 1) := by decide +kernel
theorem dL_law_740 : decode cL_law 740 = .ok (.invokevirtual 79, 3) := by decide +kernel
theorem dL_law_743 : decode cL_law 743 = .ok (.aload_n 2, 1) := by decide +kernel
theorem dL_law_744 : decode cL_law 744 = .ok (.aload_n 0, 1) := by decide +kernel
theorem dL_law_745 : decode cL_law 745 = .ok (.iload_n 3, 1) := by decide +kernel
theorem dL_law_746 : decode cL_law 746 = .ok (.iconst 1, 1) := by decide +kernel
theorem dL_law_747 : decode cL_law 747 = .ok (.iadd, 1) := by decide +kernel
theorem dL_law_748 : decode cL_law 748 = .ok (.iaload, 1) := by decide +kernel
theorem dL_law_749 : decode cL_law 749 = .ok (.aload_n 0, 1) := by decide +kernel
theorem dL_law_750 : decode cL_law 750 = .ok (.iload_n 3, 1) := by decide +kernel
theorem dL_law_751 : decode cL_law 751 = .ok (.iconst 2, 1) := by decide +kernel
theorem dL_law_752 : decode cL_law 752 = .ok (.iadd, 1) := by decide +kernel
theorem dL_law_753 : decode cL_law 753 = .ok (.iaload, 1) := by decide +kernel
theorem dL_law_754 : decode cL_law 754 = .ok (.aload_n 0, 1) := by decide +kernel
theorem dL_law_755 : decode cL_law 755 = .ok (.iload_n 3, 1) := by decide +kernel
theorem dL_law_756 : decode cL_law 756 = .ok (.iconst 3, 1) := by decide +kernel
theorem dL_law_757 : decode cL_law 757 = .ok (.iadd, 1) := by decide +kernel
theorem dL_law_758 : decode cL_law 758 = .ok (.iaload, 1) := by decide +kernel
theorem dL_law_759 : decode cL_law 759 = .ok (.aload_n 0, 1) := by decide +kernel
theorem dL_law_760 : decode cL_law 760 = .ok (.iload_n 3, 1) := by decide +kernel
theorem dL_law_761 : decode cL_law 761 = .ok (.iconst 4, 1) := by decide +kernel
theorem dL_law_762 : decode cL_law 762 = .ok (.iadd, 1) := by decide +kernel
theorem dL_law_763 : decode cL_law 763 = .ok (.iaload, 1) := by decide +kernel
theorem dL_law_764 : decode cL_law 764 = .ok (.invokevirtual 83, 3) := by decide +kernel
theorem dL_law_767 : decode cL_law 767 = .ok (.if_icmp .eq 576, 3) := by decide +kernel
theorem dL_law_772 : decode cL_law 772 = .ok (.aload_n 1, 1) := by decide +kernel
theorem dL_law_773 : decode cL_law 773 = .ok (.aload_n 0, 1) := by decide +kernel
theorem dL_law_774 : decode cL_law 774 = .ok (.iload_n 3, 1) := by decide +kernel
theorem dL_law_775 : decode cL_law 775 = .ok (.iconst 1, 1) := by decide +kernel
theorem dL_law_776 : decode cL_law 776 = .ok (.iadd, 1) := by decide +kernel
theorem dL_law_777 : decode cL_law 777 = .ok (.iaload, 1) := by decide +kernel
theorem dL_law_778 : decode cL_law 778 = .ok (.aload_n 0, 1) := by decide +kernel
theorem dL_law_779 : decode cL_law 779 = .ok (.iload_n 3, 1) := by decide +kernel
theorem dL_law_780 : decode cL_law 780 = .ok (.iconst 2, 1) := by decide +kernel
theorem dL_law_781 : decode cL_law 781 = .ok (.iadd, 1) := by decide +kernel
theorem dL_law_782 : decode cL_law 782 = .ok (.iaload, 1) := by decide +kernel
theorem dL_law_783 : decode cL_law 783 = .ok (.invokevirtual 84, 3) := by decide +kernel
theorem dL_law_786 : decode cL_law 786 = .ok (.aload_n 2, 1) := by decide +kernel
theorem dL_law_787 : decode cL_law 787 = .ok (.aload_n 0, 1) := by decide +kernel
theorem dL_law_788 : decode cL_law 788 = .ok (.iload_n 3, 1) := by decide +kernel
theorem dL_law_789 : decode cL_law 789 = .ok (.iconst 1, 1) := by decide +kernel
theorem dL_law_790 : decode cL_law 790 = .ok (.iadd, 1) := by decide +kernel
theorem dL_law_791 : decode cL_law 791 = .ok (.iaload, 1) := by decide +kernel
theorem dL_law_792 : decode cL_law 792 = .ok (.aload_n 0, 1) := by decide +kernel
theorem dL_law_793 : decode cL_law 793 = .ok (.iload_n 3, 1) := by decide +kernel
theorem dL_law_794 : decode cL_law 794 = .ok (.iconst 2, 1) := by decide +kernel
theorem dL_law_795 : decode cL_law 795 = .ok (.iadd, 1) := by decide +kernel
theorem dL_law_796 : decode cL_law 796 = .ok (.iaload, 1) := by decide +kernel
theorem dL_law_797 : decode cL_law 797 = .ok (.invokevirtual 87, 3) := by decide +kernel
theorem dL_law_800 : decode cL_law 800 = .ok (.if_icmp .eq 543, 3) := by decide +kernel
theorem dL_law_805 : decode cL_law 805 = .ok (.aload_n 1, 1) := by decide +kernel
theorem dL_law_806 : decode cL_law 806 = .ok (.aload_n 0, 1) := by decide +kernel
theorem dL_law_807 : decode cL_law 807 = .ok (.iload_n 3, 1) := by decide +kernel
theorem dL_law_808 : decode cL_law 808 = .ok (.iconst 1, 1) := by decide +kernel
theorem dL_law_809 : decode cL_law 809 = .ok (.iadd, 1) := by decide +kernel
theorem dL_law_810 : decode cL_law 810 = .ok (.iaload, 1) := by decide +kernel
theorem dL_law_811 : decode cL_law 811 = .ok (.invokevirtual 88, 3) := by decide +kernel
theorem dL_law_814 : decode cL_law 814 = .ok (.aload_n 2, 1) := by decide +kernel
theorem dL_law_815 : decode cL_law 815 = .ok (.aload_n 0, 1) := by decide +kernel
theorem dL_law_816 : decode cL_law 816 = .ok (.iload_n 3, 1) := by decide +kernel
theorem dL_law_817 : decode cL_law 817 = .ok (.iconst 1, 1) := by decide +kernel
theorem dL_law_818 : decode cL_law 818 = .ok (.iadd, 1) := by decide +kernel
theorem dL_law_819 : decode cL_law 819 = .ok (.iaload, 1) := by decide +kernel
theorem dL_law_820 : decode cL_law 820 = .ok (.invokevirtual 91, 3) := by decide +kernel
theorem dL_law_823 : decode cL_law 823 = .ok (.if_icmp .eq 520, 3) := by decide +kernel
theorem dL_law_828 : decode cL_law 828 = .ok (.aload_n 1, 1) := by decide +kernel
theorem dL_law_829 : decode cL_law 829 = .ok (.aload_n 0, 1) := by decide +kernel
theorem dL_law_830 : decode cL_law 830 = .ok (.iload_n 3, 1) := by decide +kernel
theorem dL_law_831 : decode cL_law 831 = .ok (.iconst 1, 1) := by decide +kernel
theorem dL_law_832 : decode cL_law 832 = .ok (.iadd, 1) := by decide +kernel
theorem dL_law_833 : decode cL_law 833 = .ok (.iaload, 1) := by decide +kernel
theorem dL_law_834 : decode cL_law 834 = .ok (.aload_n 0, 1) := by decide +kernel
theorem dL_law_835 : decode cL_law 835 = .ok (.iload_n 3, 1) := by decide +kernel
theorem dL_law_836 : decode cL_law 836 = .ok (.iconst 2, 1) := by decide +kernel
theorem dL_law_837 : decode cL_law 837 = .ok (.iadd, 1) := by decide +kernel
theorem dL_law_838 : decode cL_law 838 = .ok (.iaload, 1) := by decide +kernel
theorem dL_law_839 : decode cL_law 839 = .ok (.invokevirtual 92, 3) := by decide +kernel
theorem dL_law_842 : decode cL_law 842 = .ok (.aload_n 2, 1) := by decide +kernel
theorem dL_law_843 : decode cL_law 843 = .ok (.aload_n 0, 1) := by decide +kernel
theorem dL_law_844 : decode cL_law 844 = .ok (.iload_n 3, 1) := by decide +kernel
theorem dL_law_845 : decode cL_law 845 = .ok (.iconst 1, 1) := by decide +kernel
theorem dL_law_846 : decode cL_law 846 = .ok (.iadd, 1) := by decide +kernel
theorem dL_law_847 : decode cL_law 847 = .ok (.iaload, 1) := by decide +kernel
theorem dL_law_848 : decode cL_law 848 = .ok (.aload_n 0, 1) := by decide +kernel
theorem dL_law_849 : decode cL_law 849 = .ok (.iload_n 3, 1) := by decide +kernel
theorem dL_law_850 : decode cL_law 850 = .ok (.iconst 2, 1) := by decide +kernel
theorem dL_law_851 : decode cL_law 851 = .ok (.iadd, 1) := by decide +kernel
theorem dL_law_852 : decode cL_law 852 = .ok (.iaload, 1) := by decide +kernel
theorem dL_law_853 : decode cL_law 853 = .ok (.invokevirtual 95, 3) := by decide +kernel
theorem dL_law_856 : decode cL_law 856 = .ok (.if_icmp .eq 487, 3) := by decide +kernel
theorem dL_law_861 : decode cL_law 861 = .ok (.aload_n 1, 1) := by decide +kernel
theorem dL_law_862 : decode cL_law 862 = .ok (.aload_n 0, 1) := by decide +kernel
theorem dL_law_863 : decode cL_law 863 = .ok (.iload_n 3, 1) := by decide +kernel
theorem dL_law_864 : decode cL_law 864 = .ok (.iconst 1, 1) := by decide +kernel
theorem dL_law_865 : decode cL_law 865 = .ok (.iadd, 1) := by decide +kernel
theorem dL_law_866 : decode cL_law 866 = .ok (.iaload, 1) := by decide +kernel
theorem dL_law_867 : decode cL_law 867 = .ok (.aload_n 0, 1) := by decide +kernel
theorem dL_law_868 : decode cL_law 868 = .ok (.iload_n 3, 1) := by decide +kernel
theorem dL_law_869 : decode cL_law 869 = .ok (.iconst 2, 1) := by decide +kernel
theorem dL_law_870 : decode cL_law 870 = .ok (.iadd, 1) := by decide +kernel
theorem dL_law_871 : decode cL_law 871 = .ok (.iaload, 1) := by decide +kernel
theorem dL_law_872 : decode cL_law 872 = .ok (.aload_n 0, 1) := by decide +kernel
theorem dL_law_873 : decode cL_law 873 = .ok (.iload_n 3, 1) := by decide +kernel
theorem dL_law_874 : decode cL_law 874 = .ok (.iconst 3, 1) := by decide +kernel
theorem dL_law_875 : decode cL_law 875 = .ok (.iadd, 1) := by decide +kernel
theorem dL_law_876 : decode cL_law 876 = .ok (.iaload, 1) := by decide +kernel
theorem dL_law_877 : decode cL_law 877 = .ok (.invokevirtual 96, 3) := by decide +kernel
theorem dL_law_880 : decode cL_law 880 = .ok (.aload_n 2, 1) := by decide +kernel
theorem dL_law_881 : decode cL_law 881 = .ok (.aload_n 0, 1) := by decide +kernel
theorem dL_law_882 : decode cL_law 882 = .ok (.iload_n 3, 1) := by decide +kernel
theorem dL_law_883 : decode cL_law 883 = .ok (.iconst 1, 1) := by decide +kernel
theorem dL_law_884 : decode cL_law 884 = .ok (.iadd, 1) := by decide +kernel
theorem dL_law_885 : decode cL_law 885 = .ok (.iaload, 1) := by decide +kernel
theorem dL_law_886 : decode cL_law 886 = .ok (.aload_n 0, 1) := by decide +kernel
theorem dL_law_887 : decode cL_law 887 = .ok (.iload_n 3, 1) := by decide +kernel
theorem dL_law_888 : decode cL_law 888 = .ok (.iconst 2, 1) := by decide +kernel
theorem dL_law_889 : decode cL_law 889 = .ok (.iadd, 1) := by decide +kernel
theorem dL_law_890 : decode cL_law 890 = .ok (.iaload, 1) := by decide +kernel
theorem dL_law_891 : decode cL_law 891 = .ok (.aload_n 0, 1) := by decide +kernel
theorem dL_law_892 : decode cL_law 892 = .ok (.iload_n 3, 1) := by decide +kernel
theorem dL_law_893 : decode cL_law 893 = .ok (.iconst 3, 1) := by decide +kernel
theorem dL_law_894 : decode cL_law 894 = .ok (.iadd, 1) := by decide +kernel
theorem dL_law_895 : decode cL_law 895 = .ok (.iaload, 1) := by decide +kernel
theorem dL_law_896 : decode cL_law 896 = .ok (.invokevirtual 99, 3) := by decide +kernel
theorem dL_law_899 : decode cL_law 899 = .ok (.if_icmp .eq 444, 3) := by decide +kernel
theorem dL_law_904 : decode cL_law 904 = .ok (.aload_n 1, 1) := by decide +kernel
theorem dL_law_905 : decode cL_law 905 = .ok (.aload_n 0, 1) := by decide +kernel
theorem dL_law_906 : decode cL_law 906 = .ok (.iload_n 3, 1) := by decide +kernel
theorem dL_law_907 : decode cL_law 907 = .ok (.iconst 1, 1) := by decide +kernel
theorem dL_law_908 : decode cL_law 908 = .ok (.iadd, 1) := by decide +kernel
theorem dL_law_909 : decode cL_law 909 = .ok (.iaload, 1) := by decide +kernel
theorem dL_law_910 : decode cL_law 910 = .ok (.invokevirtual 100, 3) := by decide +kernel
theorem dL_law_913 : decode cL_law 913 = .ok (.aload_n 2, 1) := by decide +kernel
theorem dL_law_914 : decode cL_law 914 = .ok (.aload_n 0, 1) := by decide +kernel
theorem dL_law_915 : decode cL_law 915 = .ok (.iload_n 3, 1) := by decide +kernel
theorem dL_law_916 : decode cL_law 916 = .ok (.iconst 1, 1) := by decide +kernel
theorem dL_law_917 : decode cL_law 917 = .ok (.iadd, 1) := by decide +kernel
theorem dL_law_918 : decode cL_law 918 = .ok (.iaload, 1) := by decide +kernel
theorem dL_law_919 : decode cL_law 919 = .ok (.invokevirtual 103, 3) := by decide +kernel
theorem dL_law_922 : decode cL_law 922 = .ok (.if_icmp .eq 421, 3) := by decide +kernel
theorem dL_law_927 : decode cL_law 927 = .ok (.aload_n 1, 1) := by decide +kernel
theorem dL_law_928 : decode cL_law 928 = .ok (.aload_n 0, 1) := by decide +kernel
theorem dL_law_929 : decode cL_law 929 = .ok (.iload_n 3, 1) := by decide +kernel
theorem dL_law_930 : decode cL_law 930 = .ok (.iconst 1, 1) := by decide +kernel
theorem dL_law_931 : decode cL_law 931 = .ok (.iadd, 1) := by decide +kernel
theorem dL_law_932 : decode cL_law 932 = .ok (.iaload, 1) := by decide +kernel
theorem dL_law_933 : decode cL_law 933 = .ok (.aload_n 0, 1) := by decide +kernel
theorem dL_law_934 : decode cL_law 934 = .ok (.iload_n 3, 1) := by decide +kernel
theorem dL_law_935 : decode cL_law 935 = .ok (.iconst 2, 1) := by decide +kernel
theorem dL_law_936 : decode cL_law 936 = .ok (.iadd, 1) := by decide +kernel
theorem dL_law_937 : decode cL_law 937 = .ok (.iaload, 1) := by decide +kernel
theorem dL_law_938 : decode cL_law 938 = .ok (.invokevirtual 104, 3) := by decide +kernel
theorem dL_law_941 : decode cL_law 941 = .ok (.aload_n 2, 1) := by decide +kernel
theorem dL_law_942 : decode cL_law 942 = .ok (.aload_n 0, 1) := by decide +kernel
theorem dL_law_943 : decode cL_law 943 = .ok (.iload_n 3, 1) := by decide +kernel
theorem dL_law_944 : decode cL_law 944 = .ok (.iconst 1, 1) := by decide +kernel
theorem dL_law_945 : decode cL_law 945 = .ok (.iadd, 1) := by decide +kernel
theorem dL_law_946 : decode cL_law 946 = .ok (.iaload, 1) := by decide +kernel
theorem dL_law_947 : decode cL_law 947 = .ok (.aload_n 0, 1) := by decide +kernel
theorem dL_law_948 : decode cL_law 948 = .ok (.iload_n 3, 1) := by decide +kernel
theorem dL_law_949 : decode cL_law 949 = .ok (.iconst 2, 1) := by decide +kernel
theorem dL_law_950 : decode cL_law 950 = .ok (.iadd, 1) := by decide +kernel
theorem dL_law_951 : decode cL_law 951 = .ok (.iaload, 1) := by decide +kernel
theorem dL_law_952 : decode cL_law 952 = .ok (.invokevirtual 107, 3) := by decide +kernel
theorem dL_law_955 : decode cL_law 955 = .ok (.if_icmp .eq 388, 3) := by decide +kernel
theorem dL_law_960 : decode cL_law 960 = .ok (.aload_n 1, 1) := by decide +kernel
theorem dL_law_961 : decode cL_law 961 = .ok (.aload_n 0, 1) := by decide +kernel
theorem dL_law_962 : decode cL_law 962 = .ok (.iload_n 3, 1) := by decide +kernel
theorem dL_law_963 : decode cL_law 963 = .ok (.iconst 1, 1) := by decide +kernel
theorem dL_law_964 : decode cL_law 964 = .ok (.iadd, 1) := by decide +kernel
theorem dL_law_965 : decode cL_law 965 = .ok (.iaload, 1) := by decide +kernel
theorem dL_law_966 : decode cL_law 966 = .ok (.aload_n 0, 1) := by decide +kernel
theorem dL_law_967 : decode cL_law 967 = .ok (.iload_n 3, 1) := by decide +kernel
theorem dL_law_968 : decode cL_law 968 = .ok (.iconst 2, 1) := by decide +kernel
theorem dL_law_969 : decode cL_law 969 = .ok (.iadd, 1) := by decide +kernel
theorem dL_law_970 : decode cL_law 970 = .ok (.iaload, 1) := by decide +kernel
theorem dL_law_971 : decode cL_law 971 = .ok (.invokevirtual 108, 3) := by decide +kernel
theorem dL_law_974 : decode cL_law 974 = .ok (.aload_n 2, 1) := by decide +kernel
theorem dL_law_975 : decode cL_law 975 = .ok (.aload_n 0, 1) := by decide +kernel
theorem dL_law_976 : decode cL_law 976 = .ok (.iload_n 3, 1) := by decide +kernel
theorem dL_law_977 : decode cL_law 977 = .ok (.iconst 1, 1) := by decide +kernel
theorem dL_law_978 : decode cL_law 978 = .ok (.iadd, 1) := by decide +kernel
theorem dL_law_979 : decode cL_law 979 = .ok (.iaload, 1) := by decide +kernel
theorem dL_law_980 : decode cL_law 980 = .ok (.aload_n 0, 1) := by decide +kernel
theorem dL_law_981 : decode cL_law 981 = .ok (.iload_n 3, 1) := by decide +kernel
theorem dL_law_982 : decode cL_law 982 = .ok (.iconst 2, 1) := by decide +kernel
theorem dL_law_983 : decode cL_law 983 = .ok (.iadd, 1) := by decide +kernel
theorem dL_law_984 : decode cL_law 984 = .ok (.iaload, 1) := by decide +kernel
theorem dL_law_985 : decode cL_law 985 = .ok (.invokevirtual 111, 3) := by decide +kernel
theorem dL_law_988 : decode cL_law 988 = .ok (.if_icmp .eq 355, 3) := by decide +kernel
theorem dL_law_993 : decode cL_law 993 = .ok (.aload_n 1, 1) := by decide +kernel
theorem dL_law_994 : decode cL_law 994 = .ok (.aload_n 0, 1) := by decide +kernel
theorem dL_law_995 : decode cL_law 995 = .ok (.iload_n 3, 1) := by decide +kernel
theorem dL_law_996 : decode cL_law 996 = .ok (.iconst 1, 1) := by decide +kernel
theorem dL_law_997 : decode cL_law 997 = .ok (.iadd, 1) := by decide +kernel
theorem dL_law_998 : decode cL_law 998 = .ok (.iaload, 1) := by decide +kernel
theorem dL_law_999 : decode cL_law 999 = .ok (.aload_n 0, 1) := by decide +kernel
theorem dL_law_1000 : decode cL_law 1000 = .ok (.iload_n 3, 1) := by decide +kernel
theorem dL_law_1001 : decode cL_law 1001 = .ok (.iconst 2, 1) := by decide +kernel
theorem dL_law_1002 : decode cL_law 1002 = .ok (.iadd, 1) := by decide +kernel
theorem dL_law_1003 : decode cL_law 1003 = .ok (.iaload, 1) := by decide +kernel
theorem dL_law_1004 : decode cL_law 1004 = .ok (.aload_n 0, 1) := by decide +kernel
theorem dL_law_1005 : decode cL_law 1005 = .ok (.iload_n 3, 1) := by decide +kernel
theorem dL_law_1006 : decode cL_law 1006 = .ok (.iconst 3, 1) := by decide +kernel
theorem dL_law_1007 : decode cL_law 1007 = .ok (.iadd, 1) := by decide +kernel
theorem dL_law_1008 : decode cL_law 1008 = .ok (.iaload, 1) := by decide +kernel
theorem dL_law_1009 : decode cL_law 1009 = .ok (.invokevirtual 112, 3) := by decide +kernel
theorem dL_law_1012 : decode cL_law 1012 = .ok (.aload_n 2, 1) := by decide +kernel
theorem dL_law_1013 : decode cL_law 1013 = .ok (.aload_n 0, 1) := by decide +kernel
theorem dL_law_1014 : decode cL_law 1014 = .ok (.iload_n 3, 1) := by decide +kernel
theorem dL_law_1015 : decode cL_law 1015 = .ok (.iconst 1, 1) := by decide +kernel
theorem dL_law_1016 : decode cL_law 1016 = .ok (.iadd, 1) := by decide +kernel
theorem dL_law_1017 : decode cL_law 1017 = .ok (.iaload, 1) := by decide +kernel
theorem dL_law_1018 : decode cL_law 1018 = .ok (.aload_n 0, 1) := by decide +kernel
theorem dL_law_1019 : decode cL_law 1019 = .ok (.iload_n 3, 1) := by decide +kernel
theorem dL_law_1020 : decode cL_law 1020 = .ok (.iconst 2, 1) := by decide +kernel
theorem dL_law_1021 : decode cL_law 1021 = .ok (.iadd, 1) := by decide +kernel
theorem dL_law_1022 : decode cL_law 1022 = .ok (.iaload, 1) := by decide +kernel
theorem dL_law_1023 : decode cL_law 1023 = .ok (.aload_n 0, 1) := by decide +kernel
theorem dL_law_1024 : decode cL_law 1024 = .ok (.iload_n 3, 1) := by decide +kernel
theorem dL_law_1025 : decode cL_law 1025 = .ok (.iconst 3, 1) := by decide +kernel
theorem dL_law_1026 : decode cL_law 1026 = .ok (.iadd, 1) := by decide +kernel
theorem dL_law_1027 : decode cL_law 1027 = .ok (.iaload, 1) := by decide +kernel
theorem dL_law_1028 : decode cL_law 1028 = .ok (.invokevirtual 115, 3) := by decide +kernel
theorem dL_law_1031 : decode cL_law 1031 = .ok (.if_icmp .eq 312, 3) := by decide +kernel
theorem dL_law_1036 : decode cL_law 1036 = .ok (.aload_n 1, 1) := by decide +kernel
theorem dL_law_1037 : decode cL_law 1037 = .ok (.aload_n 0, 1) := by decide +kernel
theorem dL_law_1038 : decode cL_law 1038 = .ok (.iload_n 3, 1) := by decide +kernel
theorem dL_law_1039 : decode cL_law 1039 = .ok (.iconst 1, 1) := by decide +kernel
theorem dL_law_1040 : decode cL_law 1040 = .ok (.iadd, 1) := by decide +kernel
theorem dL_law_1041 : decode cL_law 1041 = .ok (.iaload, 1) := by decide +kernel
theorem dL_law_1042 : decode cL_law 1042 = .ok (.aload_n 0, 1) := by decide +kernel
theorem dL_law_1043 : decode cL_law 1043 = .ok (.iload_n 3, 1) := by decide +kernel
theorem dL_law_1044 : decode cL_law 1044 = .ok (.iconst 2, 1) := by decide +kernel
theorem dL_law_1045 : decode cL_law 1045 = .ok (.iadd, 1) := by decide +kernel
theorem dL_law_1046 : decode cL_law 1046 = .ok (.iaload, 1) := by decide +kernel
theorem dL_law_1047 : decode cL_law 1047 = .ok (.invokevirtual 116, 3) := by decide +kernel
theorem dL_law_1050 : decode cL_law 1050 = .ok (.aload_n 2, 1) := by decide +kernel
theorem dL_law_1051 : decode cL_law 1051 = .ok (.aload_n 0, 1) := by decide +kernel
theorem dL_law_1052 : decode cL_law 1052 = .ok (.iload_n 3, 1) := by decide +kernel
theorem dL_law_1053 : decode cL_law 1053 = .ok (.iconst 1, 1) := by decide +kernel
theorem dL_law_1054 : decode cL_law 1054 = .ok (.iadd, 1) := by decide +kernel
theorem dL_law_1055 : decode cL_law 1055 = .ok (.iaload, 1) := by decide +kernel
theorem dL_law_1056 : decode cL_law 1056 = .ok (.aload_n 0, 1) := by decide +kernel
theorem dL_law_1057 : decode cL_law 1057 = .ok (.iload_n 3, 1) := by decide +kernel
theorem dL_law_1058 : decode cL_law 1058 = .ok (.iconst 2, 1) := by decide +kernel
theorem dL_law_1059 : decode cL_law 1059 = .ok (.iadd, 1) := by decide +kernel
theorem dL_law_1060 : decode cL_law 1060 = .ok (.iaload, 1) := by decide +kernel
theorem dL_law_1061 : decode cL_law 1061 = .ok (.invokevirtual 119, 3) := by decide +kernel
theorem dL_law_1064 : decode cL_law 1064 = .ok (.if_icmp .eq 279, 3) := by decide +kernel
theorem dL_law_1069 : decode cL_law 1069 = .ok (.aload_n 1, 1) := by decide +kernel
theorem dL_law_1070 : decode cL_law 1070 = .ok (.aload_n 0, 1) := by decide +kernel
theorem dL_law_1071 : decode cL_law 1071 = .ok (.iload_n 3, 1) := by decide +kernel
theorem dL_law_1072 : decode cL_law 1072 = .ok (.iconst 1, 1) := by decide +kernel
theorem dL_law_1073 : decode cL_law 1073 = .ok (.iadd, 1) := by decide +kernel
theorem dL_law_1074 : decode cL_law 1074 = .ok (.iaload, 1) := by decide +kernel
theorem dL_law_1075 : decode cL_law 1075 = .ok (.aload_n 0, 1) := by decide +kernel
theorem dL_law_1076 : decode cL_law 1076 = .ok (.iload_n 3, 1) := by decide +kernel
theorem dL_law_1077 : decode cL_law 1077 = .ok (.iconst 2, 1) := by decide +kernel
theorem dL_law_1078 : decode cL_law 1078 = .ok (.iadd, 1) := by decide +kernel
theorem dL_law_1079 : decode cL_law 1079 = .ok (.iaload, 1) := by decide +kernel
theorem dL_law_1080 : decode cL_law 1080 = .ok (.aload_n 0, 1) := by decide +kernel
theorem dL_law_1081 : decode cL_law 1081 = .ok (.iload_n 3, 1) := by decide +kernel
theorem dL_law_1082 : decode cL_law 1082 = .ok (.iconst 3, 1) := by decide +kernel
theorem dL_law_1083 : decode cL_law 1083 = .ok (.iadd, 1) := by decide +kernel
theorem dL_law_1084 : decode cL_law 1084 = .ok (.iaload, 1) := by decide +kernel
theorem dL_law_1085 : decode cL_law 1085 = .ok (.invokevirtual 120, 3) := by decide +kernel
theorem dL_law_1088 : decode cL_law 1088 = .ok (.aload_n 2, 1) := by decide +kernel
theorem dL_law_1089 : decode cL_law 1089 = .ok (.aload_n 0, 1) := by decide +kernel
theorem dL_law_1090 : decode cL_law 1090 = .ok (.iload_n 3, 1) := by decide +kernel
theorem dL_law_1091 : decode cL_law 1091 = .ok (.iconst 1, 1) := by decide +kernel
theorem dL_law_1092 : decode cL_law 1092 = .ok (.iadd, 1) := by decide +kernel
theorem dL_law_1093 : decode cL_law 1093 = .ok (.iaload, 1) := by decide +kernel
theorem dL_law_1094 : decode cL_law 1094 = .ok (.aload_n 0, 1) := by decide +kernel
theorem dL_law_1095 : decode cL_law 1095 = .ok (.iload_n 3, 1) := by decide +kernel
theorem dL_law_1096 : decode cL_law 1096 = .ok (.iconst 2, 1) := by decide +kernel
theorem dL_law_1097 : decode cL_law 1097 = .ok (.iadd, 1) := by decide +kernel
theorem dL_law_1098 : decode cL_law 1098 = .ok (.iaload, 1) := by decide +kernel
theorem dL_law_1099 : decode cL_law 1099 = .ok (.aload_n 0, 1) := by decide +kernel
theorem dL_law_1100 : decode cL_law 1100 = .ok (.iload_n 3, 1) := by decide +kernel
theorem dL_law_1101 : decode cL_law 1101 = .ok (.iconst 3, 1) := by decide +kernel
theorem dL_law_1102 : decode cL_law 1102 = .ok (.iadd, 1) := by decide +kernel
theorem dL_law_1103 : decode cL_law 1103 = .ok (.iaload, 1) := by decide +kernel
theorem dL_law_1104 : decode cL_law 1104 = .ok (.invokevirtual 123, 3) := by decide +kernel
theorem dL_law_1107 : decode cL_law 1107 = .ok (.if_icmp .eq 236, 3) := by decide +kernel
theorem dL_law_1112 : decode cL_law 1112 = .ok (.aload_n 1, 1) := by decide +kernel
theorem dL_law_1113 : decode cL_law 1113 = .ok (.aload_n 0, 1) := by decide +kernel
theorem dL_law_1114 : decode cL_law 1114 = .ok (.iload_n 3, 1) := by decide +kernel
theorem dL_law_1115 : decode cL_law 1115 = .ok (.iconst 1, 1) := by decide +kernel
theorem dL_law_1116 : decode cL_law 1116 = .ok (.iadd, 1) := by decide +kernel
theorem dL_law_1117 : decode cL_law 1117 = .ok (.iaload, 1) := by decide +kernel
theorem dL_law_1118 : decode cL_law 1118 = .ok (.invokevirtual 124, 3) := by decide +kernel
theorem dL_law_1121 : decode cL_law 1121 = .ok (.aload_n 2, 1) := by decide +kernel
theorem dL_law_1122 : decode cL_law 1122 = .ok (.aload_n 0, 1) := by decide +kernel
theorem dL_law_1123 : decode cL_law 1123 = .ok (.iload_n 3, 1) := by decide +kernel
theorem dL_law_1124 : decode cL_law 1124 = .ok (.iconst 1, 1) := by decide +kernel
theorem dL_law_1125 : decode cL_law 1125 = .ok (.iadd, 1) := by decide +kernel
theorem dL_law_1126 : decode cL_law 1126 = .ok (.iaload, 1) := by decide +kernel
theorem dL_law_1127 : decode cL_law 1127 = .ok (.invokevirtual 127, 3) := by decide +kernel
theorem dL_law_1130 : decode cL_law 1130 = .ok (.if_icmp .eq 213, 3) := by decide +kernel
theorem dL_law_1135 : decode cL_law 1135 = .ok (.aload_n 1, 1) := by decide +kernel
theorem dL_law_1136 : decode cL_law 1136 = .ok (.aload_n 0, 1) := by decide +kernel
theorem dL_law_1137 : decode cL_law 1137 = .ok (.iload_n 3, 1) := by decide +kernel
theorem dL_law_1138 : decode cL_law 1138 = .ok (.iconst 1, 1) := by decide +kernel
theorem dL_law_1139 : decode cL_law 1139 = .ok (.iadd, 1) := by decide +kernel
theorem dL_law_1140 : decode cL_law 1140 = .ok (.iaload, 1) := by decide +kernel
theorem dL_law_1141 : decode cL_law 1141 = .ok (.aload_n 0, 1) := by decide +kernel
theorem dL_law_1142 : decode cL_law 1142 = .ok (.iload_n 3, 1) := by decide +kernel
theorem dL_law_1143 : decode cL_law 1143 = .ok (.iconst 2, 1) := by decide +kernel
theorem dL_law_1144 : decode cL_law 1144 = .ok (.iadd, 1) := by decide +kernel
theorem dL_law_1145 : decode cL_law 1145 = .ok (.iaload, 1) := by decide +kernel
theorem dL_law_1146 : decode cL_law 1146 = .ok (.aload_n 0, 1) := by decide +kernel
theorem dL_law_1147 : decode cL_law 1147 = .ok (.iload_n 3, 1) := by decide +kernel
theorem dL_law_1148 : decode cL_law 1148 = .ok (.iconst 3, 1) := by decide +kernel
theorem dL_law_1149 : decode cL_law 1149 = .ok (.iadd, 1) := by decide +kernel
theorem dL_law_1150 : decode cL_law 1150 = .ok (.iaload, 1) := by decide +kernel
theorem dL_law_1151 : decode cL_law 1151 = .ok (.invokevirtual 128, 3) := by decide +kernel
theorem dL_law_1154 : decode cL_law 1154 = .ok (.aload_n 2, 1) := by decide +kernel
theorem dL_law_1155 : decode cL_law 1155 = .ok (.aload_n 0, 1) := by decide +kernel
theorem dL_law_1156 : decode cL_law 1156 = .ok (.iload_n 3, 1) := by decide +kernel
theorem dL_law_1157 : decode cL_law 1157 = .ok (.iconst 1, 1) := by decide +kernel
theorem dL_law_1158 : decode cL_law 1158 = .ok (.iadd, 1) := by decide +kernel
theorem dL_law_1159 : decode cL_law 1159 = .ok (.iaload, 1) := by decide +kernel
theorem dL_law_1160 : decode cL_law 1160 = .ok (.aload_n 0, 1) := by decide +kernel
theorem dL_law_1161 : decode cL_law 1161 = .ok (.iload_n 3, 1) := by decide +kernel
theorem dL_law_1162 : decode cL_law 1162 = .ok (.iconst 2, 1) := by decide +kernel
theorem dL_law_1163 : decode cL_law 1163 = .ok (.iadd, 1) := by decide +kernel
theorem dL_law_1164 : decode cL_law 1164 = .ok (.iaload, 1) := by decide +kernel
theorem dL_law_1165 : decode cL_law 1165 = .ok (.aload_n 0, 1) := by decide +kernel
theorem dL_law_1166 : decode cL_law 1166 = .ok (.iload_n 3, 1) := by decide +kernel
theorem dL_law_1167 : decode cL_law 1167 = .ok (.iconst 3, 1) := by decide +kernel
theorem dL_law_1168 : decode cL_law 1168 = .ok (.iadd, 1) := by decide +kernel
theorem dL_law_1169 : decode cL_law 1169 = .ok (.iaload, 1) := by decide +kernel
theorem dL_law_1170 : decode cL_law 1170 = .ok (.invokevirtual 131, 3) := by decide +kernel
theorem dL_law_1173 : decode cL_law 1173 = .ok (.if_icmp .eq 170, 3) := by decide +kernel
theorem dL_law_1178 : decode cL_law 1178 = .ok (.aload_n 1, 1) := by decide +kernel
theorem dL_law_1179 : decode cL_law 1179 = .ok (.invokevirtual 132, 3) := by decide +kernel
theorem dL_law_1182 : decode cL_law 1182 = .ok (.aload_n 2, 1) := by decide +kernel
theorem dL_law_1183 : decode cL_law 1183 = .ok (.invokevirtual 135, 3) := by decide +kernel
theorem dL_law_1186 : decode cL_law 1186 = .ok (.if_icmp .eq 157, 3) := by decide +kernel
theorem dL_law_1191 : decode cL_law 1191 = .ok (.aload_n 1, 1) := by decide +kernel
theorem dL_law_1192 : decode cL_law 1192 = .ok (.aload_n 0, 1) := by decide +kernel
theorem dL_law_1193 : decode cL_law 1193 = .ok (.iload_n 3, 1) := by decide +kernel
theorem dL_law_1194 : decode cL_law 1194 = .ok (.iconst 1, 1) := by decide +kernel
theorem dL_law_1195 : decode cL_law 1195 = .ok (.iadd, 1) := by decide +kernel
theorem dL_law_1196 : decode cL_law 1196 = .ok (.iaload, 1) := by decide +kernel
theorem dL_law_1197 : decode cL_law 1197 = .ok (.invokevirtual 136, 3) := by decide +kernel
theorem dL_law_1200 : decode cL_law 1200 = .ok (.aload_n 2, 1) := by decide +kernel
theorem dL_law_1201 : decode cL_law 1201 = .ok (.aload_n 0, 1) := by decide +kernel
theorem dL_law_1202 : decode cL_law 1202 = .ok (.iload_n 3, 1) := by decide +kernel
theorem dL_law_1203 : decode cL_law 1203 = .ok (.iconst 1, 1) := by decide +kernel
theorem dL_law_1204 : decode cL_law 1204 = .ok (.iadd, 1) := by decide +kernel
theorem dL_law_1205 : decode cL_law 1205 = .ok (.iaload, 1) := by decide +kernel
theorem dL_law_1206 : decode cL_law 1206 = .ok (.invokevirtual 140, 3) := by decide +kernel
theorem dL_law_1209 : decode cL_law 1209 = .ok (.lcmp, 1) := by decide +kernel
theorem dL_law_1210 : decode cL_law 1210 = .ok (.ifCond .eq 133, 3) := by decide +kernel
theorem dL_law_1215 : decode cL_law 1215 = .ok (.aload_n 1, 1) := by decide +kernel
theorem dL_law_1216 : decode cL_law 1216 = .ok (.aload_n 0, 1) := by decide +kernel
theorem dL_law_1217 : decode cL_law 1217 = .ok (.iload_n 3, 1) := by decide +kernel
theorem dL_law_1218 : decode cL_law 1218 = .ok (.iconst 1, 1) := by decide +kernel
theorem dL_law_1219 : decode cL_law 1219 = .ok (.iadd, 1) := by decide +kernel
theorem dL_law_1220 : decode cL_law 1220 = .ok (.iaload, 1) := by decide +kernel
theorem dL_law_1221 : decode cL_law 1221 = .ok (.aload_n 0, 1) := by decide +kernel
theorem dL_law_1222 : decode cL_law 1222 = .ok (.iload_n 3, 1) := by decide +kernel
theorem dL_law_1223 : decode cL_law 1223 = .ok (.iconst 2, 1) := by decide +kernel
theorem dL_law_1224 : decode cL_law 1224 = .ok (.iadd, 1) := by decide +kernel
theorem dL_law_1225 : decode cL_law 1225 = .ok (.iaload, 1) := by decide +kernel
theorem dL_law_1226 : decode cL_law 1226 = .ok (.aload_n 0, 1) := by decide +kernel
theorem dL_law_1227 : decode cL_law 1227 = .ok (.iload_n 3, 1) := by decide +kernel
theorem dL_law_1228 : decode cL_law 1228 = .ok (.iconst 3, 1) := by decide +kernel
theorem dL_law_1229 : decode cL_law 1229 = .ok (.iadd, 1) := by decide +kernel
theorem dL_law_1230 : decode cL_law 1230 = .ok (.iaload, 1) := by decide +kernel
theorem dL_law_1231 : decode cL_law 1231 = .ok (.ifCond .eq 7, 3) := by decide +kernel
theorem dL_law_1234 : decode cL_law 1234 = .ok (.iconst 1, 1) := by decide +kernel
theorem dL_law_1235 : decode cL_law 1235 = .ok (.goto 4, 3) := by decide +kernel
theorem dL_law_1238 : decode cL_law 1238 = .ok (.iconst 0, 1) := by decide +kernel
theorem dL_law_1239 : decode cL_law 1239 = .ok (.invokevirtual 141, 3) := by decide +kernel
theorem dL_law_1242 : decode cL_law 1242 = .ok (.aload_n 2, 1) := by decide +kernel
theorem dL_law_1243 : decode cL_law 1243 = .ok (.aload_n 0, 1) := by decide +kernel
theorem dL_law_1244 : decode cL_law 1244 = .ok (.iload_n 3, 1) := by decide +kernel
theorem dL_law_1245 : decode cL_law 1245 = .ok (.iconst 1, 1) := by decide +kernel
theorem dL_law_1246 : decode cL_law 1246 = .ok (.iadd, 1) := by decide +kernel
theorem dL_law_1247 : decode cL_law 1247 = .ok (.iaload, 1) := by decide +kernel
theorem dL_law_1248 : decode cL_law 1248 = .ok (.aload_n 0, 1) := by decide +kernel
theorem dL_law_1249 : decode cL_law 1249 = .ok (.iload_n 3, 1) := by decide +kernel
theorem dL_law_1250 : decode cL_law 1250 = .ok (.iconst 2, 1) := by decide +kernel
theorem dL_law_1251 : decode cL_law 1251 = .ok (.iadd, 1) := by decide +kernel
theorem dL_law_1252 : decode cL_law 1252 = .ok (.iaload, 1) := by decide +kernel
theorem dL_law_1253 : decode cL_law 1253 = .ok (.aload_n 0, 1) := by decide +kernel
theorem dL_law_1254 : decode cL_law 1254 = .ok (.iload_n 3, 1) := by decide +kernel
theorem dL_law_1255 : decode cL_law 1255 = .ok (.iconst 3, 1) := by decide +kernel
theorem dL_law_1256 : decode cL_law 1256 = .ok (.iadd, 1) := by decide +kernel
theorem dL_law_1257 : decode cL_law 1257 = .ok (.iaload, 1) := by decide +kernel
theorem dL_law_1258 : decode cL_law 1258 = .ok (.ifCond .eq 7, 3) := by decide +kernel
theorem dL_law_1261 : decode cL_law 1261 = .ok (.iconst 1, 1) := by decide +kernel
theorem dL_law_1262 : decode cL_law 1262 = .ok (.goto 4, 3) := by decide +kernel
theorem dL_law_1265 : decode cL_law 1265 = .ok (.iconst 0, 1) := by decide +kernel
theorem dL_law_1266 : decode cL_law 1266 = .ok (.invokevirtual 145, 3) := by decide +kernel
theorem dL_law_1269 : decode cL_law 1269 = .ok (.if_icmp .eq 74, 3) := by decide +kernel
theorem dL_law_1274 : decode cL_law 1274 = .ok (.aload_n 1, 1) := by decide +kernel
theorem dL_law_1275 : decode cL_law 1275 = .ok (.aload_n 0, 1) := by decide +kernel
theorem dL_law_1276 : decode cL_law 1276 = .ok (.iload_n 3, 1) := by decide +kernel
theorem dL_law_1277 : decode cL_law 1277 = .ok (.iconst 1, 1) := by decide +kernel
theorem dL_law_1278 : decode cL_law 1278 = .ok (.iadd, 1) := by decide +kernel
theorem dL_law_1279 : decode cL_law 1279 = .ok (.iaload, 1) := by decide +kernel
theorem dL_law_1280 : decode cL_law 1280 = .ok (.invokevirtual 146, 3) := by decide +kernel
theorem dL_law_1283 : decode cL_law 1283 = .ok (.aload_n 2, 1) := by decide +kernel
theorem dL_law_1284 : decode cL_law 1284 = .ok (.aload_n 0, 1) := by decide +kernel
theorem dL_law_1285 : decode cL_law 1285 = .ok (.iload_n 3, 1) := by decide +kernel
theorem dL_law_1286 : decode cL_law 1286 = .ok (.iconst 1, 1) := by decide +kernel
theorem dL_law_1287 : decode cL_law 1287 = .ok (.iadd, 1) := by decide +kernel
theorem dL_law_1288 : decode cL_law 1288 = .ok (.iaload, 1) := by decide +kernel
theorem dL_law_1289 : decode cL_law 1289 = .ok (.invokevirtual 150, 3) := by decide +kernel
theorem dL_law_1292 : decode cL_law 1292 = .ok (.if_icmp .eq 51, 3) := by decide +kernel
theorem dL_law_1297 : decode cL_law 1297 = .ok (.aload_n 1, 1) := by decide +kernel
theorem dL_law_1298 : decode cL_law 1298 = .ok (.aload_n 0, 1) := by decide +kernel
theorem dL_law_1299 : decode cL_law 1299 = .ok (.iload_n 3, 1) := by decide +kernel
theorem dL_law_1300 : decode cL_law 1300 = .ok (.iconst 1, 1) := by decide +kernel
theorem dL_law_1301 : decode cL_law 1301 = .ok (.iadd, 1) := by decide +kernel
theorem dL_law_1302 : decode cL_law 1302 = .ok (.iaload, 1) := by decide +kernel
theorem dL_law_1303 : decode cL_law 1303 = .ok (.invokevirtual 151, 3) := by decide +kernel
theorem dL_law_1306 : decode cL_law 1306 = .ok (.aload_n 2, 1) := by decide +kernel
theorem dL_law_1307 : decode cL_law 1307 = .ok (.aload_n 0, 1) := by decide +kernel
theorem dL_law_1308 : decode cL_law 1308 = .ok (.iload_n 3, 1) := by decide +kernel
theorem dL_law_1309 : decode cL_law 1309 = .ok (.iconst 1, 1) := by decide +kernel
theorem dL_law_1310 : decode cL_law 1310 = .ok (.iadd, 1) := by decide +kernel
theorem dL_law_1311 : decode cL_law 1311 = .ok (.iaload, 1) := by decide +kernel
theorem dL_law_1312 : decode cL_law 1312 = .ok (.invokevirtual 154, 3) := by decide +kernel
theorem dL_law_1315 : decode cL_law 1315 = .ok (.if_icmp .eq 28, 3) := by decide +kernel
theorem dL_law_1320 : decode cL_law 1320 = .ok (.aload_n 1, 1) := by decide +kernel
theorem dL_law_1321 : decode cL_law 1321 = .ok (.aload_n 0, 1) := by decide +kernel
theorem dL_law_1322 : decode cL_law 1322 = .ok (.iload_n 3, 1) := by decide +kernel
theorem dL_law_1323 : decode cL_law 1323 = .ok (.iconst 1, 1) := by decide +kernel
theorem dL_law_1324 : decode cL_law 1324 = .ok (.iadd, 1) := by decide +kernel
theorem dL_law_1325 : decode cL_law 1325 = .ok (.iaload, 1) := by decide +kernel
theorem dL_law_1326 : decode cL_law 1326 = .ok (.invokevirtual 155, 3) := by decide +kernel
theorem dL_law_1329 : decode cL_law 1329 = .ok (.aload_n 2, 1) := by decide +kernel
theorem dL_law_1330 : decode cL_law 1330 = .ok (.aload_n 0, 1) := by decide +kernel
theorem dL_law_1331 : decode cL_law 1331 = .ok (.iload_n 3, 1) := by decide +kernel
theorem dL_law_1332 : decode cL_law 1332 = .ok (.iconst 1, 1) := by decide +kernel
theorem dL_law_1333 : decode cL_law 1333 = .ok (.iadd, 1) := by decide +kernel
theorem dL_law_1334 : decode cL_law 1334 = .ok (.iaload, 1) := by decide +kernel
theorem dL_law_1335 : decode cL_law 1335 = .ok (.invokevirtual 158, 3) := by decide +kernel
theorem dL_law_1338 : decode cL_law 1338 = .ok (.if_icmp .eq 5, 3) := by decide +kernel
theorem dL_law_1343 : decode cL_law 1343 = .ok (.iinc 3 6, 3) := by decide +kernel
theorem dL_law_1346 : decode cL_law 1346 = .ok (.goto (-1328), 3) := by decide +kernel
theorem dL_law_1349 : decode cL_law 1349 = .ok (.iconst 1, 1) := by decide +kernel
theorem dL_law_1350 : decode cL_law 1350 = .ok (.ireturn, 1) := by decide +kernel

def wsX0_live_r1 : List Cond := [Cond.fieldLink RX0 12 "HallTables$Chance" "stand" "LHallTables$Stand;", Cond.fieldLink RX0 34 "HallTables$Chance" "steps" "I", Cond.fieldLink RX0 38 "HallTables$Chance" "loss" "I", Cond.fieldLink RX0 41 "HallTables$Town" "men" "I", Cond.fieldLink RX0 46 "HallTables$Stand" "at" "[I", Cond.methodLink RX0 30 yX4_copyOf, Cond.instanceMethod yX4_copyOf, Cond.selects RX4 yX4_copyOf yX4_copyOf, Cond.initialized RX4, Cond.code yX4_copyOf cX4_copyOf 2 none, Cond.fieldLink RX4 33 "HallTables$Stand" "men" "I", Cond.fieldLink RX4 9 "HallTables$Stand" "at" "[I", Cond.methodLink RX4 37 arraycopyName, Cond.native arraycopyName, Cond.static arraycopyName, Cond.initialized "java/lang/System", Cond.fieldLink RX4 15 "HallTables$Stand" "hand" "[I", Cond.fieldLink RX4 24 "HallTables$Stand" "table" "[I", Cond.fieldLink RX4 18 "HallTables$Stand" "minutes" "[I", Cond.fieldLink RX4 21 "HallTables$Stand" "loss" "[I", Cond.methodLink RX0 49 yX0_doorsAt, Cond.static yX0_doorsAt, Cond.initialized RX0, Cond.code yX0_doorsAt cX0_doorsAt 4 (some .int)]
def wsX0_live_r2 : List Cond := [Cond.fieldLink RX0 65 "HallTables$Town" "houses" "I", Cond.methodLink RX0 68 yX7_minutesTo, Cond.instanceMethod yX7_minutesTo, Cond.selects RX7 yX7_minutesTo yX7_minutesTo, Cond.initialized RX7, Cond.code yX7_minutesTo cX7_minutesTo 3 (some .int), Cond.fieldLink RX7 28 "HallTables$Town" "minutes" "[I", Cond.methodLink RX0 53 yX0_lot, Cond.static yX0_lot, Cond.code yX0_lot cX0_lot 4 (some .int), Cond.methodLink RX0 25 yX0_mixed, Cond.static yX0_mixed, Cond.code yX0_mixed cX0_mixed 3 (some .int), Cond.constant RX0 29 (1103515245), Cond.methodLink RX0 57 yX0_behindDoor, Cond.static yX0_behindDoor, Cond.code yX0_behindDoor cX0_behindDoor 5 (some .int), Cond.methodLink RX0 61 yX0_goByLaw, Cond.instanceMethod yX0_goByLaw, Cond.selects RX0 yX0_goByLaw yX0_goByLaw, Cond.code yX0_goByLaw cX0_goByLaw 6 (some .boolean), Cond.fieldLink RX0 71 "HallTables$Town" "home" "[I", Cond.fieldLink RX0 74 "HallTables$Stand" "hand" "[I", Cond.methodLink RX0 77 yX7_leftByLaw]
def wsX0_live_r3 : List Cond := [Cond.instanceMethod yX7_leftByLaw, Cond.selects RX7 yX7_leftByLaw yX7_leftByLaw, Cond.code yX7_leftByLaw cX7_leftByLaw 8 (some .int), Cond.fieldLink RX7 49 "HallTables$Town" "sorts" "I", Cond.fieldLink RX7 65 "HallTables$Town" "law" "I", Cond.methodLink RX7 87 yX7_worthAt, Cond.instanceMethod yX7_worthAt, Cond.selects RX7 yX7_worthAt yX7_worthAt, Cond.code yX7_worthAt cX7_worthAt 3 (some .int), Cond.fieldLink RX7 25 "HallTables$Town" "worth" "[I", Cond.methodLink RX7 84 yX7_inHand, Cond.static yX7_inHand, Cond.code yX7_inHand cX7_inHand 2 (some .int), Cond.methodLink RX0 80 yX4_enter, Cond.instanceMethod yX4_enter, Cond.selects RX4 yX4_enter yX4_enter, Cond.code yX4_enter cX4_enter 5 none, Cond.methodLink RX4 51 yX7_minutesTo, Cond.methodLink RX4 55 yX7_oneOf, Cond.static yX7_oneOf, Cond.code yX7_oneOf cX7_oneOf 1 (some .int), Cond.methodLink RX4 59 yX7_worthAt, Cond.methodLink RX4 62 yX7_cell, Cond.static yX7_cell]
def wsX0_live_r4 : List Cond := [Cond.code yX7_cell cX7_cell 2 (some .int), Cond.methodLink RX0 84 yX7_worthAt]
def wsX0_live : List Cond := .code yX0_live cX0_live 9 none :: ((wsX0_live_r1 ++ (wsX0_live_r2 ++ (wsX0_live_r3 ++ wsX0_live_r4))) ++ wsX00 ++ wsX70 ++ wsX40)
def wsX0_payAll_r1 : List Cond := [Cond.fieldLink RX0 12 "HallTables$Chance" "stand" "LHallTables$Stand;", Cond.fieldLink RX0 34 "HallTables$Chance" "steps" "I", Cond.fieldLink RX0 38 "HallTables$Chance" "loss" "I", Cond.fieldLink RX0 91 "HallTables$Chance" "dropped" "I", Cond.fieldLink RX0 94 "HallTables$Chance" "owed" "I", Cond.fieldLink RX0 97 "HallTables$Town" "calls" "I", Cond.fieldLink RX0 100 "HallTables$Town" "callMan" "[I", Cond.fieldLink RX0 103 "HallTables$Town" "callHouse" "[I", Cond.fieldLink RX0 18 "HallTables$Chance" "owedMan" "[I", Cond.fieldLink RX0 22 "HallTables$Chance" "owedHouse" "[I", Cond.methodLink RX0 87 yX4_begin, Cond.instanceMethod yX4_begin, Cond.selects RX4 yX4_begin yX4_begin, Cond.initialized RX4, Cond.code yX4_begin cX4_begin 2 none, Cond.fieldLink RX4 27 "HallTables$Town" "men" "I", Cond.fieldLink RX4 33 "HallTables$Stand" "men" "I", Cond.fieldLink RX4 34 "HallTables$Town" "home" "[I", Cond.fieldLink RX4 9 "HallTables$Stand" "at" "[I", Cond.methodLink RX4 37 arraycopyName, Cond.native arraycopyName, Cond.static arraycopyName, Cond.initialized "java/lang/System", Cond.fieldLink RX4 43 "HallTables$Town" "hand" "[I"]
def wsX0_payAll_r2 : List Cond := [Cond.fieldLink RX4 15 "HallTables$Stand" "hand" "[I", Cond.fieldLink RX4 44 "HallTables$Town" "table" "[I", Cond.fieldLink RX4 24 "HallTables$Stand" "table" "[I", Cond.fieldLink RX4 18 "HallTables$Stand" "minutes" "[I", Cond.fieldLink RX4 21 "HallTables$Stand" "loss" "[I", Cond.methodLink RX4 45 yJ7_fill_53178, Cond.static yJ7_fill_53178, Cond.initialized RJ7, Cond.code yJ7_fill_53178 cJ7_fill_53178 4 none, Cond.methodLink RX0 106 yX0_owe, Cond.instanceMethod yX0_owe, Cond.selects RX0 yX0_owe yX0_owe, Cond.initialized RX0, Cond.code yX0_owe cX0_owe 3 none, Cond.methodLink RX0 110 yX0_pay, Cond.instanceMethod yX0_pay, Cond.selects RX0 yX0_pay yX0_pay, Cond.code yX0_pay cX0_pay 5 none, Cond.fieldLink RX0 41 "HallTables$Town" "men" "I", Cond.fieldLink RX0 71 "HallTables$Town" "home" "[I", Cond.methodLink RX0 61 yX0_goByLaw, Cond.instanceMethod yX0_goByLaw, Cond.selects RX0 yX0_goByLaw yX0_goByLaw, Cond.code yX0_goByLaw cX0_goByLaw 6 (some .boolean)]
def wsX0_payAll_r3 : List Cond := [Cond.fieldLink RX0 74 "HallTables$Stand" "hand" "[I", Cond.methodLink RX0 77 yX7_leftByLaw, Cond.instanceMethod yX7_leftByLaw, Cond.selects RX7 yX7_leftByLaw yX7_leftByLaw, Cond.initialized RX7, Cond.code yX7_leftByLaw cX7_leftByLaw 8 (some .int), Cond.fieldLink RX7 49 "HallTables$Town" "sorts" "I", Cond.fieldLink RX7 65 "HallTables$Town" "law" "I", Cond.methodLink RX7 87 yX7_worthAt, Cond.instanceMethod yX7_worthAt, Cond.selects RX7 yX7_worthAt yX7_worthAt, Cond.code yX7_worthAt cX7_worthAt 3 (some .int), Cond.fieldLink RX7 25 "HallTables$Town" "worth" "[I", Cond.methodLink RX7 84 yX7_inHand, Cond.static yX7_inHand, Cond.code yX7_inHand cX7_inHand 2 (some .int), Cond.methodLink RX0 80 yX4_enter, Cond.instanceMethod yX4_enter, Cond.selects RX4 yX4_enter yX4_enter, Cond.code yX4_enter cX4_enter 5 none, Cond.methodLink RX4 51 yX7_minutesTo, Cond.instanceMethod yX7_minutesTo, Cond.selects RX7 yX7_minutesTo yX7_minutesTo, Cond.code yX7_minutesTo cX7_minutesTo 3 (some .int)]
def wsX0_payAll_r4 : List Cond := [Cond.fieldLink RX7 28 "HallTables$Town" "minutes" "[I", Cond.methodLink RX4 55 yX7_oneOf, Cond.static yX7_oneOf, Cond.code yX7_oneOf cX7_oneOf 1 (some .int), Cond.methodLink RX4 59 yX7_worthAt, Cond.methodLink RX4 62 yX7_cell, Cond.static yX7_cell, Cond.code yX7_cell cX7_cell 2 (some .int), Cond.methodLink RX0 84 yX7_worthAt]
def wsX0_payAll : List Cond := .code yX0_payAll cX0_payAll 3 none :: ((wsX0_payAll_r1 ++ (wsX0_payAll_r2 ++ (wsX0_payAll_r3 ++ wsX0_payAll_r4))) ++ wsX00 ++ wsX70 ++ wsX40)
def wsX11_year_r1 : List Cond := [Cond.fieldLink RX11 63 "HallTables" "chance" "LHallTables$Chance;", Cond.fieldLink RX11 77 "HallTables" "town" "LHallTables$Town;", Cond.fieldLink RX11 24 "HallTables" "now" "LHallTables$Stand;", Cond.fieldLink RX11 276 "HallTables$Chance" "steps" "I", Cond.fieldLink RX11 279 "HallTables$Chance" "loss" "I", Cond.fieldLink RX11 281 "HallTables$Chance" "stand" "LHallTables$Stand;", Cond.methodLink RX11 272 yX0_live, Cond.instanceMethod yX0_live, Cond.selects RX0 yX0_live yX0_live, Cond.initialized RX0, Cond.code yX0_live cX0_live 9 none, Cond.fieldLink RX0 12 "HallTables$Chance" "stand" "LHallTables$Stand;", Cond.fieldLink RX0 34 "HallTables$Chance" "steps" "I", Cond.fieldLink RX0 38 "HallTables$Chance" "loss" "I", Cond.fieldLink RX0 41 "HallTables$Town" "men" "I", Cond.fieldLink RX0 46 "HallTables$Stand" "at" "[I", Cond.methodLink RX0 30 yX4_copyOf, Cond.instanceMethod yX4_copyOf, Cond.selects RX4 yX4_copyOf yX4_copyOf, Cond.initialized RX4, Cond.code yX4_copyOf cX4_copyOf 2 none, Cond.fieldLink RX4 33 "HallTables$Stand" "men" "I", Cond.fieldLink RX4 9 "HallTables$Stand" "at" "[I", Cond.methodLink RX4 37 arraycopyName]
def wsX11_year_r2 : List Cond := [Cond.native arraycopyName, Cond.static arraycopyName, Cond.initialized "java/lang/System", Cond.fieldLink RX4 15 "HallTables$Stand" "hand" "[I", Cond.fieldLink RX4 24 "HallTables$Stand" "table" "[I", Cond.fieldLink RX4 18 "HallTables$Stand" "minutes" "[I", Cond.fieldLink RX4 21 "HallTables$Stand" "loss" "[I", Cond.methodLink RX0 49 yX0_doorsAt, Cond.static yX0_doorsAt, Cond.code yX0_doorsAt cX0_doorsAt 4 (some .int), Cond.fieldLink RX0 65 "HallTables$Town" "houses" "I", Cond.methodLink RX0 68 yX7_minutesTo, Cond.instanceMethod yX7_minutesTo, Cond.selects RX7 yX7_minutesTo yX7_minutesTo, Cond.initialized RX7, Cond.code yX7_minutesTo cX7_minutesTo 3 (some .int), Cond.fieldLink RX7 28 "HallTables$Town" "minutes" "[I", Cond.methodLink RX0 53 yX0_lot, Cond.static yX0_lot, Cond.code yX0_lot cX0_lot 4 (some .int), Cond.methodLink RX0 25 yX0_mixed, Cond.static yX0_mixed, Cond.code yX0_mixed cX0_mixed 3 (some .int), Cond.constant RX0 29 (1103515245)]
def wsX11_year_r3 : List Cond := [Cond.methodLink RX0 57 yX0_behindDoor, Cond.static yX0_behindDoor, Cond.code yX0_behindDoor cX0_behindDoor 5 (some .int), Cond.methodLink RX0 61 yX0_goByLaw, Cond.instanceMethod yX0_goByLaw, Cond.selects RX0 yX0_goByLaw yX0_goByLaw, Cond.code yX0_goByLaw cX0_goByLaw 6 (some .boolean), Cond.fieldLink RX0 71 "HallTables$Town" "home" "[I", Cond.fieldLink RX0 74 "HallTables$Stand" "hand" "[I", Cond.methodLink RX0 77 yX7_leftByLaw, Cond.instanceMethod yX7_leftByLaw, Cond.selects RX7 yX7_leftByLaw yX7_leftByLaw, Cond.code yX7_leftByLaw cX7_leftByLaw 8 (some .int), Cond.fieldLink RX7 49 "HallTables$Town" "sorts" "I", Cond.fieldLink RX7 65 "HallTables$Town" "law" "I", Cond.methodLink RX7 87 yX7_worthAt, Cond.instanceMethod yX7_worthAt, Cond.selects RX7 yX7_worthAt yX7_worthAt, Cond.code yX7_worthAt cX7_worthAt 3 (some .int), Cond.fieldLink RX7 25 "HallTables$Town" "worth" "[I", Cond.methodLink RX7 84 yX7_inHand, Cond.static yX7_inHand, Cond.code yX7_inHand cX7_inHand 2 (some .int), Cond.methodLink RX0 80 yX4_enter]
def wsX11_year_r4 : List Cond := [Cond.instanceMethod yX4_enter, Cond.selects RX4 yX4_enter yX4_enter, Cond.code yX4_enter cX4_enter 5 none, Cond.methodLink RX4 51 yX7_minutesTo, Cond.methodLink RX4 55 yX7_oneOf, Cond.static yX7_oneOf, Cond.code yX7_oneOf cX7_oneOf 1 (some .int), Cond.methodLink RX4 59 yX7_worthAt, Cond.methodLink RX4 62 yX7_cell, Cond.static yX7_cell, Cond.code yX7_cell cX7_cell 2 (some .int), Cond.methodLink RX0 84 yX7_worthAt, Cond.methodLink RX11 284 yX4_thingsCarried, Cond.instanceMethod yX4_thingsCarried, Cond.selects RX4 yX4_thingsCarried yX4_thingsCarried, Cond.code yX4_thingsCarried cX4_thingsCarried 3 (some .int), Cond.methodLink RX4 77 yX7_things, Cond.static yX7_things, Cond.code yX7_things cX7_things 1 (some .int), Cond.methodLink RX7 78 yJ6_bitCount_0f7a4, Cond.static yJ6_bitCount_0f7a4, Cond.initialized RJ6, Cond.code yJ6_bitCount_0f7a4 cJ6_bitCount_0f7a4 1 (some .int), Cond.constant RJ6 265 (1431655765)]
def wsX11_year_r5 : List Cond := [Cond.constant RJ6 266 (858993459), Cond.constant RJ6 267 (252645135), Cond.methodLink RX11 287 yX4_menAtHome, Cond.instanceMethod yX4_menAtHome, Cond.selects RX4 yX4_menAtHome yX4_menAtHome, Cond.code yX4_menAtHome cX4_menAtHome 4 (some .int), Cond.fieldLink RX4 34 "HallTables$Town" "home" "[I"]
def wsX11_year : List Cond := .code yX11_year cX11_year 4 (some .int) :: ((wsX11_year_r1 ++ (wsX11_year_r2 ++ (wsX11_year_r3 ++ (wsX11_year_r4 ++ wsX11_year_r5)))) ++ wsX110 ++ wsX00 ++ wsX70 ++ wsX40)
def wsX11_rest_r1 : List Cond := [Cond.fieldLink RX11 63 "HallTables" "chance" "LHallTables$Chance;", Cond.fieldLink RX11 77 "HallTables" "town" "LHallTables$Town;", Cond.fieldLink RX11 276 "HallTables$Chance" "steps" "I", Cond.fieldLink RX11 294 "HallTables$Chance" "dropped" "I", Cond.fieldLink RX11 281 "HallTables$Chance" "stand" "LHallTables$Stand;", Cond.methodLink RX11 291 yX0_payAll, Cond.instanceMethod yX0_payAll, Cond.selects RX0 yX0_payAll yX0_payAll, Cond.initialized RX0, Cond.code yX0_payAll cX0_payAll 3 none, Cond.fieldLink RX0 12 "HallTables$Chance" "stand" "LHallTables$Stand;", Cond.fieldLink RX0 34 "HallTables$Chance" "steps" "I", Cond.fieldLink RX0 38 "HallTables$Chance" "loss" "I", Cond.fieldLink RX0 91 "HallTables$Chance" "dropped" "I", Cond.fieldLink RX0 94 "HallTables$Chance" "owed" "I", Cond.fieldLink RX0 97 "HallTables$Town" "calls" "I", Cond.fieldLink RX0 100 "HallTables$Town" "callMan" "[I", Cond.fieldLink RX0 103 "HallTables$Town" "callHouse" "[I", Cond.fieldLink RX0 18 "HallTables$Chance" "owedMan" "[I", Cond.fieldLink RX0 22 "HallTables$Chance" "owedHouse" "[I", Cond.methodLink RX0 87 yX4_begin, Cond.instanceMethod yX4_begin, Cond.selects RX4 yX4_begin yX4_begin, Cond.initialized RX4]
def wsX11_rest_r2 : List Cond := [Cond.code yX4_begin cX4_begin 2 none, Cond.fieldLink RX4 27 "HallTables$Town" "men" "I", Cond.fieldLink RX4 33 "HallTables$Stand" "men" "I", Cond.fieldLink RX4 34 "HallTables$Town" "home" "[I", Cond.fieldLink RX4 9 "HallTables$Stand" "at" "[I", Cond.methodLink RX4 37 arraycopyName, Cond.native arraycopyName, Cond.static arraycopyName, Cond.initialized "java/lang/System", Cond.fieldLink RX4 43 "HallTables$Town" "hand" "[I", Cond.fieldLink RX4 15 "HallTables$Stand" "hand" "[I", Cond.fieldLink RX4 44 "HallTables$Town" "table" "[I", Cond.fieldLink RX4 24 "HallTables$Stand" "table" "[I", Cond.fieldLink RX4 18 "HallTables$Stand" "minutes" "[I", Cond.fieldLink RX4 21 "HallTables$Stand" "loss" "[I", Cond.methodLink RX4 45 yJ7_fill_53178, Cond.static yJ7_fill_53178, Cond.initialized RJ7, Cond.code yJ7_fill_53178 cJ7_fill_53178 4 none, Cond.methodLink RX0 106 yX0_owe, Cond.instanceMethod yX0_owe, Cond.selects RX0 yX0_owe yX0_owe, Cond.code yX0_owe cX0_owe 3 none, Cond.methodLink RX0 110 yX0_pay]
def wsX11_rest_r3 : List Cond := [Cond.instanceMethod yX0_pay, Cond.selects RX0 yX0_pay yX0_pay, Cond.code yX0_pay cX0_pay 5 none, Cond.fieldLink RX0 41 "HallTables$Town" "men" "I", Cond.fieldLink RX0 71 "HallTables$Town" "home" "[I", Cond.methodLink RX0 61 yX0_goByLaw, Cond.instanceMethod yX0_goByLaw, Cond.selects RX0 yX0_goByLaw yX0_goByLaw, Cond.code yX0_goByLaw cX0_goByLaw 6 (some .boolean), Cond.fieldLink RX0 74 "HallTables$Stand" "hand" "[I", Cond.methodLink RX0 77 yX7_leftByLaw, Cond.instanceMethod yX7_leftByLaw, Cond.selects RX7 yX7_leftByLaw yX7_leftByLaw, Cond.initialized RX7, Cond.code yX7_leftByLaw cX7_leftByLaw 8 (some .int), Cond.fieldLink RX7 49 "HallTables$Town" "sorts" "I", Cond.fieldLink RX7 65 "HallTables$Town" "law" "I", Cond.methodLink RX7 87 yX7_worthAt, Cond.instanceMethod yX7_worthAt, Cond.selects RX7 yX7_worthAt yX7_worthAt, Cond.code yX7_worthAt cX7_worthAt 3 (some .int), Cond.fieldLink RX7 25 "HallTables$Town" "worth" "[I", Cond.methodLink RX7 84 yX7_inHand, Cond.static yX7_inHand]
def wsX11_rest_r4 : List Cond := [Cond.code yX7_inHand cX7_inHand 2 (some .int), Cond.methodLink RX0 80 yX4_enter, Cond.instanceMethod yX4_enter, Cond.selects RX4 yX4_enter yX4_enter, Cond.code yX4_enter cX4_enter 5 none, Cond.methodLink RX4 51 yX7_minutesTo, Cond.instanceMethod yX7_minutesTo, Cond.selects RX7 yX7_minutesTo yX7_minutesTo, Cond.code yX7_minutesTo cX7_minutesTo 3 (some .int), Cond.fieldLink RX7 28 "HallTables$Town" "minutes" "[I", Cond.methodLink RX4 55 yX7_oneOf, Cond.static yX7_oneOf, Cond.code yX7_oneOf cX7_oneOf 1 (some .int), Cond.methodLink RX4 59 yX7_worthAt, Cond.methodLink RX4 62 yX7_cell, Cond.static yX7_cell, Cond.code yX7_cell cX7_cell 2 (some .int), Cond.methodLink RX0 84 yX7_worthAt, Cond.methodLink RX11 284 yX4_thingsCarried, Cond.instanceMethod yX4_thingsCarried, Cond.selects RX4 yX4_thingsCarried yX4_thingsCarried, Cond.code yX4_thingsCarried cX4_thingsCarried 3 (some .int), Cond.methodLink RX4 77 yX7_things, Cond.static yX7_things]
def wsX11_rest_r5 : List Cond := [Cond.code yX7_things cX7_things 1 (some .int), Cond.methodLink RX7 78 yJ6_bitCount_0f7a4, Cond.static yJ6_bitCount_0f7a4, Cond.initialized RJ6, Cond.code yJ6_bitCount_0f7a4 cJ6_bitCount_0f7a4 1 (some .int), Cond.constant RJ6 265 (1431655765), Cond.constant RJ6 266 (858993459), Cond.constant RJ6 267 (252645135)]
def wsX11_rest : List Cond := .code yX11_rest cX11_rest 2 (some .int) :: ((wsX11_rest_r1 ++ (wsX11_rest_r2 ++ (wsX11_rest_r3 ++ (wsX11_rest_r4 ++ wsX11_rest_r5)))) ++ wsX110 ++ wsX00 ++ wsX70 ++ wsX40)
def wsX12_put : List Cond := .code yX12_put cX12_put 3 none :: ([.fieldLink RX12 13 "HallTablesModel" "tape" "[B", .fieldLink RX12 202 "HallTablesModel" "taped" "I"] ++ wsX120)
def wsX12_feed : List Cond := .code yX12_feed cX12_feed 6 (some .int) :: ([.fieldLink RX12 202 "HallTablesModel" "taped" "I", .methodLink RX12 205 yX12_put, .instanceMethod yX12_put, .selects RX12 yX12_put yX12_put, .initialized RX12, .code yX12_put cX12_put 3 none, .fieldLink RX12 13 "HallTablesModel" "tape" "[B"] ++ wsX120)
def wsX12_back : List Cond := .code yX12_back cX12_back 2 (some .int) :: ([.fieldLink RX12 202 "HallTablesModel" "taped" "I"] ++ wsX120)
def wsX12_byteAt : List Cond := .code yX12_byteAt cX12_byteAt 2 (some .int) :: ([.fieldLink RX12 209 "HallTablesModel" "size" "I", .fieldLink RX12 17 "HallTablesModel" "text" "[B"] ++ wsX120)
def wsX12_token : List Cond := .code yX12_token cX12_token 6 none :: ([.fieldLink RX12 20 "HallTablesModel" "tKind" "[I", .fieldLink RX12 214 "HallTablesModel" "tokens" "I", .fieldLink RX12 24 "HallTablesModel" "tPlace" "[I", .fieldLink RX12 27 "HallTablesModel" "tValue" "[I", .fieldLink RX12 30 "HallTablesModel" "tName" "[J"] ++ wsX120)
def wsX12_cut_r1 : List Cond := [Cond.fieldLink RX12 214 "HallTablesModel" "tokens" "I", Cond.fieldLink RX12 209 "HallTablesModel" "size" "I", Cond.fieldLink RX12 34 "HallTablesModel" "keys" "[J", Cond.methodLink RX12 217 yX12_byteAt, Cond.instanceMethod yX12_byteAt, Cond.selects RX12 yX12_byteAt yX12_byteAt, Cond.initialized RX12, Cond.code yX12_byteAt cX12_byteAt 2 (some .int), Cond.fieldLink RX12 17 "HallTablesModel" "text" "[B", Cond.methodLink RX12 221 yX12_token, Cond.instanceMethod yX12_token, Cond.selects RX12 yX12_token yX12_token, Cond.code yX12_token cX12_token 6 none, Cond.fieldLink RX12 20 "HallTablesModel" "tKind" "[I", Cond.fieldLink RX12 24 "HallTablesModel" "tPlace" "[I", Cond.fieldLink RX12 27 "HallTablesModel" "tValue" "[I", Cond.fieldLink RX12 30 "HallTablesModel" "tName" "[J", Cond.methodLink RX12 225 yX12_isLetter, Cond.static yX12_isLetter, Cond.code yX12_isLetter cX12_isLetter 1 (some .boolean), Cond.methodLink RX12 198 yX12_appends, Cond.static yX12_appends, Cond.code yX12_appends cX12_appends 3 (some .long), Cond.constantLong RX12 212 (27)]
def wsX12_cut_r2 : List Cond := [Cond.methodLink RX12 229 yX12_isDigit, Cond.static yX12_isDigit, Cond.code yX12_isDigit cX12_isDigit 1 (some .boolean), Cond.methodLink RX12 232 yX12_sign, Cond.instanceMethod yX12_sign, Cond.selects RX12 yX12_sign yX12_sign, Cond.code yX12_sign cX12_sign 4 (some .int)]
def wsX12_cut : List Cond := .code yX12_cut cX12_cut 8 none :: ((wsX12_cut_r1 ++ wsX12_cut_r2) ++ wsX120)
def wsX12_is : List Cond := .code yX12_is cX12_is 2 (some .boolean) :: ([.fieldLink RX12 236 "HallTablesModel" "fault" "I", .fieldLink RX12 20 "HallTablesModel" "tKind" "[I", .fieldLink RX12 239 "HallTablesModel" "t" "I"] ++ wsX120)
def wsX12_begins : List Cond := .code yX12_begins cX12_begins 2 none :: ([.fieldLink RX12 95 "HallTablesModel" "now" "[I", .fieldLink RX12 61 "HallTablesModel" "hallHas" "[I", .fieldLink RX12 266 "HallTablesModel" "live" "I", .fieldLink RX12 74 "HallTablesModel" "men" "[I", .methodLink RX12 327 yX12_homeOf, .instanceMethod yX12_homeOf, .selects RX12 yX12_homeOf yX12_homeOf, .initialized RX12, .code yX12_homeOf cX12_homeOf 2 (some .int), .fieldLink RX12 77 "HallTablesModel" "home" "[I", .methodLink RX12 330 yX12_handAtFirst, .instanceMethod yX12_handAtFirst, .selects RX12 yX12_handAtFirst yX12_handAtFirst, .code yX12_handAtFirst cX12_handAtFirst 4 (some .int), .fieldLink RX12 80 "HallTablesModel" "carries" "[I"] ++ wsX120)
def wsX12_read_r1 : List Cond := [Cond.fieldLink RX12 202 "HallTablesModel" "taped" "I", Cond.fieldLink RX12 209 "HallTablesModel" "size" "I", Cond.fieldLink RX12 17 "HallTablesModel" "text" "[B", Cond.fieldLink RX12 13 "HallTablesModel" "tape" "[B", Cond.fieldLink RX12 239 "HallTablesModel" "t" "I", Cond.fieldLink RX12 263 "HallTablesModel" "open" "I", Cond.fieldLink RX12 236 "HallTablesModel" "fault" "I", Cond.fieldLink RX12 245 "HallTablesModel" "worst" "I", Cond.fieldLink RX12 266 "HallTablesModel" "live" "I", Cond.fieldLink RX12 269 "HallTablesModel" "side" "I", Cond.fieldLink RX12 272 "HallTablesModel" "names" "I", Cond.fieldLink RX12 49 "HallTablesModel" "sorts" "[I", Cond.fieldLink RX12 55 "HallTablesModel" "houses" "[I", Cond.fieldLink RX12 68 "HallTablesModel" "doors" "[I", Cond.fieldLink RX12 74 "HallTablesModel" "men" "[I", Cond.fieldLink RX12 83 "HallTablesModel" "laws" "[I", Cond.fieldLink RX12 86 "HallTablesModel" "calls" "[I", Cond.fieldLink RX12 58 "HallTablesModel" "worthAt" "[I", Cond.fieldLink RX12 61 "HallTablesModel" "hallHas" "[I", Cond.fieldLink RX12 64 "HallTablesModel" "sells" "[Z", Cond.fieldLink RX12 71 "HallTablesModel" "minutes" "[I", Cond.fieldLink RX12 242 "HallTablesModel" "faultPlace" "I", Cond.fieldLink RX12 248 "HallTablesModel" "worstPlace" "I", Cond.fieldLink RX12 37 "HallTablesModel" "place" "I"]
def wsX12_read_r2 : List Cond := [Cond.fieldLink RX12 281 "HallTablesModel" "undos" "I", Cond.fieldLink RX12 284 "HallTablesModel" "seen" "I", Cond.fieldLink RX12 188 "HallTablesModel" "isHeld" "[Z", Cond.methodLink RX12 260 yX12_cut, Cond.instanceMethod yX12_cut, Cond.selects RX12 yX12_cut yX12_cut, Cond.initialized RX12, Cond.code yX12_cut cX12_cut 8 none, Cond.fieldLink RX12 214 "HallTablesModel" "tokens" "I", Cond.fieldLink RX12 34 "HallTablesModel" "keys" "[J", Cond.methodLink RX12 217 yX12_byteAt, Cond.instanceMethod yX12_byteAt, Cond.selects RX12 yX12_byteAt yX12_byteAt, Cond.code yX12_byteAt cX12_byteAt 2 (some .int), Cond.methodLink RX12 221 yX12_token, Cond.instanceMethod yX12_token, Cond.selects RX12 yX12_token yX12_token, Cond.code yX12_token cX12_token 6 none, Cond.fieldLink RX12 20 "HallTablesModel" "tKind" "[I", Cond.fieldLink RX12 24 "HallTablesModel" "tPlace" "[I", Cond.fieldLink RX12 27 "HallTablesModel" "tValue" "[I", Cond.fieldLink RX12 30 "HallTablesModel" "tName" "[J", Cond.methodLink RX12 225 yX12_isLetter, Cond.static yX12_isLetter]
def wsX12_read_r3 : List Cond := [Cond.code yX12_isLetter cX12_isLetter 1 (some .boolean), Cond.methodLink RX12 198 yX12_appends, Cond.static yX12_appends, Cond.code yX12_appends cX12_appends 3 (some .long), Cond.constantLong RX12 212 (27), Cond.methodLink RX12 229 yX12_isDigit, Cond.static yX12_isDigit, Cond.code yX12_isDigit cX12_isDigit 1 (some .boolean), Cond.methodLink RX12 232 yX12_sign, Cond.instanceMethod yX12_sign, Cond.selects RX12 yX12_sign yX12_sign, Cond.code yX12_sign cX12_sign 4 (some .int), Cond.methodLink RX12 254 yX12_is, Cond.instanceMethod yX12_is, Cond.selects RX12 yX12_is yX12_is, Cond.code yX12_is cX12_is 2 (some .boolean), Cond.methodLink RX12 275 yX12_tell, Cond.instanceMethod yX12_tell, Cond.selects RX12 yX12_tell yX12_tell, Cond.code yX12_tell cX12_tell 4 none, Cond.methodLink RX12 287 yX12_roomFor, Cond.instanceMethod yX12_roomFor, Cond.selects RX12 yX12_roomFor yX12_roomFor, Cond.code yX12_roomFor cX12_roomFor 3 none]
def wsX12_read_r4 : List Cond := [Cond.methodLink RX12 251 yX12_fail, Cond.instanceMethod yX12_fail, Cond.selects RX12 yX12_fail yX12_fail, Cond.code yX12_fail cX12_fail 2 none, Cond.methodLink RX12 257 yX12_goesOn, Cond.instanceMethod yX12_goesOn, Cond.selects RX12 yX12_goesOn yX12_goesOn, Cond.code yX12_goesOn cX12_goesOn 1 none, Cond.methodLink RX12 291 yX12_tellSort, Cond.instanceMethod yX12_tellSort, Cond.selects RX12 yX12_tellSort yX12_tellSort, Cond.code yX12_tellSort cX12_tellSort 2 none, Cond.fieldLink RX12 52 "HallTablesModel" "plainWorth" "[I", Cond.methodLink RX12 319 yX12_named, Cond.instanceMethod yX12_named, Cond.selects RX12 yX12_named yX12_named, Cond.code yX12_named cX12_named 3 (some .int), Cond.fieldLink RX12 40 "HallTablesModel" "nameOf" "[J", Cond.methodLink RX12 307 yX12_must, Cond.instanceMethod yX12_must, Cond.selects RX12 yX12_must yX12_must, Cond.code yX12_must cX12_must 2 none, Cond.methodLink RX12 316 yX12_wrong, Cond.instanceMethod yX12_wrong]
def wsX12_read_r5 : List Cond := [Cond.selects RX12 yX12_wrong yX12_wrong, Cond.code yX12_wrong cX12_wrong 4 none, Cond.methodLink RX12 303 yX12_bounded, Cond.instanceMethod yX12_bounded, Cond.selects RX12 yX12_bounded yX12_bounded, Cond.code yX12_bounded cX12_bounded 4 (some .int), Cond.methodLink RX12 323 yX12_notes, Cond.instanceMethod yX12_notes, Cond.selects RX12 yX12_notes yX12_notes, Cond.code yX12_notes cX12_notes 4 none, Cond.fieldLink RX12 43 "HallTablesModel" "nameSort" "[I", Cond.fieldLink RX12 46 "HallTablesModel" "nameAt" "[I", Cond.methodLink RX12 294 yX12_tellHouse, Cond.instanceMethod yX12_tellHouse, Cond.selects RX12 yX12_tellHouse yX12_tellHouse, Cond.code yX12_tellHouse cX12_tellHouse 2 none, Cond.methodLink RX12 297 yX12_tellDoor, Cond.instanceMethod yX12_tellDoor, Cond.selects RX12 yX12_tellDoor yX12_tellDoor, Cond.code yX12_tellDoor cX12_tellDoor 5 none, Cond.methodLink RX12 300 yX12_known, Cond.instanceMethod yX12_known, Cond.selects RX12 yX12_known yX12_known, Cond.code yX12_known cX12_known 4 (some .int)]
def wsX12_read_r6 : List Cond := [Cond.methodLink RX12 310 yX12_tellMan, Cond.instanceMethod yX12_tellMan, Cond.selects RX12 yX12_tellMan yX12_tellMan, Cond.code yX12_tellMan cX12_tellMan 6 none, Cond.fieldLink RX12 77 "HallTablesModel" "home" "[I", Cond.fieldLink RX12 80 "HallTablesModel" "carries" "[I", Cond.methodLink RX12 313 yX12_tellCall, Cond.instanceMethod yX12_tellCall, Cond.selects RX12 yX12_tellCall yX12_tellCall, Cond.code yX12_tellCall cX12_tellCall 5 none, Cond.fieldLink RX12 89 "HallTablesModel" "callMan" "[I", Cond.fieldLink RX12 92 "HallTablesModel" "callHouse" "[I", Cond.methodLink RX12 278 yX12_begins, Cond.instanceMethod yX12_begins, Cond.selects RX12 yX12_begins yX12_begins, Cond.code yX12_begins cX12_begins 2 none, Cond.fieldLink RX12 95 "HallTablesModel" "now" "[I", Cond.methodLink RX12 327 yX12_homeOf, Cond.instanceMethod yX12_homeOf, Cond.selects RX12 yX12_homeOf yX12_homeOf, Cond.code yX12_homeOf cX12_homeOf 2 (some .int), Cond.methodLink RX12 330 yX12_handAtFirst, Cond.instanceMethod yX12_handAtFirst, Cond.selects RX12 yX12_handAtFirst yX12_handAtFirst]
def wsX12_read_r7 : List Cond := [Cond.code yX12_handAtFirst cX12_handAtFirst 4 (some .int)]
def wsX12_read : List Cond := .code yX12_read cX12_read 2 (some .int) :: ((wsX12_read_r1 ++ (wsX12_read_r2 ++ (wsX12_read_r3 ++ (wsX12_read_r4 ++ (wsX12_read_r5 ++ (wsX12_read_r6 ++ wsX12_read_r7)))))) ++ wsX120)
def wsX12_place : List Cond := .code yX12_place cX12_place 1 (some .int) :: ([.fieldLink RX12 37 "HallTablesModel" "place" "I"] ++ wsX120)
def wsX12_undo : List Cond := .code yX12_undo cX12_undo 2 (some .boolean) :: ([.fieldLink RX12 281 "HallTablesModel" "undos" "I", .fieldLink RX12 95 "HallTablesModel" "now" "[I", .fieldLink RX12 98 "HallTablesModel" "history" "[I"] ++ wsX120)
def wsX12_year_r1 : List Cond := [Cond.fieldLink RX12 74 "HallTablesModel" "men" "[I", Cond.fieldLink RX12 266 "HallTablesModel" "live" "I", Cond.fieldLink RX12 143 "HallTablesModel" "place0" "[I", Cond.fieldLink RX12 146 "HallTablesModel" "holding" "[I", Cond.methodLink RX12 333 yX12_in, Cond.static yX12_in, Cond.initialized RX12, Cond.code yX12_in cX12_in 3 (some .boolean), Cond.methodLink RX12 359 yX12_where, Cond.instanceMethod yX12_where, Cond.selects RX12 yX12_where yX12_where, Cond.code yX12_where cX12_where 2 (some .int), Cond.fieldLink RX12 95 "HallTablesModel" "now" "[I", Cond.methodLink RX12 362 yX12_hand, Cond.instanceMethod yX12_hand, Cond.selects RX12 yX12_hand yX12_hand, Cond.code yX12_hand cX12_hand 2 (some .int), Cond.methodLink RX12 510 yX12_doorsAt, Cond.instanceMethod yX12_doorsAt, Cond.selects RX12 yX12_doorsAt yX12_doorsAt, Cond.code yX12_doorsAt cX12_doorsAt 4 (some .int), Cond.fieldLink RX12 55 "HallTablesModel" "houses" "[I", Cond.methodLink RX12 350 yX12_doorOf, Cond.instanceMethod yX12_doorOf]
def wsX12_year_r2 : List Cond := [Cond.selects RX12 yX12_doorOf yX12_doorOf, Cond.code yX12_doorOf cX12_doorOf 3 (some .int), Cond.fieldLink RX12 71 "HallTablesModel" "minutes" "[I", Cond.methodLink RX12 513 yX12_lot, Cond.static yX12_lot, Cond.code yX12_lot cX12_lot 3 (some .int), Cond.methodLink RX12 507 yX12_mixed, Cond.static yX12_mixed, Cond.code yX12_mixed cX12_mixed 3 (some .int), Cond.constant RX12 506 (1103515245), Cond.methodLink RX12 516 yX12_behind, Cond.instanceMethod yX12_behind, Cond.selects RX12 yX12_behind yX12_behind, Cond.code yX12_behind cX12_behind 5 (some .int), Cond.methodLink RX12 327 yX12_homeOf, Cond.instanceMethod yX12_homeOf, Cond.selects RX12 yX12_homeOf yX12_homeOf, Cond.code yX12_homeOf cX12_homeOf 2 (some .int), Cond.fieldLink RX12 77 "HallTablesModel" "home" "[I", Cond.methodLink RX12 519 yX12_leaves, Cond.instanceMethod yX12_leaves, Cond.selects RX12 yX12_leaves yX12_leaves, Cond.code yX12_leaves cX12_leaves 3 (some .int), Cond.fieldLink RX12 83 "HallTablesModel" "laws" "[I"]
def wsX12_year_r3 : List Cond := [Cond.methodLink RX12 343 yX12_leastOf, Cond.instanceMethod yX12_leastOf, Cond.selects RX12 yX12_leastOf yX12_leastOf, Cond.code yX12_leastOf cX12_leastOf 6 (some .int), Cond.fieldLink RX12 49 "HallTablesModel" "sorts" "[I", Cond.methodLink RX12 337 yX12_of, Cond.static yX12_of, Cond.code yX12_of cX12_of 2 (some .int), Cond.methodLink RX12 340 yX12_worthOf, Cond.instanceMethod yX12_worthOf, Cond.selects RX12 yX12_worthOf yX12_worthOf, Cond.code yX12_worthOf cX12_worthOf 4 (some .int), Cond.fieldLink RX12 58 "HallTablesModel" "worthAt" "[I", Cond.fieldLink RX12 52 "HallTablesModel" "plainWorth" "[I", Cond.methodLink RX12 365 yX12_things, Cond.static yX12_things, Cond.code yX12_things cX12_things 3 (some .int)]
def wsX12_year : List Cond := .code yX12_year cX12_year 10 (some .int) :: ((wsX12_year_r1 ++ (wsX12_year_r2 ++ wsX12_year_r3)) ++ wsX120)
def wsX12_rest_r1 : List Cond := [Cond.fieldLink RX12 86 "HallTablesModel" "calls" "[I", Cond.fieldLink RX12 266 "HallTablesModel" "live" "I", Cond.fieldLink RX12 74 "HallTablesModel" "men" "[I", Cond.fieldLink RX12 146 "HallTablesModel" "holding" "[I", Cond.fieldLink RX12 149 "HallTablesModel" "owedMan" "[I", Cond.fieldLink RX12 89 "HallTablesModel" "callMan" "[I", Cond.fieldLink RX12 152 "HallTablesModel" "owedHouse" "[I", Cond.fieldLink RX12 92 "HallTablesModel" "callHouse" "[I", Cond.methodLink RX12 333 yX12_in, Cond.static yX12_in, Cond.initialized RX12, Cond.code yX12_in cX12_in 3 (some .boolean), Cond.methodLink RX12 330 yX12_handAtFirst, Cond.instanceMethod yX12_handAtFirst, Cond.selects RX12 yX12_handAtFirst yX12_handAtFirst, Cond.code yX12_handAtFirst cX12_handAtFirst 4 (some .int), Cond.fieldLink RX12 80 "HallTablesModel" "carries" "[I", Cond.methodLink RX12 519 yX12_leaves, Cond.instanceMethod yX12_leaves, Cond.selects RX12 yX12_leaves yX12_leaves, Cond.code yX12_leaves cX12_leaves 3 (some .int), Cond.fieldLink RX12 83 "HallTablesModel" "laws" "[I", Cond.methodLink RX12 343 yX12_leastOf, Cond.instanceMethod yX12_leastOf]
def wsX12_rest_r2 : List Cond := [Cond.selects RX12 yX12_leastOf yX12_leastOf, Cond.code yX12_leastOf cX12_leastOf 6 (some .int), Cond.fieldLink RX12 49 "HallTablesModel" "sorts" "[I", Cond.methodLink RX12 337 yX12_of, Cond.static yX12_of, Cond.code yX12_of cX12_of 2 (some .int), Cond.methodLink RX12 340 yX12_worthOf, Cond.instanceMethod yX12_worthOf, Cond.selects RX12 yX12_worthOf yX12_worthOf, Cond.code yX12_worthOf cX12_worthOf 4 (some .int), Cond.fieldLink RX12 58 "HallTablesModel" "worthAt" "[I", Cond.fieldLink RX12 52 "HallTablesModel" "plainWorth" "[I", Cond.methodLink RX12 327 yX12_homeOf, Cond.instanceMethod yX12_homeOf, Cond.selects RX12 yX12_homeOf yX12_homeOf, Cond.code yX12_homeOf cX12_homeOf 2 (some .int), Cond.fieldLink RX12 77 "HallTablesModel" "home" "[I", Cond.methodLink RX12 365 yX12_things, Cond.static yX12_things, Cond.code yX12_things cX12_things 3 (some .int)]
def wsX12_rest : List Cond := .code yX12_rest cX12_rest 10 (some .int) :: ((wsX12_rest_r1 ++ wsX12_rest_r2) ++ wsX120)
def wsX12_see : List Cond := .code yX12_see cX12_see 4 (some .int) :: ([.fieldLink RX12 284 "HallTablesModel" "seen" "I", .fieldLink RX12 155 "HallTablesModel" "seenHouse" "[I", .fieldLink RX12 158 "HallTablesModel" "seenSort" "[I", .fieldLink RX12 161 "HallTablesModel" "seenMany" "[I", .methodLink RX12 347 yX12_isHouse, .instanceMethod yX12_isHouse, .selects RX12 yX12_isHouse yX12_isHouse, .initialized RX12, .code yX12_isHouse cX12_isHouse 2 (some .boolean), .fieldLink RX12 55 "HallTablesModel" "houses" "[I", .fieldLink RX12 266 "HallTablesModel" "live" "I", .methodLink RX12 333 yX12_in, .static yX12_in, .code yX12_in cX12_in 3 (some .boolean), .methodLink RX12 353 yX12_isSort, .instanceMethod yX12_isSort, .selects RX12 yX12_isSort yX12_isSort, .code yX12_isSort cX12_isSort 2 (some .boolean), .fieldLink RX12 49 "HallTablesModel" "sorts" "[I"] ++ wsX120)
def wsX12_forget : List Cond := .code yX12_forget cX12_forget 2 (some .int) :: ([.fieldLink RX12 284 "HallTablesModel" "seen" "I"] ++ wsX120)
def wsX12_knows_r1 : List Cond := [Cond.fieldLink RX12 164 "HallTablesModel" "need" "[I", Cond.fieldLink RX12 155 "HallTablesModel" "seenHouse" "[I", Cond.fieldLink RX12 158 "HallTablesModel" "seenSort" "[I", Cond.fieldLink RX12 161 "HallTablesModel" "seenMany" "[I", Cond.fieldLink RX12 522 "HallTablesModel" "kinds" "I", Cond.fieldLink RX12 525 "HallTablesModel" "needAll" "I", Cond.fieldLink RX12 167 "HallTablesModel" "kindAt" "[I", Cond.fieldLink RX12 74 "HallTablesModel" "men" "[I", Cond.fieldLink RX12 266 "HallTablesModel" "live" "I", Cond.fieldLink RX12 170 "HallTablesModel" "free" "[J", Cond.fieldLink RX12 173 "HallTablesModel" "freeThere" "[J", Cond.fieldLink RX12 176 "HallTablesModel" "canLeave" "[Z", Cond.fieldLink RX12 55 "HallTablesModel" "houses" "[I", Cond.methodLink RX12 330 yX12_handAtFirst, Cond.instanceMethod yX12_handAtFirst, Cond.selects RX12 yX12_handAtFirst yX12_handAtFirst, Cond.initialized RX12, Cond.code yX12_handAtFirst cX12_handAtFirst 4 (some .int), Cond.fieldLink RX12 80 "HallTablesModel" "carries" "[I", Cond.methodLink RX12 327 yX12_homeOf, Cond.instanceMethod yX12_homeOf, Cond.selects RX12 yX12_homeOf yX12_homeOf, Cond.code yX12_homeOf cX12_homeOf 2 (some .int), Cond.fieldLink RX12 77 "HallTablesModel" "home" "[I"]
def wsX12_knows_r2 : List Cond := [Cond.methodLink RX12 368 yX12_mayLeave, Cond.instanceMethod yX12_mayLeave, Cond.selects RX12 yX12_mayLeave yX12_mayLeave, Cond.code yX12_mayLeave cX12_mayLeave 4 (some .boolean), Cond.fieldLink RX12 83 "HallTablesModel" "laws" "[I", Cond.methodLink RX12 337 yX12_of, Cond.static yX12_of, Cond.code yX12_of cX12_of 2 (some .int), Cond.methodLink RX12 343 yX12_leastOf, Cond.instanceMethod yX12_leastOf, Cond.selects RX12 yX12_leastOf yX12_leastOf, Cond.code yX12_leastOf cX12_leastOf 6 (some .int), Cond.fieldLink RX12 49 "HallTablesModel" "sorts" "[I", Cond.methodLink RX12 340 yX12_worthOf, Cond.instanceMethod yX12_worthOf, Cond.selects RX12 yX12_worthOf yX12_worthOf, Cond.code yX12_worthOf cX12_worthOf 4 (some .int), Cond.fieldLink RX12 58 "HallTablesModel" "worthAt" "[I", Cond.fieldLink RX12 52 "HallTablesModel" "plainWorth" "[I"]
def wsX12_knows : List Cond := .code yX12_knows cX12_knows 8 none :: ((wsX12_knows_r1 ++ wsX12_knows_r2) ++ wsX120)
def wsX12_isAllMet : List Cond := .code yX12_isAllMet cX12_isAllMet 2 (some .boolean) :: ([.fieldLink RX12 185 "HallTablesModel" "met" "[I", .fieldLink RX12 74 "HallTablesModel" "men" "[I", .fieldLink RX12 266 "HallTablesModel" "live" "I", .fieldLink RX12 179 "HallTablesModel" "chosen" "[I", .fieldLink RX12 176 "HallTablesModel" "canLeave" "[Z", .fieldLink RX12 522 "HallTablesModel" "kinds" "I", .fieldLink RX12 164 "HallTablesModel" "need" "[I", .fieldLink RX12 167 "HallTablesModel" "kindAt" "[I"] ++ wsX120)
def wsX12_adds : List Cond := .code yX12_adds cX12_adds 5 none :: ([.fieldLink RX12 74 "HallTablesModel" "men" "[I", .fieldLink RX12 266 "HallTablesModel" "live" "I", .fieldLink RX12 179 "HallTablesModel" "chosen" "[I", .fieldLink RX12 170 "HallTablesModel" "free" "[J", .fieldLink RX12 531 "HallTablesModel" "fitAll" "J", .fieldLink RX12 182 "HallTablesModel" "fitThere" "[J", .fieldLink RX12 173 "HallTablesModel" "freeThere" "[J", .fieldLink RX12 167 "HallTablesModel" "kindAt" "[I"] ++ wsX120)
def wsX12_counts_r1 : List Cond := [Cond.fieldLink RX12 531 "HallTablesModel" "fitAll" "J", Cond.fieldLink RX12 182 "HallTablesModel" "fitThere" "[J", Cond.fieldLink RX12 179 "HallTablesModel" "chosen" "[I", Cond.fieldLink RX12 525 "HallTablesModel" "needAll" "I", Cond.fieldLink RX12 74 "HallTablesModel" "men" "[I", Cond.fieldLink RX12 266 "HallTablesModel" "live" "I", Cond.fieldLink RX12 522 "HallTablesModel" "kinds" "I", Cond.methodLink RX12 528 yX12_knows, Cond.instanceMethod yX12_knows, Cond.selects RX12 yX12_knows yX12_knows, Cond.initialized RX12, Cond.code yX12_knows cX12_knows 8 none, Cond.fieldLink RX12 164 "HallTablesModel" "need" "[I", Cond.fieldLink RX12 155 "HallTablesModel" "seenHouse" "[I", Cond.fieldLink RX12 158 "HallTablesModel" "seenSort" "[I", Cond.fieldLink RX12 161 "HallTablesModel" "seenMany" "[I", Cond.fieldLink RX12 167 "HallTablesModel" "kindAt" "[I", Cond.fieldLink RX12 170 "HallTablesModel" "free" "[J", Cond.fieldLink RX12 173 "HallTablesModel" "freeThere" "[J", Cond.fieldLink RX12 176 "HallTablesModel" "canLeave" "[Z", Cond.fieldLink RX12 55 "HallTablesModel" "houses" "[I", Cond.methodLink RX12 330 yX12_handAtFirst, Cond.instanceMethod yX12_handAtFirst, Cond.selects RX12 yX12_handAtFirst yX12_handAtFirst]
def wsX12_counts_r2 : List Cond := [Cond.code yX12_handAtFirst cX12_handAtFirst 4 (some .int), Cond.fieldLink RX12 80 "HallTablesModel" "carries" "[I", Cond.methodLink RX12 327 yX12_homeOf, Cond.instanceMethod yX12_homeOf, Cond.selects RX12 yX12_homeOf yX12_homeOf, Cond.code yX12_homeOf cX12_homeOf 2 (some .int), Cond.fieldLink RX12 77 "HallTablesModel" "home" "[I", Cond.methodLink RX12 368 yX12_mayLeave, Cond.instanceMethod yX12_mayLeave, Cond.selects RX12 yX12_mayLeave yX12_mayLeave, Cond.code yX12_mayLeave cX12_mayLeave 4 (some .boolean), Cond.fieldLink RX12 83 "HallTablesModel" "laws" "[I", Cond.methodLink RX12 337 yX12_of, Cond.static yX12_of, Cond.code yX12_of cX12_of 2 (some .int), Cond.methodLink RX12 343 yX12_leastOf, Cond.instanceMethod yX12_leastOf, Cond.selects RX12 yX12_leastOf yX12_leastOf, Cond.code yX12_leastOf cX12_leastOf 6 (some .int), Cond.fieldLink RX12 49 "HallTablesModel" "sorts" "[I", Cond.methodLink RX12 340 yX12_worthOf, Cond.instanceMethod yX12_worthOf, Cond.selects RX12 yX12_worthOf yX12_worthOf, Cond.code yX12_worthOf cX12_worthOf 4 (some .int)]
def wsX12_counts_r3 : List Cond := [Cond.fieldLink RX12 58 "HallTablesModel" "worthAt" "[I", Cond.fieldLink RX12 52 "HallTablesModel" "plainWorth" "[I", Cond.methodLink RX12 535 yX12_isAllMet, Cond.instanceMethod yX12_isAllMet, Cond.selects RX12 yX12_isAllMet yX12_isAllMet, Cond.code yX12_isAllMet cX12_isAllMet 2 (some .boolean), Cond.fieldLink RX12 185 "HallTablesModel" "met" "[I", Cond.methodLink RX12 538 yX12_adds, Cond.instanceMethod yX12_adds, Cond.selects RX12 yX12_adds yX12_adds, Cond.code yX12_adds cX12_adds 5 none]
def wsX12_counts : List Cond := .code yX12_counts cX12_counts 5 none :: ((wsX12_counts_r1 ++ (wsX12_counts_r2 ++ wsX12_counts_r3)) ++ wsX120)
def wsX12_fits_r1 : List Cond := [Cond.fieldLink RX12 284 "HallTablesModel" "seen" "I", Cond.constantLong RX12 541 (-1), Cond.fieldLink RX12 531 "HallTablesModel" "fitAll" "J", Cond.methodLink RX12 333 yX12_in, Cond.static yX12_in, Cond.initialized RX12, Cond.code yX12_in cX12_in 3 (some .boolean), Cond.methodLink RX12 543 yX12_counts, Cond.instanceMethod yX12_counts, Cond.selects RX12 yX12_counts yX12_counts, Cond.code yX12_counts cX12_counts 5 none, Cond.fieldLink RX12 182 "HallTablesModel" "fitThere" "[J", Cond.fieldLink RX12 179 "HallTablesModel" "chosen" "[I", Cond.fieldLink RX12 525 "HallTablesModel" "needAll" "I", Cond.fieldLink RX12 74 "HallTablesModel" "men" "[I", Cond.fieldLink RX12 266 "HallTablesModel" "live" "I", Cond.fieldLink RX12 522 "HallTablesModel" "kinds" "I", Cond.methodLink RX12 528 yX12_knows, Cond.instanceMethod yX12_knows, Cond.selects RX12 yX12_knows yX12_knows, Cond.code yX12_knows cX12_knows 8 none, Cond.fieldLink RX12 164 "HallTablesModel" "need" "[I", Cond.fieldLink RX12 155 "HallTablesModel" "seenHouse" "[I", Cond.fieldLink RX12 158 "HallTablesModel" "seenSort" "[I"]
def wsX12_fits_r2 : List Cond := [Cond.fieldLink RX12 161 "HallTablesModel" "seenMany" "[I", Cond.fieldLink RX12 167 "HallTablesModel" "kindAt" "[I", Cond.fieldLink RX12 170 "HallTablesModel" "free" "[J", Cond.fieldLink RX12 173 "HallTablesModel" "freeThere" "[J", Cond.fieldLink RX12 176 "HallTablesModel" "canLeave" "[Z", Cond.fieldLink RX12 55 "HallTablesModel" "houses" "[I", Cond.methodLink RX12 330 yX12_handAtFirst, Cond.instanceMethod yX12_handAtFirst, Cond.selects RX12 yX12_handAtFirst yX12_handAtFirst, Cond.code yX12_handAtFirst cX12_handAtFirst 4 (some .int), Cond.fieldLink RX12 80 "HallTablesModel" "carries" "[I", Cond.methodLink RX12 327 yX12_homeOf, Cond.instanceMethod yX12_homeOf, Cond.selects RX12 yX12_homeOf yX12_homeOf, Cond.code yX12_homeOf cX12_homeOf 2 (some .int), Cond.fieldLink RX12 77 "HallTablesModel" "home" "[I", Cond.methodLink RX12 368 yX12_mayLeave, Cond.instanceMethod yX12_mayLeave, Cond.selects RX12 yX12_mayLeave yX12_mayLeave, Cond.code yX12_mayLeave cX12_mayLeave 4 (some .boolean), Cond.fieldLink RX12 83 "HallTablesModel" "laws" "[I", Cond.methodLink RX12 337 yX12_of, Cond.static yX12_of, Cond.code yX12_of cX12_of 2 (some .int)]
def wsX12_fits_r3 : List Cond := [Cond.methodLink RX12 343 yX12_leastOf, Cond.instanceMethod yX12_leastOf, Cond.selects RX12 yX12_leastOf yX12_leastOf, Cond.code yX12_leastOf cX12_leastOf 6 (some .int), Cond.fieldLink RX12 49 "HallTablesModel" "sorts" "[I", Cond.methodLink RX12 340 yX12_worthOf, Cond.instanceMethod yX12_worthOf, Cond.selects RX12 yX12_worthOf yX12_worthOf, Cond.code yX12_worthOf cX12_worthOf 4 (some .int), Cond.fieldLink RX12 58 "HallTablesModel" "worthAt" "[I", Cond.fieldLink RX12 52 "HallTablesModel" "plainWorth" "[I", Cond.methodLink RX12 535 yX12_isAllMet, Cond.instanceMethod yX12_isAllMet, Cond.selects RX12 yX12_isAllMet yX12_isAllMet, Cond.code yX12_isAllMet cX12_isAllMet 2 (some .boolean), Cond.fieldLink RX12 185 "HallTablesModel" "met" "[I", Cond.methodLink RX12 538 yX12_adds, Cond.instanceMethod yX12_adds, Cond.selects RX12 yX12_adds yX12_adds, Cond.code yX12_adds cX12_adds 5 none]
def wsX12_fits : List Cond := .code yX12_fits cX12_fits 2 (some .long) :: ((wsX12_fits_r1 ++ (wsX12_fits_r2 ++ wsX12_fits_r3)) ++ wsX120)
def wsX12_hold : List Cond := .code yX12_hold cX12_hold 3 (some .boolean) :: ([.fieldLink RX12 188 "HallTablesModel" "isHeld" "[Z", .fieldLink RX12 191 "HallTablesModel" "held" "[I", .fieldLink RX12 95 "HallTablesModel" "now" "[I", .methodLink RX12 333 yX12_in, .static yX12_in, .initialized RX12, .code yX12_in cX12_in 3 (some .boolean)] ++ wsX120)
def wsX12_restore : List Cond := .code yX12_restore cX12_restore 3 (some .boolean) :: ([.fieldLink RX12 188 "HallTablesModel" "isHeld" "[Z", .fieldLink RX12 95 "HallTablesModel" "now" "[I", .fieldLink RX12 191 "HallTablesModel" "held" "[I", .fieldLink RX12 281 "HallTablesModel" "undos" "I", .methodLink RX12 333 yX12_in, .static yX12_in, .initialized RX12, .code yX12_in cX12_in 3 (some .boolean)] ++ wsX120)
def wsX12_count : List Cond := .code yX12_count cX12_count 4 (some .int) :: ([.fieldLink RX12 49 "HallTablesModel" "sorts" "[I", .fieldLink RX12 266 "HallTablesModel" "live" "I", .fieldLink RX12 55 "HallTablesModel" "houses" "[I", .fieldLink RX12 68 "HallTablesModel" "doors" "[I", .fieldLink RX12 74 "HallTablesModel" "men" "[I", .fieldLink RX12 86 "HallTablesModel" "calls" "[I", .fieldLink RX12 83 "HallTablesModel" "laws" "[I", .fieldLink RX12 202 "HallTablesModel" "taped" "I", .fieldLink RX12 281 "HallTablesModel" "undos" "I", .fieldLink RX12 284 "HallTablesModel" "seen" "I", .fieldLink RX12 188 "HallTablesModel" "isHeld" "[Z", .fieldLink RX12 95 "HallTablesModel" "now" "[I", .methodLink RX12 362 yX12_hand, .instanceMethod yX12_hand, .selects RX12 yX12_hand yX12_hand, .initialized RX12, .code yX12_hand cX12_hand 2 (some .int), .methodLink RX12 365 yX12_things, .static yX12_things, .code yX12_things cX12_things 3 (some .int)] ++ wsX120)
set_option maxRecDepth 20000 in
theorem ggX0_live_X4_copyOf : GoodIn wsX0_live wsX4_copyOf := goodIn_r _ [10, 11, 12, 13, 14, 15, 16, 17, 18, 19, 20, 100, 101, 102, 103, 104, 105, 106] (by decide +kernel) (by decide +kernel)
set_option maxRecDepth 20000 in
theorem gX0_live_X4_copyOf : GoodIn wsX0_live (wsV RX0 30 RX4 yX4_copyOf wsX4_copyOf) := goodIn_app (goodIn_of _ (by decide +kernel)) ggX0_live_X4_copyOf
theorem dX0_live_0 : decode cX0_live 0 = .ok (.aload_n 0, 1) := by decide +kernel
theorem dX0_live_1 : decode cX0_live 1 = .ok (.getfield 12, 3) := by decide +kernel
theorem dX0_live_4 : decode cX0_live 4 = .ok (.aload_n 2, 1) := by decide +kernel
theorem dX0_live_5 : decode cX0_live 5 = .ok (.invokevirtual 30, 3) := by decide +kernel
theorem dX0_live_8 : decode cX0_live 8 = .ok (.aload_n 0, 1) := by decide +kernel
theorem dX0_live_9 : decode cX0_live 9 = .ok (.iconst 0, 1) := by decide +kernel
theorem dX0_live_10 : decode cX0_live 10 = .ok (.putfield 34, 3) := by decide +kernel
theorem dX0_live_13 : decode cX0_live 13 = .ok (.aload_n 0, 1) := by decide +kernel
theorem dX0_live_14 : decode cX0_live 14 = .ok (.iconst 0, 1) := by decide +kernel
theorem dX0_live_15 : decode cX0_live 15 = .ok (.putfield 38, 3) := by decide +kernel
theorem dX0_live_18 : decode cX0_live 18 = .ok (.iconst 0, 1) := by decide +kernel
theorem dX0_live_19 : decode cX0_live 19 = .ok (.istore 5, 2) := by decide +kernel
theorem dX0_live_21 : decode cX0_live 21 = .ok (.iload 5, 2) := by decide +kernel
theorem dX0_live_23 : decode cX0_live 23 = .ok (.iload 4, 2) := by decide +kernel
theorem dX0_live_25 : decode cX0_live 25 = .ok (.if_icmp .ge 91, 3) := by decide +kernel
theorem dX0_live_28 : decode cX0_live 28 = .ok (.iconst 0, 1) := by decide +kernel
theorem dX0_live_29 : decode cX0_live 29 = .ok (.istore 6, 2) := by decide +kernel
theorem dX0_live_31 : decode cX0_live 31 = .ok (.iload 6, 2) := by decide +kernel
theorem dX0_live_33 : decode cX0_live 33 = .ok (.aload_n 1, 1) := by decide +kernel
theorem dX0_live_34 : decode cX0_live 34 = .ok (.getfield 41, 3) := by decide +kernel
theorem dX0_live_37 : decode cX0_live 37 = .ok (.if_icmp .ge 73, 3) := by decide +kernel
theorem dX0_live_110 : decode cX0_live 110 = .ok (.iinc 5 1, 3) := by decide +kernel
theorem dX0_live_113 : decode cX0_live 113 = .ok (.goto (-92), 3) := by decide +kernel
theorem dX0_live_116 : decode cX0_live 116 = .ok (.return_, 1) := by decide +kernel
set_option maxRecDepth 20000 in
theorem ggX0_payAll_X4_begin : GoodIn wsX0_payAll wsX4_begin := goodIn_r _ [15, 16, 17, 18, 19, 20, 21, 22, 23, 24, 25, 26, 27, 28, 29, 30, 31, 32, 33, 89, 90, 91, 92, 93, 94, 95, 96, 97, 98, 99, 100, 101, 102, 103, 104, 105, 106, 107, 108, 109, 110, 111, 112, 113] (by decide +kernel) (by decide +kernel)
set_option maxRecDepth 20000 in
theorem gX0_payAll_X4_begin : GoodIn wsX0_payAll (wsV RX0 87 RX4 yX4_begin wsX4_begin) := goodIn_app (goodIn_of _ (by decide +kernel)) ggX0_payAll_X4_begin
theorem dX0_payAll_0 : decode cX0_payAll 0 = .ok (.aload_n 0, 1) := by decide +kernel
theorem dX0_payAll_1 : decode cX0_payAll 1 = .ok (.getfield 12, 3) := by decide +kernel
theorem dX0_payAll_4 : decode cX0_payAll 4 = .ok (.aload_n 1, 1) := by decide +kernel
theorem dX0_payAll_5 : decode cX0_payAll 5 = .ok (.invokevirtual 87, 3) := by decide +kernel
theorem dX0_payAll_8 : decode cX0_payAll 8 = .ok (.aload_n 0, 1) := by decide +kernel
theorem dX0_payAll_9 : decode cX0_payAll 9 = .ok (.iconst 0, 1) := by decide +kernel
theorem dX0_payAll_10 : decode cX0_payAll 10 = .ok (.putfield 34, 3) := by decide +kernel
theorem dX0_payAll_13 : decode cX0_payAll 13 = .ok (.aload_n 0, 1) := by decide +kernel
theorem dX0_payAll_14 : decode cX0_payAll 14 = .ok (.iconst 0, 1) := by decide +kernel
theorem dX0_payAll_15 : decode cX0_payAll 15 = .ok (.putfield 38, 3) := by decide +kernel
theorem dX0_payAll_18 : decode cX0_payAll 18 = .ok (.aload_n 0, 1) := by decide +kernel
theorem dX0_payAll_19 : decode cX0_payAll 19 = .ok (.iconst 0, 1) := by decide +kernel
theorem dX0_payAll_20 : decode cX0_payAll 20 = .ok (.putfield 91, 3) := by decide +kernel
theorem dX0_payAll_23 : decode cX0_payAll 23 = .ok (.aload_n 0, 1) := by decide +kernel
theorem dX0_payAll_24 : decode cX0_payAll 24 = .ok (.iconst 0, 1) := by decide +kernel
theorem dX0_payAll_25 : decode cX0_payAll 25 = .ok (.putfield 94, 3) := by decide +kernel
theorem dX0_payAll_28 : decode cX0_payAll 28 = .ok (.iconst 0, 1) := by decide +kernel
theorem dX0_payAll_29 : decode cX0_payAll 29 = .ok (.istore_n 2, 1) := by decide +kernel
theorem dX0_payAll_30 : decode cX0_payAll 30 = .ok (.iload_n 2, 1) := by decide +kernel
theorem dX0_payAll_31 : decode cX0_payAll 31 = .ok (.aload_n 1, 1) := by decide +kernel
theorem dX0_payAll_32 : decode cX0_payAll 32 = .ok (.getfield 97, 3) := by decide +kernel
theorem dX0_payAll_35 : decode cX0_payAll 35 = .ok (.if_icmp .ge 25, 3) := by decide +kernel
theorem dX0_payAll_60 : decode cX0_payAll 60 = .ok (.iconst 0, 1) := by decide +kernel
theorem dX0_payAll_61 : decode cX0_payAll 61 = .ok (.istore_n 2, 1) := by decide +kernel
theorem dX0_payAll_62 : decode cX0_payAll 62 = .ok (.iload_n 2, 1) := by decide +kernel
theorem dX0_payAll_63 : decode cX0_payAll 63 = .ok (.aload_n 0, 1) := by decide +kernel
theorem dX0_payAll_64 : decode cX0_payAll 64 = .ok (.getfield 94, 3) := by decide +kernel
theorem dX0_payAll_67 : decode cX0_payAll 67 = .ok (.if_icmp .ge 32, 3) := by decide +kernel
theorem dX0_payAll_99 : decode cX0_payAll 99 = .ok (.return_, 1) := by decide +kernel
set_option maxRecDepth 20000 in
theorem ggX11_year_X0_live : GoodIn wsX11_year wsX0_live := goodIn_r _ [11, 12, 13, 14, 15, 16, 17, 18, 19, 20, 21, 22, 23, 24, 25, 26, 27, 28, 29, 30, 31, 32, 33, 10, 34, 35, 36, 37, 38, 39, 40, 41, 42, 43, 44, 45, 46, 47, 48, 49, 50, 51, 52, 53, 54, 55, 56, 57, 58, 59, 60, 61, 62, 63, 64, 65, 66, 67, 68, 69, 70, 71, 72, 73, 74, 75, 76, 77, 78, 79, 80, 81, 82, 83, 84, 115, 116, 117, 118, 119, 120, 121, 122, 123, 124, 125, 126, 127, 128, 129, 130, 131, 132, 133, 134, 135, 136, 137, 138, 139, 140, 141, 142, 143, 144, 145, 146] (by decide +kernel) (by decide +kernel)
set_option maxRecDepth 20000 in
theorem gX11_year_X0_live : GoodIn wsX11_year (wsV RX11 272 RX0 yX0_live wsX0_live) := goodIn_app (goodIn_of _ (by decide +kernel)) ggX11_year_X0_live
set_option maxRecDepth 20000 in
theorem ggX11_year_X4_thingsCarried : GoodIn wsX11_year wsX4_thingsCarried := goodIn_r _ [88, 22, 28, 89, 90, 39, 91, 92, 93, 94, 95, 96, 97, 98, 140, 141, 142, 143, 144, 145, 146] (by decide +kernel) (by decide +kernel)
set_option maxRecDepth 20000 in
theorem gX11_year_X4_thingsCarried : GoodIn wsX11_year (wsV RX11 284 RX4 yX4_thingsCarried wsX4_thingsCarried) := goodIn_app (goodIn_of _ (by decide +kernel)) ggX11_year_X4_thingsCarried
set_option maxRecDepth 20000 in
theorem ggX11_year_X4_menAtHome : GoodIn wsX11_year wsX4_menAtHome := goodIn_r _ [102, 22, 23, 103, 140, 141, 142, 143, 144, 145, 146, 122, 123, 124, 125, 126, 127, 128, 129, 130, 131, 132, 133, 134, 135, 136, 137, 138, 139] (by decide +kernel) (by decide +kernel)
set_option maxRecDepth 20000 in
theorem gX11_year_X4_menAtHome : GoodIn wsX11_year (wsV RX11 287 RX4 yX4_menAtHome wsX4_menAtHome) := goodIn_app (goodIn_of _ (by decide +kernel)) ggX11_year_X4_menAtHome
theorem dX11_year_0 : decode cX11_year 0 = .ok (.iload_n 2, 1) := by decide +kernel
theorem dX11_year_1 : decode cX11_year 1 = .ok (.iconst 1, 1) := by decide +kernel
theorem dX11_year_2 : decode cX11_year 2 = .ok (.if_icmp .lt 19, 3) := by decide +kernel
theorem dX11_year_5 : decode cX11_year 5 = .ok (.iload_n 2, 1) := by decide +kernel
theorem dX11_year_6 : decode cX11_year 6 = .ok (.sipush 400, 3) := by decide +kernel
theorem dX11_year_9 : decode cX11_year 9 = .ok (.if_icmp .gt 12, 3) := by decide +kernel
theorem dX11_year_12 : decode cX11_year 12 = .ok (.iload_n 3, 1) := by decide +kernel
theorem dX11_year_13 : decode cX11_year 13 = .ok (.ifCond .lt 8, 3) := by decide +kernel
theorem dX11_year_16 : decode cX11_year 16 = .ok (.iload_n 3, 1) := by decide +kernel
theorem dX11_year_17 : decode cX11_year 17 = .ok (.iconst 3, 1) := by decide +kernel
theorem dX11_year_18 : decode cX11_year 18 = .ok (.if_icmp .le 5, 3) := by decide +kernel
theorem dX11_year_21 : decode cX11_year 21 = .ok (.iconst (-1), 1) := by decide +kernel
theorem dX11_year_22 : decode cX11_year 22 = .ok (.ireturn, 1) := by decide +kernel
theorem dX11_year_23 : decode cX11_year 23 = .ok (.aload_n 0, 1) := by decide +kernel
theorem dX11_year_24 : decode cX11_year 24 = .ok (.getfield 63, 3) := by decide +kernel
theorem dX11_year_27 : decode cX11_year 27 = .ok (.aload_n 0, 1) := by decide +kernel
theorem dX11_year_28 : decode cX11_year 28 = .ok (.getfield 77, 3) := by decide +kernel
theorem dX11_year_31 : decode cX11_year 31 = .ok (.aload_n 0, 1) := by decide +kernel
theorem dX11_year_32 : decode cX11_year 32 = .ok (.getfield 24, 3) := by decide +kernel
theorem dX11_year_35 : decode cX11_year 35 = .ok (.iload_n 1, 1) := by decide +kernel
theorem dX11_year_36 : decode cX11_year 36 = .ok (.iload_n 2, 1) := by decide +kernel
theorem dX11_year_37 : decode cX11_year 37 = .ok (.invokevirtual 272, 3) := by decide +kernel
theorem dX11_year_40 : decode cX11_year 40 = .ok (.iload_n 3, 1) := by decide +kernel
theorem dX11_year_41 : decode cX11_year 41 = .ok (.tableswitch 54 0 2 #[27, 35, 43], 27) := by decide +kernel
theorem dX11_year_68 : decode cX11_year 68 = .ok (.aload_n 0, 1) := by decide +kernel
theorem dX11_year_69 : decode cX11_year 69 = .ok (.getfield 63, 3) := by decide +kernel
theorem dX11_year_72 : decode cX11_year 72 = .ok (.getfield 276, 3) := by decide +kernel
theorem dX11_year_75 : decode cX11_year 75 = .ok (.ireturn, 1) := by decide +kernel
theorem dX11_year_76 : decode cX11_year 76 = .ok (.aload_n 0, 1) := by decide +kernel
theorem dX11_year_77 : decode cX11_year 77 = .ok (.getfield 63, 3) := by decide +kernel
theorem dX11_year_80 : decode cX11_year 80 = .ok (.getfield 279, 3) := by decide +kernel
theorem dX11_year_83 : decode cX11_year 83 = .ok (.ireturn, 1) := by decide +kernel
theorem dX11_year_84 : decode cX11_year 84 = .ok (.aload_n 0, 1) := by decide +kernel
theorem dX11_year_85 : decode cX11_year 85 = .ok (.getfield 63, 3) := by decide +kernel
theorem dX11_year_88 : decode cX11_year 88 = .ok (.getfield 281, 3) := by decide +kernel
theorem dX11_year_91 : decode cX11_year 91 = .ok (.invokevirtual 284, 3) := by decide +kernel
theorem dX11_year_94 : decode cX11_year 94 = .ok (.ireturn, 1) := by decide +kernel
theorem dX11_year_95 : decode cX11_year 95 = .ok (.aload_n 0, 1) := by decide +kernel
theorem dX11_year_96 : decode cX11_year 96 = .ok (.getfield 63, 3) := by decide +kernel
theorem dX11_year_99 : decode cX11_year 99 = .ok (.getfield 281, 3) := by decide +kernel
theorem dX11_year_102 : decode cX11_year 102 = .ok (.aload_n 0, 1) := by decide +kernel
theorem dX11_year_103 : decode cX11_year 103 = .ok (.getfield 77, 3) := by decide +kernel
theorem dX11_year_106 : decode cX11_year 106 = .ok (.invokevirtual 287, 3) := by decide +kernel
theorem dX11_year_109 : decode cX11_year 109 = .ok (.ireturn, 1) := by decide +kernel
set_option maxRecDepth 20000 in
theorem ggX11_rest_X0_payAll : GoodIn wsX11_rest wsX0_payAll := goodIn_r _ [10, 11, 12, 13, 14, 15, 16, 17, 18, 19, 20, 21, 22, 23, 24, 25, 26, 27, 28, 29, 30, 31, 32, 33, 34, 35, 36, 37, 38, 39, 40, 41, 42, 43, 44, 45, 46, 9, 47, 48, 49, 50, 51, 52, 53, 54, 55, 56, 57, 58, 59, 60, 61, 62, 63, 64, 65, 66, 67, 68, 69, 70, 71, 72, 73, 74, 75, 76, 77, 78, 79, 80, 81, 82, 83, 84, 85, 86, 87, 88, 89, 90, 116, 117, 118, 119, 120, 121, 122, 123, 124, 125, 126, 127, 128, 129, 130, 131, 132, 133, 134, 135, 136, 137, 138, 139, 140, 141, 142, 143, 144, 145, 146, 147] (by decide +kernel) (by decide +kernel)
set_option maxRecDepth 20000 in
theorem gX11_rest_X0_payAll : GoodIn wsX11_rest (wsV RX11 291 RX0 yX0_payAll wsX0_payAll) := goodIn_app (goodIn_of _ (by decide +kernel)) ggX11_rest_X0_payAll
set_option maxRecDepth 20000 in
theorem ggX11_rest_X4_thingsCarried : GoodIn wsX11_rest wsX4_thingsCarried := goodIn_r _ [94, 27, 35, 95, 96, 62, 97, 98, 99, 100, 101, 102, 103, 104, 141, 142, 143, 144, 145, 146, 147] (by decide +kernel) (by decide +kernel)
set_option maxRecDepth 20000 in
theorem gX11_rest_X4_thingsCarried : GoodIn wsX11_rest (wsV RX11 284 RX4 yX4_thingsCarried wsX4_thingsCarried) := goodIn_app (goodIn_of _ (by decide +kernel)) ggX11_rest_X4_thingsCarried
theorem dX11_rest_0 : decode cX11_rest 0 = .ok (.iload_n 1, 1) := by decide +kernel
theorem dX11_rest_1 : decode cX11_rest 1 = .ok (.ifCond .lt 8, 3) := by decide +kernel
theorem dX11_rest_4 : decode cX11_rest 4 = .ok (.iload_n 1, 1) := by decide +kernel
theorem dX11_rest_5 : decode cX11_rest 5 = .ok (.iconst 2, 1) := by decide +kernel
theorem dX11_rest_6 : decode cX11_rest 6 = .ok (.if_icmp .le 5, 3) := by decide +kernel
theorem dX11_rest_9 : decode cX11_rest 9 = .ok (.iconst (-1), 1) := by decide +kernel
theorem dX11_rest_10 : decode cX11_rest 10 = .ok (.ireturn, 1) := by decide +kernel
theorem dX11_rest_11 : decode cX11_rest 11 = .ok (.aload_n 0, 1) := by decide +kernel
theorem dX11_rest_12 : decode cX11_rest 12 = .ok (.getfield 63, 3) := by decide +kernel
theorem dX11_rest_15 : decode cX11_rest 15 = .ok (.aload_n 0, 1) := by decide +kernel
theorem dX11_rest_16 : decode cX11_rest 16 = .ok (.getfield 77, 3) := by decide +kernel
theorem dX11_rest_19 : decode cX11_rest 19 = .ok (.invokevirtual 291, 3) := by decide +kernel
theorem dX11_rest_22 : decode cX11_rest 22 = .ok (.iload_n 1, 1) := by decide +kernel
theorem dX11_rest_23 : decode cX11_rest 23 = .ok (.lookupswitch 41 #[(0, 25), (1, 33)], 25) := by decide +kernel
theorem dX11_rest_48 : decode cX11_rest 48 = .ok (.aload_n 0, 1) := by decide +kernel
theorem dX11_rest_49 : decode cX11_rest 49 = .ok (.getfield 63, 3) := by decide +kernel
theorem dX11_rest_52 : decode cX11_rest 52 = .ok (.getfield 276, 3) := by decide +kernel
theorem dX11_rest_55 : decode cX11_rest 55 = .ok (.ireturn, 1) := by decide +kernel
theorem dX11_rest_56 : decode cX11_rest 56 = .ok (.aload_n 0, 1) := by decide +kernel
theorem dX11_rest_57 : decode cX11_rest 57 = .ok (.getfield 63, 3) := by decide +kernel
theorem dX11_rest_60 : decode cX11_rest 60 = .ok (.getfield 294, 3) := by decide +kernel
theorem dX11_rest_63 : decode cX11_rest 63 = .ok (.ireturn, 1) := by decide +kernel
theorem dX11_rest_64 : decode cX11_rest 64 = .ok (.aload_n 0, 1) := by decide +kernel
theorem dX11_rest_65 : decode cX11_rest 65 = .ok (.getfield 63, 3) := by decide +kernel
theorem dX11_rest_68 : decode cX11_rest 68 = .ok (.getfield 281, 3) := by decide +kernel
theorem dX11_rest_71 : decode cX11_rest 71 = .ok (.invokevirtual 284, 3) := by decide +kernel
theorem dX11_rest_74 : decode cX11_rest 74 = .ok (.ireturn, 1) := by decide +kernel
set_option maxRecDepth 20000 in
theorem ggX12_feed_X12_put : GoodIn wsX12_feed wsX12_put := goodIn_r _ [6, 7, 1, 8, 9, 10, 11, 12, 13, 14, 15, 16, 17, 18, 19, 20, 21, 22, 23, 24, 25, 26, 27, 28, 29, 30, 31, 32, 33, 34, 35, 36, 37, 38, 39, 40, 41, 42, 43, 44, 45, 46, 47, 48, 49, 50, 51, 52, 53, 54, 55, 56, 57, 58, 59, 60, 61, 62, 63, 64, 65, 66, 67, 68, 69, 70, 71, 72, 73, 74, 75, 76, 77, 78, 79, 80, 81, 82, 83, 84, 85, 86, 87, 88, 89, 90, 91, 92, 93, 94, 95, 96, 97] (by decide +kernel) (by decide +kernel)
set_option maxRecDepth 20000 in
theorem gX12_feed_X12_put : GoodIn wsX12_feed (wsV RX12 205 RX12 yX12_put wsX12_put) := goodIn_app (goodIn_of _ (by decide +kernel)) ggX12_feed_X12_put
theorem dX12_feed_0 : decode cX12_feed 0 = .ok (.aload_n 0, 1) := by decide +kernel
theorem dX12_feed_1 : decode cX12_feed 1 = .ok (.getfield 202, 3) := by decide +kernel
theorem dX12_feed_4 : decode cX12_feed 4 = .ok (.bipush 20, 2) := by decide +kernel
theorem dX12_feed_6 : decode cX12_feed 6 = .ok (.iadd, 1) := by decide +kernel
theorem dX12_feed_7 : decode cX12_feed 7 = .ok (.sipush 2000, 3) := by decide +kernel
theorem dX12_feed_10 : decode cX12_feed 10 = .ok (.if_icmp .le 5, 3) := by decide +kernel
theorem dX12_feed_15 : decode cX12_feed 15 = .ok (.aload_n 0, 1) := by decide +kernel
theorem dX12_feed_16 : decode cX12_feed 16 = .ok (.iload_n 1, 1) := by decide +kernel
theorem dX12_feed_17 : decode cX12_feed 17 = .ok (.invokevirtual 205, 3) := by decide +kernel
theorem dX12_feed_20 : decode cX12_feed 20 = .ok (.aload_n 0, 1) := by decide +kernel
theorem dX12_feed_21 : decode cX12_feed 21 = .ok (.iload_n 2, 1) := by decide +kernel
theorem dX12_feed_22 : decode cX12_feed 22 = .ok (.invokevirtual 205, 3) := by decide +kernel
theorem dX12_feed_25 : decode cX12_feed 25 = .ok (.aload_n 0, 1) := by decide +kernel
theorem dX12_feed_26 : decode cX12_feed 26 = .ok (.iload_n 3, 1) := by decide +kernel
theorem dX12_feed_27 : decode cX12_feed 27 = .ok (.invokevirtual 205, 3) := by decide +kernel
theorem dX12_feed_30 : decode cX12_feed 30 = .ok (.aload_n 0, 1) := by decide +kernel
theorem dX12_feed_31 : decode cX12_feed 31 = .ok (.iload 4, 2) := by decide +kernel
theorem dX12_feed_33 : decode cX12_feed 33 = .ok (.invokevirtual 205, 3) := by decide +kernel
theorem dX12_feed_36 : decode cX12_feed 36 = .ok (.aload_n 0, 1) := by decide +kernel
theorem dX12_feed_37 : decode cX12_feed 37 = .ok (.iload 5, 2) := by decide +kernel
theorem dX12_feed_39 : decode cX12_feed 39 = .ok (.invokevirtual 205, 3) := by decide +kernel
theorem dX12_feed_42 : decode cX12_feed 42 = .ok (.aload_n 0, 1) := by decide +kernel
theorem dX12_feed_43 : decode cX12_feed 43 = .ok (.getfield 202, 3) := by decide +kernel
theorem dX12_feed_46 : decode cX12_feed 46 = .ok (.ireturn, 1) := by decide +kernel
theorem dX12_put_0 : decode cX12_put 0 = .ok (.bipush 24, 2) := by decide +kernel
theorem dX12_put_2 : decode cX12_put 2 = .ok (.istore_n 2, 1) := by decide +kernel
theorem dX12_put_3 : decode cX12_put 3 = .ok (.iload_n 2, 1) := by decide +kernel
theorem dX12_put_4 : decode cX12_put 4 = .ok (.ifCond .lt 32, 3) := by decide +kernel
theorem dX12_put_7 : decode cX12_put 7 = .ok (.aload_n 0, 1) := by decide +kernel
theorem dX12_put_8 : decode cX12_put 8 = .ok (.getfield 13, 3) := by decide +kernel
theorem dX12_put_11 : decode cX12_put 11 = .ok (.aload_n 0, 1) := by decide +kernel
theorem dX12_put_12 : decode cX12_put 12 = .ok (.getfield 202, 3) := by decide +kernel
theorem dX12_put_15 : decode cX12_put 15 = .ok (.iload_n 1, 1) := by decide +kernel
theorem dX12_put_16 : decode cX12_put 16 = .ok (.iload_n 2, 1) := by decide +kernel
theorem dX12_put_17 : decode cX12_put 17 = .ok (.ishr, 1) := by decide +kernel
theorem dX12_put_18 : decode cX12_put 18 = .ok (.i2b, 1) := by decide +kernel
theorem dX12_put_19 : decode cX12_put 19 = .ok (.bastore, 1) := by decide +kernel
theorem dX12_put_20 : decode cX12_put 20 = .ok (.aload_n 0, 1) := by decide +kernel
theorem dX12_put_21 : decode cX12_put 21 = .ok (.dup, 1) := by decide +kernel
theorem dX12_put_22 : decode cX12_put 22 = .ok (.getfield 202, 3) := by decide +kernel
theorem dX12_put_25 : decode cX12_put 25 = .ok (.iconst 1, 1) := by decide +kernel
theorem dX12_put_26 : decode cX12_put 26 = .ok (.iadd, 1) := by decide +kernel
theorem dX12_put_27 : decode cX12_put 27 = .ok (.putfield 202, 3) := by decide +kernel
theorem dX12_put_30 : decode cX12_put 30 = .ok (.iinc 2 (-8), 3) := by decide +kernel
theorem dX12_put_33 : decode cX12_put 33 = .ok (.goto (-30), 3) := by decide +kernel
theorem dX12_put_36 : decode cX12_put 36 = .ok (.return_, 1) := by decide +kernel
theorem dX12_back_0 : decode cX12_back 0 = .ok (.iload_n 1, 1) := by decide +kernel
theorem dX12_back_1 : decode cX12_back 1 = .ok (.ifCond .lt 11, 3) := by decide +kernel
theorem dX12_back_4 : decode cX12_back 4 = .ok (.iload_n 1, 1) := by decide +kernel
theorem dX12_back_5 : decode cX12_back 5 = .ok (.aload_n 0, 1) := by decide +kernel
theorem dX12_back_6 : decode cX12_back 6 = .ok (.getfield 202, 3) := by decide +kernel
theorem dX12_back_9 : decode cX12_back 9 = .ok (.if_icmp .le 5, 3) := by decide +kernel
theorem dX12_back_12 : decode cX12_back 12 = .ok (.iconst (-1), 1) := by decide +kernel
theorem dX12_back_13 : decode cX12_back 13 = .ok (.ireturn, 1) := by decide +kernel
theorem dX12_back_14 : decode cX12_back 14 = .ok (.aload_n 0, 1) := by decide +kernel
theorem dX12_back_15 : decode cX12_back 15 = .ok (.dup, 1) := by decide +kernel
theorem dX12_back_16 : decode cX12_back 16 = .ok (.getfield 202, 3) := by decide +kernel
theorem dX12_back_19 : decode cX12_back 19 = .ok (.iload_n 1, 1) := by decide +kernel
theorem dX12_back_20 : decode cX12_back 20 = .ok (.isub, 1) := by decide +kernel
theorem dX12_back_21 : decode cX12_back 21 = .ok (.putfield 202, 3) := by decide +kernel
theorem dX12_back_24 : decode cX12_back 24 = .ok (.aload_n 0, 1) := by decide +kernel
theorem dX12_back_25 : decode cX12_back 25 = .ok (.getfield 202, 3) := by decide +kernel
theorem dX12_back_28 : decode cX12_back 28 = .ok (.ireturn, 1) := by decide +kernel
theorem dX12_byteAt_0 : decode cX12_byteAt 0 = .ok (.iload_n 1, 1) := by decide +kernel
theorem dX12_byteAt_1 : decode cX12_byteAt 1 = .ok (.aload_n 0, 1) := by decide +kernel
theorem dX12_byteAt_2 : decode cX12_byteAt 2 = .ok (.getfield 209, 3) := by decide +kernel
theorem dX12_byteAt_5 : decode cX12_byteAt 5 = .ok (.if_icmp .ge 16, 3) := by decide +kernel
theorem dX12_byteAt_21 : decode cX12_byteAt 21 = .ok (.iconst 0, 1) := by decide +kernel
theorem dX12_byteAt_22 : decode cX12_byteAt 22 = .ok (.ireturn, 1) := by decide +kernel
theorem dX12_token_0 : decode cX12_token 0 = .ok (.aload_n 0, 1) := by decide +kernel
theorem dX12_token_1 : decode cX12_token 1 = .ok (.getfield 20, 3) := by decide +kernel
theorem dX12_token_4 : decode cX12_token 4 = .ok (.aload_n 0, 1) := by decide +kernel
theorem dX12_token_5 : decode cX12_token 5 = .ok (.getfield 214, 3) := by decide +kernel
theorem dX12_token_8 : decode cX12_token 8 = .ok (.iload_n 1, 1) := by decide +kernel
theorem dX12_token_9 : decode cX12_token 9 = .ok (.iastore, 1) := by decide +kernel
theorem dX12_token_10 : decode cX12_token 10 = .ok (.aload_n 0, 1) := by decide +kernel
theorem dX12_token_11 : decode cX12_token 11 = .ok (.getfield 24, 3) := by decide +kernel
theorem dX12_token_14 : decode cX12_token 14 = .ok (.aload_n 0, 1) := by decide +kernel
theorem dX12_token_15 : decode cX12_token 15 = .ok (.getfield 214, 3) := by decide +kernel
theorem dX12_token_18 : decode cX12_token 18 = .ok (.iload_n 2, 1) := by decide +kernel
theorem dX12_token_19 : decode cX12_token 19 = .ok (.iastore, 1) := by decide +kernel
theorem dX12_token_20 : decode cX12_token 20 = .ok (.aload_n 0, 1) := by decide +kernel
theorem dX12_token_21 : decode cX12_token 21 = .ok (.getfield 27, 3) := by decide +kernel
theorem dX12_token_24 : decode cX12_token 24 = .ok (.aload_n 0, 1) := by decide +kernel
theorem dX12_token_25 : decode cX12_token 25 = .ok (.getfield 214, 3) := by decide +kernel
theorem dX12_token_28 : decode cX12_token 28 = .ok (.iload_n 3, 1) := by decide +kernel
theorem dX12_token_29 : decode cX12_token 29 = .ok (.iastore, 1) := by decide +kernel
theorem dX12_token_30 : decode cX12_token 30 = .ok (.aload_n 0, 1) := by decide +kernel
theorem dX12_token_31 : decode cX12_token 31 = .ok (.getfield 30, 3) := by decide +kernel
theorem dX12_token_34 : decode cX12_token 34 = .ok (.aload_n 0, 1) := by decide +kernel
theorem dX12_token_35 : decode cX12_token 35 = .ok (.getfield 214, 3) := by decide +kernel
theorem dX12_token_38 : decode cX12_token 38 = .ok (.lload 4, 2) := by decide +kernel
theorem dX12_token_40 : decode cX12_token 40 = .ok (.lastore, 1) := by decide +kernel
theorem dX12_token_41 : decode cX12_token 41 = .ok (.aload_n 0, 1) := by decide +kernel
theorem dX12_token_42 : decode cX12_token 42 = .ok (.dup, 1) := by decide +kernel
theorem dX12_token_43 : decode cX12_token 43 = .ok (.getfield 214, 3) := by decide +kernel
theorem dX12_token_46 : decode cX12_token 46 = .ok (.iconst 1, 1) := by decide +kernel
theorem dX12_token_47 : decode cX12_token 47 = .ok (.iadd, 1) := by decide +kernel
theorem dX12_token_48 : decode cX12_token 48 = .ok (.putfield 214, 3) := by decide +kernel
theorem dX12_token_51 : decode cX12_token 51 = .ok (.return_, 1) := by decide +kernel
set_option maxRecDepth 20000 in
theorem ggX12_cut_X12_byteAt : GoodIn wsX12_cut wsX12_byteAt := goodIn_r _ [8, 2, 9, 32, 33, 34, 35, 36, 37, 38, 39, 40, 41, 42, 43, 44, 45, 46, 47, 48, 49, 50, 51, 52, 53, 54, 55, 56, 57, 58, 59, 60, 61, 62, 63, 64, 65, 66, 67, 68, 69, 70, 71, 72, 73, 74, 75, 76, 77, 78, 79, 80, 81, 82, 83, 84, 85, 86, 87, 88, 89, 90, 91, 92, 93, 94, 95, 96, 97, 98, 99, 100, 101, 102, 103, 104, 105, 106, 107, 108, 109, 110, 111, 112, 113, 114, 115, 116, 117, 118, 119, 120, 121] (by decide +kernel) (by decide +kernel)
set_option maxRecDepth 20000 in
theorem gX12_cut_X12_byteAt : GoodIn wsX12_cut (wsV RX12 217 RX12 yX12_byteAt wsX12_byteAt) := goodIn_app (goodIn_of _ (by decide +kernel)) ggX12_cut_X12_byteAt
set_option maxRecDepth 20000 in
theorem ggX12_cut_X12_token : GoodIn wsX12_cut wsX12_token := goodIn_r _ [13, 14, 1, 15, 16, 17, 32, 33, 34, 35, 36, 37, 38, 39, 40, 41, 42, 43, 44, 45, 46, 47, 48, 49, 50, 51, 52, 53, 54, 55, 56, 57, 58, 59, 60, 61, 62, 63, 64, 65, 66, 67, 68, 69, 70, 71, 72, 73, 74, 75, 76, 77, 78, 79, 80, 81, 82, 83, 84, 85, 86, 87, 88, 89, 90, 91, 92, 93, 94, 95, 96, 97, 98, 99, 100, 101, 102, 103, 104, 105, 106, 107, 108, 109, 110, 111, 112, 113, 114, 115, 116, 117, 118, 119, 120, 121] (by decide +kernel) (by decide +kernel)
set_option maxRecDepth 20000 in
theorem gX12_cut_X12_token : GoodIn wsX12_cut (wsV RX12 221 RX12 yX12_token wsX12_token) := goodIn_app (goodIn_of _ (by decide +kernel)) ggX12_cut_X12_token
theorem dX12_cut_0 : decode cX12_cut 0 = .ok (.aload_n 0, 1) := by decide +kernel
theorem dX12_cut_1 : decode cX12_cut 1 = .ok (.iconst 0, 1) := by decide +kernel
theorem dX12_cut_2 : decode cX12_cut 2 = .ok (.putfield 214, 3) := by decide +kernel
theorem dX12_cut_5 : decode cX12_cut 5 = .ok (.iconst 0, 1) := by decide +kernel
theorem dX12_cut_6 : decode cX12_cut 6 = .ok (.istore_n 1, 1) := by decide +kernel
theorem dX12_cut_7 : decode cX12_cut 7 = .ok (.aload_n 0, 1) := by decide +kernel
theorem dX12_cut_8 : decode cX12_cut 8 = .ok (.getfield 214, 3) := by decide +kernel
theorem dX12_cut_11 : decode cX12_cut 11 = .ok (.sipush 400, 3) := by decide +kernel
theorem dX12_cut_14 : decode cX12_cut 14 = .ok (.if_icmp .gt 280, 3) := by decide +kernel
theorem dX12_cut_17 : decode cX12_cut 17 = .ok (.aload_n 0, 1) := by decide +kernel
theorem dX12_cut_18 : decode cX12_cut 18 = .ok (.iload_n 1, 1) := by decide +kernel
theorem dX12_cut_19 : decode cX12_cut 19 = .ok (.invokevirtual 217, 3) := by decide +kernel
theorem dX12_cut_22 : decode cX12_cut 22 = .ok (.istore_n 2, 1) := by decide +kernel
theorem dX12_cut_23 : decode cX12_cut 23 = .ok (.iload_n 1, 1) := by decide +kernel
theorem dX12_cut_24 : decode cX12_cut 24 = .ok (.aload_n 0, 1) := by decide +kernel
theorem dX12_cut_25 : decode cX12_cut 25 = .ok (.getfield 209, 3) := by decide +kernel
theorem dX12_cut_28 : decode cX12_cut 28 = .ok (.if_icmp .lt 15, 3) := by decide +kernel
theorem dX12_cut_31 : decode cX12_cut 31 = .ok (.aload_n 0, 1) := by decide +kernel
theorem dX12_cut_32 : decode cX12_cut 32 = .ok (.iconst 0, 1) := by decide +kernel
theorem dX12_cut_33 : decode cX12_cut 33 = .ok (.aload_n 0, 1) := by decide +kernel
theorem dX12_cut_34 : decode cX12_cut 34 = .ok (.getfield 209, 3) := by decide +kernel
theorem dX12_cut_37 : decode cX12_cut 37 = .ok (.iconst 0, 1) := by decide +kernel
theorem dX12_cut_38 : decode cX12_cut 38 = .ok (.lconst 0, 1) := by decide +kernel
theorem dX12_cut_39 : decode cX12_cut 39 = .ok (.invokevirtual 221, 3) := by decide +kernel
theorem dX12_cut_42 : decode cX12_cut 42 = .ok (.return_, 1) := by decide +kernel
theorem dX12_is_0 : decode cX12_is 0 = .ok (.aload_n 0, 1) := by decide +kernel
theorem dX12_is_1 : decode cX12_is 1 = .ok (.getfield 236, 3) := by decide +kernel
theorem dX12_is_4 : decode cX12_is 4 = .ok (.ifCond .ne 20, 3) := by decide +kernel
theorem dX12_is_7 : decode cX12_is 7 = .ok (.aload_n 0, 1) := by decide +kernel
theorem dX12_is_8 : decode cX12_is 8 = .ok (.getfield 20, 3) := by decide +kernel
theorem dX12_is_11 : decode cX12_is 11 = .ok (.aload_n 0, 1) := by decide +kernel
theorem dX12_is_12 : decode cX12_is 12 = .ok (.getfield 239, 3) := by decide +kernel
theorem dX12_is_15 : decode cX12_is 15 = .ok (.iaload, 1) := by decide +kernel
theorem dX12_is_16 : decode cX12_is 16 = .ok (.iload_n 1, 1) := by decide +kernel
theorem dX12_is_17 : decode cX12_is 17 = .ok (.if_icmp .ne 7, 3) := by decide +kernel
theorem dX12_is_20 : decode cX12_is 20 = .ok (.iconst 1, 1) := by decide +kernel
theorem dX12_is_21 : decode cX12_is 21 = .ok (.goto 4, 3) := by decide +kernel
theorem dX12_is_25 : decode cX12_is 25 = .ok (.ireturn, 1) := by decide +kernel
set_option maxRecDepth 20000 in
theorem ggX12_read_X12_cut : GoodIn wsX12_read wsX12_cut := goodIn_r _ [32, 33, 2, 34, 35, 36, 37, 31, 38, 3, 39, 40, 41, 42, 43, 44, 45, 46, 47, 48, 49, 50, 51, 52, 53, 54, 55, 56, 57, 58, 59, 60, 146, 147, 148, 149, 150, 151, 152, 153, 154, 155, 156, 157, 158, 159, 160, 161, 162, 163, 164, 165, 166, 167, 168, 169, 170, 171, 172, 173, 174, 175, 176, 177, 178, 179, 180, 181, 182, 183, 184, 185, 186, 187, 188, 189, 190, 191, 192, 193, 194, 195, 196, 197, 198, 199, 200, 201, 202, 203, 204, 205, 206, 207, 208, 209, 210, 211, 212, 213, 214, 215, 216, 217, 218, 219, 220, 221, 222, 223, 224, 225, 226, 227, 228, 229, 230, 231, 232, 233, 234, 235] (by decide +kernel) (by decide +kernel)
set_option maxRecDepth 20000 in
theorem gX12_read_X12_cut : GoodIn wsX12_read (wsV RX12 260 RX12 yX12_cut wsX12_cut) := goodIn_app (goodIn_of _ (by decide +kernel)) ggX12_read_X12_cut
set_option maxRecDepth 20000 in
theorem ggX12_read_X12_is : GoodIn wsX12_read wsX12_is := goodIn_r _ [64, 7, 43, 5, 146, 147, 148, 149, 150, 151, 152, 153, 154, 155, 156, 157, 158, 159, 160, 161, 162, 163, 164, 165, 166, 167, 168, 169, 170, 171, 172, 173, 174, 175, 176, 177, 178, 179, 180, 181, 182, 183, 184, 185, 186, 187, 188, 189, 190, 191, 192, 193, 194, 195, 196, 197, 198, 199, 200, 201, 202, 203, 204, 205, 206, 207, 208, 209, 210, 211, 212, 213, 214, 215, 216, 217, 218, 219, 220, 221, 222, 223, 224, 225, 226, 227, 228, 229, 230, 231, 232, 233, 234, 235] (by decide +kernel) (by decide +kernel)
set_option maxRecDepth 20000 in
theorem gX12_read_X12_is : GoodIn wsX12_read (wsV RX12 254 RX12 yX12_is wsX12_is) := goodIn_app (goodIn_of _ (by decide +kernel)) ggX12_read_X12_is
set_option maxRecDepth 20000 in
theorem ggX12_read_X12_begins : GoodIn wsX12_read wsX12_begins := goodIn_r _ [136, 137, 19, 9, 15, 138, 139, 140, 31, 141, 125, 142, 143, 144, 145, 126, 146, 147, 148, 149, 150, 151, 152, 153, 154, 155, 156, 157, 158, 159, 160, 161, 162, 163, 164, 165, 166, 167, 168, 169, 170, 171, 172, 173, 174, 175, 176, 177, 178, 179, 180, 181, 182, 183, 184, 185, 186, 187, 188, 189, 190, 191, 192, 193, 194, 195, 196, 197, 198, 199, 200, 201, 202, 203, 204, 205, 206, 207, 208, 209, 210, 211, 212, 213, 214, 215, 216, 217, 218, 219, 220, 221, 222, 223, 224, 225, 226, 227, 228, 229, 230, 231, 232, 233, 234, 235] (by decide +kernel) (by decide +kernel)
set_option maxRecDepth 20000 in
theorem gX12_read_X12_begins : GoodIn wsX12_read (wsV RX12 278 RX12 yX12_begins wsX12_begins) := goodIn_app (goodIn_of _ (by decide +kernel)) ggX12_read_X12_begins
theorem dX12_read_0 : decode cX12_read 0 = .ok (.aload_n 0, 1) := by decide +kernel
theorem dX12_read_1 : decode cX12_read 1 = .ok (.aload_n 0, 1) := by decide +kernel
theorem dX12_read_2 : decode cX12_read 2 = .ok (.getfield 202, 3) := by decide +kernel
theorem dX12_read_5 : decode cX12_read 5 = .ok (.putfield 209, 3) := by decide +kernel
theorem dX12_read_8 : decode cX12_read 8 = .ok (.iconst 0, 1) := by decide +kernel
theorem dX12_read_9 : decode cX12_read 9 = .ok (.istore_n 1, 1) := by decide +kernel
theorem dX12_read_10 : decode cX12_read 10 = .ok (.iload_n 1, 1) := by decide +kernel
theorem dX12_read_11 : decode cX12_read 11 = .ok (.aload_n 0, 1) := by decide +kernel
theorem dX12_read_12 : decode cX12_read 12 = .ok (.getfield 209, 3) := by decide +kernel
theorem dX12_read_15 : decode cX12_read 15 = .ok (.if_icmp .ge 21, 3) := by decide +kernel
theorem dX12_read_36 : decode cX12_read 36 = .ok (.aload_n 0, 1) := by decide +kernel
theorem dX12_read_37 : decode cX12_read 37 = .ok (.iconst 0, 1) := by decide +kernel
theorem dX12_read_38 : decode cX12_read 38 = .ok (.putfield 202, 3) := by decide +kernel
theorem dX12_read_41 : decode cX12_read 41 = .ok (.aload_n 0, 1) := by decide +kernel
theorem dX12_read_42 : decode cX12_read 42 = .ok (.invokevirtual 260, 3) := by decide +kernel
theorem dX12_read_45 : decode cX12_read 45 = .ok (.aload_n 0, 1) := by decide +kernel
theorem dX12_read_46 : decode cX12_read 46 = .ok (.iconst 0, 1) := by decide +kernel
theorem dX12_read_47 : decode cX12_read 47 = .ok (.putfield 239, 3) := by decide +kernel
theorem dX12_read_50 : decode cX12_read 50 = .ok (.aload_n 0, 1) := by decide +kernel
theorem dX12_read_51 : decode cX12_read 51 = .ok (.iconst 0, 1) := by decide +kernel
theorem dX12_read_52 : decode cX12_read 52 = .ok (.putfield 263, 3) := by decide +kernel
theorem dX12_read_55 : decode cX12_read 55 = .ok (.aload_n 0, 1) := by decide +kernel
theorem dX12_read_56 : decode cX12_read 56 = .ok (.iconst 0, 1) := by decide +kernel
theorem dX12_read_57 : decode cX12_read 57 = .ok (.putfield 236, 3) := by decide +kernel
theorem dX12_read_60 : decode cX12_read 60 = .ok (.aload_n 0, 1) := by decide +kernel
theorem dX12_read_61 : decode cX12_read 61 = .ok (.iconst 0, 1) := by decide +kernel
theorem dX12_read_62 : decode cX12_read 62 = .ok (.putfield 245, 3) := by decide +kernel
theorem dX12_read_65 : decode cX12_read 65 = .ok (.aload_n 0, 1) := by decide +kernel
theorem dX12_read_66 : decode cX12_read 66 = .ok (.iconst 1, 1) := by decide +kernel
theorem dX12_read_67 : decode cX12_read 67 = .ok (.aload_n 0, 1) := by decide +kernel
theorem dX12_read_68 : decode cX12_read 68 = .ok (.getfield 266, 3) := by decide +kernel
theorem dX12_read_71 : decode cX12_read 71 = .ok (.isub, 1) := by decide +kernel
theorem dX12_read_72 : decode cX12_read 72 = .ok (.putfield 269, 3) := by decide +kernel
theorem dX12_read_75 : decode cX12_read 75 = .ok (.aload_n 0, 1) := by decide +kernel
theorem dX12_read_76 : decode cX12_read 76 = .ok (.iconst 0, 1) := by decide +kernel
theorem dX12_read_77 : decode cX12_read 77 = .ok (.putfield 272, 3) := by decide +kernel
theorem dX12_read_80 : decode cX12_read 80 = .ok (.aload_n 0, 1) := by decide +kernel
theorem dX12_read_81 : decode cX12_read 81 = .ok (.getfield 49, 3) := by decide +kernel
theorem dX12_read_84 : decode cX12_read 84 = .ok (.aload_n 0, 1) := by decide +kernel
theorem dX12_read_85 : decode cX12_read 85 = .ok (.getfield 269, 3) := by decide +kernel
theorem dX12_read_88 : decode cX12_read 88 = .ok (.iconst 0, 1) := by decide +kernel
theorem dX12_read_89 : decode cX12_read 89 = .ok (.iastore, 1) := by decide +kernel
theorem dX12_read_90 : decode cX12_read 90 = .ok (.aload_n 0, 1) := by decide +kernel
theorem dX12_read_91 : decode cX12_read 91 = .ok (.getfield 55, 3) := by decide +kernel
theorem dX12_read_94 : decode cX12_read 94 = .ok (.aload_n 0, 1) := by decide +kernel
theorem dX12_read_95 : decode cX12_read 95 = .ok (.getfield 269, 3) := by decide +kernel
theorem dX12_read_98 : decode cX12_read 98 = .ok (.iconst 0, 1) := by decide +kernel
theorem dX12_read_99 : decode cX12_read 99 = .ok (.iastore, 1) := by decide +kernel
theorem dX12_read_100 : decode cX12_read 100 = .ok (.aload_n 0, 1) := by decide +kernel
theorem dX12_read_101 : decode cX12_read 101 = .ok (.getfield 68, 3) := by decide +kernel
theorem dX12_read_104 : decode cX12_read 104 = .ok (.aload_n 0, 1) := by decide +kernel
theorem dX12_read_105 : decode cX12_read 105 = .ok (.getfield 269, 3) := by decide +kernel
theorem dX12_read_108 : decode cX12_read 108 = .ok (.iconst 0, 1) := by decide +kernel
theorem dX12_read_109 : decode cX12_read 109 = .ok (.iastore, 1) := by decide +kernel
theorem dX12_read_110 : decode cX12_read 110 = .ok (.aload_n 0, 1) := by decide +kernel
theorem dX12_read_111 : decode cX12_read 111 = .ok (.getfield 74, 3) := by decide +kernel
theorem dX12_read_114 : decode cX12_read 114 = .ok (.aload_n 0, 1) := by decide +kernel
theorem dX12_read_115 : decode cX12_read 115 = .ok (.getfield 269, 3) := by decide +kernel
theorem dX12_read_118 : decode cX12_read 118 = .ok (.iconst 0, 1) := by decide +kernel
theorem dX12_read_119 : decode cX12_read 119 = .ok (.iastore, 1) := by decide +kernel
theorem dX12_read_120 : decode cX12_read 120 = .ok (.aload_n 0, 1) := by decide +kernel
theorem dX12_read_121 : decode cX12_read 121 = .ok (.getfield 83, 3) := by decide +kernel
theorem dX12_read_124 : decode cX12_read 124 = .ok (.aload_n 0, 1) := by decide +kernel
theorem dX12_read_125 : decode cX12_read 125 = .ok (.getfield 269, 3) := by decide +kernel
theorem dX12_read_128 : decode cX12_read 128 = .ok (.iconst 0, 1) := by decide +kernel
theorem dX12_read_129 : decode cX12_read 129 = .ok (.iastore, 1) := by decide +kernel
theorem dX12_read_130 : decode cX12_read 130 = .ok (.aload_n 0, 1) := by decide +kernel
theorem dX12_read_131 : decode cX12_read 131 = .ok (.getfield 86, 3) := by decide +kernel
theorem dX12_read_134 : decode cX12_read 134 = .ok (.aload_n 0, 1) := by decide +kernel
theorem dX12_read_135 : decode cX12_read 135 = .ok (.getfield 269, 3) := by decide +kernel
theorem dX12_read_138 : decode cX12_read 138 = .ok (.iconst 0, 1) := by decide +kernel
theorem dX12_read_139 : decode cX12_read 139 = .ok (.iastore, 1) := by decide +kernel
theorem dX12_read_140 : decode cX12_read 140 = .ok (.iconst 0, 1) := by decide +kernel
theorem dX12_read_141 : decode cX12_read 141 = .ok (.istore_n 1, 1) := by decide +kernel
theorem dX12_read_142 : decode cX12_read 142 = .ok (.iload_n 1, 1) := by decide +kernel
theorem dX12_read_143 : decode cX12_read 143 = .ok (.bipush 50, 2) := by decide +kernel
theorem dX12_read_145 : decode cX12_read 145 = .ok (.if_icmp .ge 54, 3) := by decide +kernel
theorem dX12_read_148 : decode cX12_read 148 = .ok (.aload_n 0, 1) := by decide +kernel
theorem dX12_read_149 : decode cX12_read 149 = .ok (.getfield 58, 3) := by decide +kernel
theorem dX12_read_152 : decode cX12_read 152 = .ok (.bipush 50, 2) := by decide +kernel
theorem dX12_read_154 : decode cX12_read 154 = .ok (.aload_n 0, 1) := by decide +kernel
theorem dX12_read_155 : decode cX12_read 155 = .ok (.getfield 269, 3) := by decide +kernel
theorem dX12_read_158 : decode cX12_read 158 = .ok (.imul, 1) := by decide +kernel
theorem dX12_read_159 : decode cX12_read 159 = .ok (.iload_n 1, 1) := by decide +kernel
theorem dX12_read_160 : decode cX12_read 160 = .ok (.iadd, 1) := by decide +kernel
theorem dX12_read_161 : decode cX12_read 161 = .ok (.iconst (-1), 1) := by decide +kernel
theorem dX12_read_162 : decode cX12_read 162 = .ok (.iastore, 1) := by decide +kernel
theorem dX12_read_163 : decode cX12_read 163 = .ok (.aload_n 0, 1) := by decide +kernel
theorem dX12_read_164 : decode cX12_read 164 = .ok (.getfield 61, 3) := by decide +kernel
theorem dX12_read_167 : decode cX12_read 167 = .ok (.bipush 50, 2) := by decide +kernel
theorem dX12_read_169 : decode cX12_read 169 = .ok (.aload_n 0, 1) := by decide +kernel
theorem dX12_read_170 : decode cX12_read 170 = .ok (.getfield 269, 3) := by decide +kernel
theorem dX12_read_173 : decode cX12_read 173 = .ok (.imul, 1) := by decide +kernel
theorem dX12_read_174 : decode cX12_read 174 = .ok (.iload_n 1, 1) := by decide +kernel
theorem dX12_read_175 : decode cX12_read 175 = .ok (.iadd, 1) := by decide +kernel
theorem dX12_read_176 : decode cX12_read 176 = .ok (.iconst 0, 1) := by decide +kernel
theorem dX12_read_177 : decode cX12_read 177 = .ok (.iastore, 1) := by decide +kernel
theorem dX12_read_178 : decode cX12_read 178 = .ok (.aload_n 0, 1) := by decide +kernel
theorem dX12_read_179 : decode cX12_read 179 = .ok (.getfield 64, 3) := by decide +kernel
theorem dX12_read_182 : decode cX12_read 182 = .ok (.bipush 50, 2) := by decide +kernel
theorem dX12_read_184 : decode cX12_read 184 = .ok (.aload_n 0, 1) := by decide +kernel
theorem dX12_read_185 : decode cX12_read 185 = .ok (.getfield 269, 3) := by decide +kernel
theorem dX12_read_188 : decode cX12_read 188 = .ok (.imul, 1) := by decide +kernel
theorem dX12_read_189 : decode cX12_read 189 = .ok (.iload_n 1, 1) := by decide +kernel
theorem dX12_read_190 : decode cX12_read 190 = .ok (.iadd, 1) := by decide +kernel
theorem dX12_read_191 : decode cX12_read 191 = .ok (.iconst 0, 1) := by decide +kernel
theorem dX12_read_192 : decode cX12_read 192 = .ok (.bastore, 1) := by decide +kernel
theorem dX12_read_193 : decode cX12_read 193 = .ok (.iinc 1 1, 3) := by decide +kernel
theorem dX12_read_196 : decode cX12_read 196 = .ok (.goto (-54), 3) := by decide +kernel
theorem dX12_read_199 : decode cX12_read 199 = .ok (.iconst 0, 1) := by decide +kernel
theorem dX12_read_200 : decode cX12_read 200 = .ok (.istore_n 1, 1) := by decide +kernel
theorem dX12_read_201 : decode cX12_read 201 = .ok (.iload_n 1, 1) := by decide +kernel
theorem dX12_read_202 : decode cX12_read 202 = .ok (.bipush 100, 2) := by decide +kernel
theorem dX12_read_204 : decode cX12_read 204 = .ok (.if_icmp .ge 24, 3) := by decide +kernel
theorem dX12_read_207 : decode cX12_read 207 = .ok (.aload_n 0, 1) := by decide +kernel
theorem dX12_read_208 : decode cX12_read 208 = .ok (.getfield 71, 3) := by decide +kernel
theorem dX12_read_211 : decode cX12_read 211 = .ok (.bipush 100, 2) := by decide +kernel
theorem dX12_read_213 : decode cX12_read 213 = .ok (.aload_n 0, 1) := by decide +kernel
theorem dX12_read_214 : decode cX12_read 214 = .ok (.getfield 269, 3) := by decide +kernel
theorem dX12_read_217 : decode cX12_read 217 = .ok (.imul, 1) := by decide +kernel
theorem dX12_read_218 : decode cX12_read 218 = .ok (.iload_n 1, 1) := by decide +kernel
theorem dX12_read_219 : decode cX12_read 219 = .ok (.iadd, 1) := by decide +kernel
theorem dX12_read_220 : decode cX12_read 220 = .ok (.iconst 0, 1) := by decide +kernel
theorem dX12_read_221 : decode cX12_read 221 = .ok (.iastore, 1) := by decide +kernel
theorem dX12_read_222 : decode cX12_read 222 = .ok (.iinc 1 1, 3) := by decide +kernel
theorem dX12_read_225 : decode cX12_read 225 = .ok (.goto (-24), 3) := by decide +kernel
theorem dX12_read_228 : decode cX12_read 228 = .ok (.aload_n 0, 1) := by decide +kernel
theorem dX12_read_229 : decode cX12_read 229 = .ok (.getfield 236, 3) := by decide +kernel
theorem dX12_read_232 : decode cX12_read 232 = .ok (.ifCond .ne 18, 3) := by decide +kernel
theorem dX12_read_235 : decode cX12_read 235 = .ok (.aload_n 0, 1) := by decide +kernel
theorem dX12_read_236 : decode cX12_read 236 = .ok (.iconst 0, 1) := by decide +kernel
theorem dX12_read_237 : decode cX12_read 237 = .ok (.invokevirtual 254, 3) := by decide +kernel
theorem dX12_read_240 : decode cX12_read 240 = .ok (.ifCond .ne 10, 3) := by decide +kernel
theorem dX12_read_250 : decode cX12_read 250 = .ok (.aload_n 0, 1) := by decide +kernel
theorem dX12_read_251 : decode cX12_read 251 = .ok (.aload_n 0, 1) := by decide +kernel
theorem dX12_read_252 : decode cX12_read 252 = .ok (.getfield 236, 3) := by decide +kernel
theorem dX12_read_255 : decode cX12_read 255 = .ok (.ifCond .le 10, 3) := by decide +kernel
theorem dX12_read_265 : decode cX12_read 265 = .ok (.aload_n 0, 1) := by decide +kernel
theorem dX12_read_266 : decode cX12_read 266 = .ok (.getfield 245, 3) := by decide +kernel
theorem dX12_read_269 : decode cX12_read 269 = .ok (.ifCond .le 10, 3) := by decide +kernel
theorem dX12_read_279 : decode cX12_read 279 = .ok (.iconst (-1), 1) := by decide +kernel
theorem dX12_read_280 : decode cX12_read 280 = .ok (.putfield 37, 3) := by decide +kernel
theorem dX12_read_283 : decode cX12_read 283 = .ok (.aload_n 0, 1) := by decide +kernel
theorem dX12_read_284 : decode cX12_read 284 = .ok (.getfield 236, 3) := by decide +kernel
theorem dX12_read_287 : decode cX12_read 287 = .ok (.ifCond .le 8, 3) := by decide +kernel
theorem dX12_read_295 : decode cX12_read 295 = .ok (.aload_n 0, 1) := by decide +kernel
theorem dX12_read_296 : decode cX12_read 296 = .ok (.getfield 245, 3) := by decide +kernel
theorem dX12_read_299 : decode cX12_read 299 = .ok (.ifCond .le 8, 3) := by decide +kernel
theorem dX12_read_307 : decode cX12_read 307 = .ok (.aload_n 0, 1) := by decide +kernel
theorem dX12_read_308 : decode cX12_read 308 = .ok (.aload_n 0, 1) := by decide +kernel
theorem dX12_read_309 : decode cX12_read 309 = .ok (.getfield 269, 3) := by decide +kernel
theorem dX12_read_312 : decode cX12_read 312 = .ok (.putfield 266, 3) := by decide +kernel
theorem dX12_read_315 : decode cX12_read 315 = .ok (.aload_n 0, 1) := by decide +kernel
theorem dX12_read_316 : decode cX12_read 316 = .ok (.invokevirtual 278, 3) := by decide +kernel
theorem dX12_read_319 : decode cX12_read 319 = .ok (.aload_n 0, 1) := by decide +kernel
theorem dX12_read_320 : decode cX12_read 320 = .ok (.iconst 0, 1) := by decide +kernel
theorem dX12_read_321 : decode cX12_read 321 = .ok (.putfield 281, 3) := by decide +kernel
theorem dX12_read_324 : decode cX12_read 324 = .ok (.aload_n 0, 1) := by decide +kernel
theorem dX12_read_325 : decode cX12_read 325 = .ok (.iconst 0, 1) := by decide +kernel
theorem dX12_read_326 : decode cX12_read 326 = .ok (.putfield 284, 3) := by decide +kernel
theorem dX12_read_329 : decode cX12_read 329 = .ok (.iconst 0, 1) := by decide +kernel
theorem dX12_read_330 : decode cX12_read 330 = .ok (.istore_n 1, 1) := by decide +kernel
theorem dX12_read_331 : decode cX12_read 331 = .ok (.iload_n 1, 1) := by decide +kernel
theorem dX12_read_332 : decode cX12_read 332 = .ok (.iconst 3, 1) := by decide +kernel
theorem dX12_read_333 : decode cX12_read 333 = .ok (.if_icmp .ge 16, 3) := by decide +kernel
theorem dX12_read_336 : decode cX12_read 336 = .ok (.aload_n 0, 1) := by decide +kernel
theorem dX12_read_337 : decode cX12_read 337 = .ok (.getfield 188, 3) := by decide +kernel
theorem dX12_read_340 : decode cX12_read 340 = .ok (.iload_n 1, 1) := by decide +kernel
theorem dX12_read_341 : decode cX12_read 341 = .ok (.iconst 0, 1) := by decide +kernel
theorem dX12_read_342 : decode cX12_read 342 = .ok (.bastore, 1) := by decide +kernel
theorem dX12_read_343 : decode cX12_read 343 = .ok (.iinc 1 1, 3) := by decide +kernel
theorem dX12_read_346 : decode cX12_read 346 = .ok (.goto (-15), 3) := by decide +kernel
theorem dX12_read_349 : decode cX12_read 349 = .ok (.iconst 0, 1) := by decide +kernel
theorem dX12_read_350 : decode cX12_read 350 = .ok (.ireturn, 1) := by decide +kernel
theorem dX12_place_0 : decode cX12_place 0 = .ok (.aload_n 0, 1) := by decide +kernel
theorem dX12_place_1 : decode cX12_place 1 = .ok (.getfield 37, 3) := by decide +kernel
theorem dX12_place_4 : decode cX12_place 4 = .ok (.ireturn, 1) := by decide +kernel
theorem dX12_begins_0 : decode cX12_begins 0 = .ok (.iconst 0, 1) := by decide +kernel
theorem dX12_begins_1 : decode cX12_begins 1 = .ok (.istore_n 1, 1) := by decide +kernel
theorem dX12_begins_2 : decode cX12_begins 2 = .ok (.iload_n 1, 1) := by decide +kernel
theorem dX12_begins_3 : decode cX12_begins 3 = .ok (.bipush 80, 2) := by decide +kernel
theorem dX12_begins_5 : decode cX12_begins 5 = .ok (.if_icmp .ge 16, 3) := by decide +kernel
theorem dX12_begins_8 : decode cX12_begins 8 = .ok (.aload_n 0, 1) := by decide +kernel
theorem dX12_begins_9 : decode cX12_begins 9 = .ok (.getfield 95, 3) := by decide +kernel
theorem dX12_begins_12 : decode cX12_begins 12 = .ok (.iload_n 1, 1) := by decide +kernel
theorem dX12_begins_13 : decode cX12_begins 13 = .ok (.iconst 0, 1) := by decide +kernel
theorem dX12_begins_14 : decode cX12_begins 14 = .ok (.iastore, 1) := by decide +kernel
theorem dX12_begins_15 : decode cX12_begins 15 = .ok (.iinc 1 1, 3) := by decide +kernel
theorem dX12_begins_18 : decode cX12_begins 18 = .ok (.goto (-16), 3) := by decide +kernel
theorem dX12_begins_21 : decode cX12_begins 21 = .ok (.iconst 0, 1) := by decide +kernel
theorem dX12_begins_22 : decode cX12_begins 22 = .ok (.istore_n 1, 1) := by decide +kernel
theorem dX12_begins_23 : decode cX12_begins 23 = .ok (.iload_n 1, 1) := by decide +kernel
theorem dX12_begins_24 : decode cX12_begins 24 = .ok (.bipush 50, 2) := by decide +kernel
theorem dX12_begins_26 : decode cX12_begins 26 = .ok (.if_icmp .ge 29, 3) := by decide +kernel
theorem dX12_begins_29 : decode cX12_begins 29 = .ok (.aload_n 0, 1) := by decide +kernel
theorem dX12_begins_30 : decode cX12_begins 30 = .ok (.getfield 95, 3) := by decide +kernel
theorem dX12_begins_33 : decode cX12_begins 33 = .ok (.iload_n 1, 1) := by decide +kernel
theorem dX12_begins_34 : decode cX12_begins 34 = .ok (.aload_n 0, 1) := by decide +kernel
theorem dX12_begins_35 : decode cX12_begins 35 = .ok (.getfield 61, 3) := by decide +kernel
theorem dX12_begins_38 : decode cX12_begins 38 = .ok (.bipush 50, 2) := by decide +kernel
theorem dX12_begins_40 : decode cX12_begins 40 = .ok (.aload_n 0, 1) := by decide +kernel
theorem dX12_begins_41 : decode cX12_begins 41 = .ok (.getfield 266, 3) := by decide +kernel
theorem dX12_begins_44 : decode cX12_begins 44 = .ok (.imul, 1) := by decide +kernel
theorem dX12_begins_45 : decode cX12_begins 45 = .ok (.iload_n 1, 1) := by decide +kernel
theorem dX12_begins_46 : decode cX12_begins 46 = .ok (.iadd, 1) := by decide +kernel
theorem dX12_begins_47 : decode cX12_begins 47 = .ok (.iaload, 1) := by decide +kernel
theorem dX12_begins_48 : decode cX12_begins 48 = .ok (.iastore, 1) := by decide +kernel
theorem dX12_begins_49 : decode cX12_begins 49 = .ok (.iinc 1 1, 3) := by decide +kernel
theorem dX12_begins_52 : decode cX12_begins 52 = .ok (.goto (-29), 3) := by decide +kernel
theorem dX12_begins_55 : decode cX12_begins 55 = .ok (.iconst 0, 1) := by decide +kernel
theorem dX12_begins_56 : decode cX12_begins 56 = .ok (.istore_n 1, 1) := by decide +kernel
theorem dX12_begins_57 : decode cX12_begins 57 = .ok (.iload_n 1, 1) := by decide +kernel
theorem dX12_begins_58 : decode cX12_begins 58 = .ok (.aload_n 0, 1) := by decide +kernel
theorem dX12_begins_59 : decode cX12_begins 59 = .ok (.getfield 74, 3) := by decide +kernel
theorem dX12_begins_62 : decode cX12_begins 62 = .ok (.aload_n 0, 1) := by decide +kernel
theorem dX12_begins_63 : decode cX12_begins 63 = .ok (.getfield 266, 3) := by decide +kernel
theorem dX12_begins_66 : decode cX12_begins 66 = .ok (.iaload, 1) := by decide +kernel
theorem dX12_begins_67 : decode cX12_begins 67 = .ok (.if_icmp .ge 37, 3) := by decide +kernel
theorem dX12_begins_104 : decode cX12_begins 104 = .ok (.return_, 1) := by decide +kernel
theorem dX12_undo_0 : decode cX12_undo 0 = .ok (.aload_n 0, 1) := by decide +kernel
theorem dX12_undo_1 : decode cX12_undo 1 = .ok (.getfield 281, 3) := by decide +kernel
theorem dX12_undo_4 : decode cX12_undo 4 = .ok (.ifCond .ne 5, 3) := by decide +kernel
theorem dX12_undo_7 : decode cX12_undo 7 = .ok (.iconst 0, 1) := by decide +kernel
theorem dX12_undo_8 : decode cX12_undo 8 = .ok (.ireturn, 1) := by decide +kernel
set_option maxRecDepth 20000 in
theorem ggX12_year_X12_in : GoodIn wsX12_year wsX12_in := goodIn_r _ [8] (by decide +kernel) (by decide +kernel)
set_option maxRecDepth 20000 in
theorem gX12_year_X12_in : GoodIn wsX12_year (va_wsS RX12 333 yX12_in wsX12_in) := goodIn_app (goodIn_of _ (by decide +kernel)) ggX12_year_X12_in
theorem dX12_year_0 : decode cX12_year 0 = .ok (.iload_n 2, 1) := by decide +kernel
theorem dX12_year_1 : decode cX12_year 1 = .ok (.iconst 1, 1) := by decide +kernel
theorem dX12_year_2 : decode cX12_year 2 = .ok (.sipush 400, 3) := by decide +kernel
theorem dX12_year_5 : decode cX12_year 5 = .ok (.invokestatic 333, 3) := by decide +kernel
theorem dX12_year_8 : decode cX12_year 8 = .ok (.ifCond .eq 12, 3) := by decide +kernel
theorem dX12_year_11 : decode cX12_year 11 = .ok (.iload_n 3, 1) := by decide +kernel
theorem dX12_year_12 : decode cX12_year 12 = .ok (.iconst 0, 1) := by decide +kernel
theorem dX12_year_13 : decode cX12_year 13 = .ok (.iconst 3, 1) := by decide +kernel
theorem dX12_year_14 : decode cX12_year 14 = .ok (.invokestatic 333, 3) := by decide +kernel
theorem dX12_year_17 : decode cX12_year 17 = .ok (.ifCond .ne 5, 3) := by decide +kernel
theorem dX12_year_20 : decode cX12_year 20 = .ok (.iconst (-1), 1) := by decide +kernel
theorem dX12_year_21 : decode cX12_year 21 = .ok (.ireturn, 1) := by decide +kernel
theorem dX12_year_22 : decode cX12_year 22 = .ok (.iconst 0, 1) := by decide +kernel
theorem dX12_year_23 : decode cX12_year 23 = .ok (.istore 4, 2) := by decide +kernel
theorem dX12_year_25 : decode cX12_year 25 = .ok (.iconst 0, 1) := by decide +kernel
theorem dX12_year_26 : decode cX12_year 26 = .ok (.istore 5, 2) := by decide +kernel
theorem dX12_year_28 : decode cX12_year 28 = .ok (.iconst 0, 1) := by decide +kernel
theorem dX12_year_29 : decode cX12_year 29 = .ok (.istore 6, 2) := by decide +kernel
theorem dX12_year_31 : decode cX12_year 31 = .ok (.iload 6, 2) := by decide +kernel
theorem dX12_year_33 : decode cX12_year 33 = .ok (.aload_n 0, 1) := by decide +kernel
theorem dX12_year_34 : decode cX12_year 34 = .ok (.getfield 74, 3) := by decide +kernel
theorem dX12_year_37 : decode cX12_year 37 = .ok (.aload_n 0, 1) := by decide +kernel
theorem dX12_year_38 : decode cX12_year 38 = .ok (.getfield 266, 3) := by decide +kernel
theorem dX12_year_41 : decode cX12_year 41 = .ok (.iaload, 1) := by decide +kernel
theorem dX12_year_42 : decode cX12_year 42 = .ok (.if_icmp .ge 35, 3) := by decide +kernel
theorem dX12_year_77 : decode cX12_year 77 = .ok (.iconst 0, 1) := by decide +kernel
theorem dX12_year_78 : decode cX12_year 78 = .ok (.istore 6, 2) := by decide +kernel
theorem dX12_year_80 : decode cX12_year 80 = .ok (.iload 6, 2) := by decide +kernel
theorem dX12_year_82 : decode cX12_year 82 = .ok (.iload_n 2, 1) := by decide +kernel
theorem dX12_year_83 : decode cX12_year 83 = .ok (.if_icmp .ge 170, 3) := by decide +kernel
theorem dX12_year_86 : decode cX12_year 86 = .ok (.iconst 0, 1) := by decide +kernel
theorem dX12_year_87 : decode cX12_year 87 = .ok (.istore 7, 2) := by decide +kernel
theorem dX12_year_89 : decode cX12_year 89 = .ok (.iload 7, 2) := by decide +kernel
theorem dX12_year_91 : decode cX12_year 91 = .ok (.aload_n 0, 1) := by decide +kernel
theorem dX12_year_92 : decode cX12_year 92 = .ok (.getfield 74, 3) := by decide +kernel
theorem dX12_year_95 : decode cX12_year 95 = .ok (.aload_n 0, 1) := by decide +kernel
theorem dX12_year_96 : decode cX12_year 96 = .ok (.getfield 266, 3) := by decide +kernel
theorem dX12_year_99 : decode cX12_year 99 = .ok (.iaload, 1) := by decide +kernel
theorem dX12_year_100 : decode cX12_year 100 = .ok (.if_icmp .ge 147, 3) := by decide +kernel
theorem dX12_year_247 : decode cX12_year 247 = .ok (.iinc 6 1, 3) := by decide +kernel
theorem dX12_year_250 : decode cX12_year 250 = .ok (.goto (-170), 3) := by decide +kernel
theorem dX12_year_253 : decode cX12_year 253 = .ok (.iload_n 3, 1) := by decide +kernel
theorem dX12_year_254 : decode cX12_year 254 = .ok (.ifCond .ne 6, 3) := by decide +kernel
theorem dX12_year_257 : decode cX12_year 257 = .ok (.iload 4, 2) := by decide +kernel
theorem dX12_year_259 : decode cX12_year 259 = .ok (.ireturn, 1) := by decide +kernel
theorem dX12_year_260 : decode cX12_year 260 = .ok (.iload_n 3, 1) := by decide +kernel
theorem dX12_year_261 : decode cX12_year 261 = .ok (.iconst 1, 1) := by decide +kernel
theorem dX12_year_262 : decode cX12_year 262 = .ok (.if_icmp .ne 6, 3) := by decide +kernel
theorem dX12_year_265 : decode cX12_year 265 = .ok (.iload 5, 2) := by decide +kernel
theorem dX12_year_267 : decode cX12_year 267 = .ok (.ireturn, 1) := by decide +kernel
theorem dX12_year_268 : decode cX12_year 268 = .ok (.iconst 0, 1) := by decide +kernel
theorem dX12_year_269 : decode cX12_year 269 = .ok (.istore 6, 2) := by decide +kernel
theorem dX12_year_271 : decode cX12_year 271 = .ok (.iconst 0, 1) := by decide +kernel
theorem dX12_year_272 : decode cX12_year 272 = .ok (.istore 7, 2) := by decide +kernel
theorem dX12_year_274 : decode cX12_year 274 = .ok (.iconst 0, 1) := by decide +kernel
theorem dX12_year_275 : decode cX12_year 275 = .ok (.istore 8, 2) := by decide +kernel
theorem dX12_year_277 : decode cX12_year 277 = .ok (.iload 8, 2) := by decide +kernel
theorem dX12_year_279 : decode cX12_year 279 = .ok (.aload_n 0, 1) := by decide +kernel
theorem dX12_year_280 : decode cX12_year 280 = .ok (.getfield 74, 3) := by decide +kernel
theorem dX12_year_283 : decode cX12_year 283 = .ok (.aload_n 0, 1) := by decide +kernel
theorem dX12_year_284 : decode cX12_year 284 = .ok (.getfield 266, 3) := by decide +kernel
theorem dX12_year_287 : decode cX12_year 287 = .ok (.iaload, 1) := by decide +kernel
theorem dX12_year_288 : decode cX12_year 288 = .ok (.if_icmp .ge 43, 3) := by decide +kernel
theorem dX12_year_331 : decode cX12_year 331 = .ok (.iload_n 3, 1) := by decide +kernel
theorem dX12_year_332 : decode cX12_year 332 = .ok (.iconst 2, 1) := by decide +kernel
theorem dX12_year_333 : decode cX12_year 333 = .ok (.if_icmp .ne 8, 3) := by decide +kernel
theorem dX12_year_336 : decode cX12_year 336 = .ok (.iload 6, 2) := by decide +kernel
theorem dX12_year_338 : decode cX12_year 338 = .ok (.goto 5, 3) := by decide +kernel
theorem dX12_year_341 : decode cX12_year 341 = .ok (.iload 7, 2) := by decide +kernel
theorem dX12_year_343 : decode cX12_year 343 = .ok (.ireturn, 1) := by decide +kernel
set_option maxRecDepth 20000 in
theorem ggX12_rest_X12_in : GoodIn wsX12_rest wsX12_in := goodIn_r _ [12] (by decide +kernel) (by decide +kernel)
set_option maxRecDepth 20000 in
theorem gX12_rest_X12_in : GoodIn wsX12_rest (va_wsS RX12 333 yX12_in wsX12_in) := goodIn_app (goodIn_of _ (by decide +kernel)) ggX12_rest_X12_in
theorem dX12_rest_0 : decode cX12_rest 0 = .ok (.iload_n 1, 1) := by decide +kernel
theorem dX12_rest_1 : decode cX12_rest 1 = .ok (.iconst 0, 1) := by decide +kernel
theorem dX12_rest_2 : decode cX12_rest 2 = .ok (.iconst 2, 1) := by decide +kernel
theorem dX12_rest_3 : decode cX12_rest 3 = .ok (.invokestatic 333, 3) := by decide +kernel
theorem dX12_rest_6 : decode cX12_rest 6 = .ok (.ifCond .ne 5, 3) := by decide +kernel
theorem dX12_rest_9 : decode cX12_rest 9 = .ok (.iconst (-1), 1) := by decide +kernel
theorem dX12_rest_10 : decode cX12_rest 10 = .ok (.ireturn, 1) := by decide +kernel
theorem dX12_rest_11 : decode cX12_rest 11 = .ok (.aload_n 0, 1) := by decide +kernel
theorem dX12_rest_12 : decode cX12_rest 12 = .ok (.getfield 86, 3) := by decide +kernel
theorem dX12_rest_15 : decode cX12_rest 15 = .ok (.aload_n 0, 1) := by decide +kernel
theorem dX12_rest_16 : decode cX12_rest 16 = .ok (.getfield 266, 3) := by decide +kernel
theorem dX12_rest_19 : decode cX12_rest 19 = .ok (.iaload, 1) := by decide +kernel
theorem dX12_rest_20 : decode cX12_rest 20 = .ok (.istore_n 2, 1) := by decide +kernel
theorem dX12_rest_21 : decode cX12_rest 21 = .ok (.iconst 0, 1) := by decide +kernel
theorem dX12_rest_22 : decode cX12_rest 22 = .ok (.istore_n 3, 1) := by decide +kernel
theorem dX12_rest_23 : decode cX12_rest 23 = .ok (.iconst 0, 1) := by decide +kernel
theorem dX12_rest_24 : decode cX12_rest 24 = .ok (.istore 4, 2) := by decide +kernel
theorem dX12_rest_26 : decode cX12_rest 26 = .ok (.iconst 0, 1) := by decide +kernel
theorem dX12_rest_27 : decode cX12_rest 27 = .ok (.istore 5, 2) := by decide +kernel
theorem dX12_rest_29 : decode cX12_rest 29 = .ok (.iload 5, 2) := by decide +kernel
theorem dX12_rest_31 : decode cX12_rest 31 = .ok (.aload_n 0, 1) := by decide +kernel
theorem dX12_rest_32 : decode cX12_rest 32 = .ok (.getfield 74, 3) := by decide +kernel
theorem dX12_rest_35 : decode cX12_rest 35 = .ok (.aload_n 0, 1) := by decide +kernel
theorem dX12_rest_36 : decode cX12_rest 36 = .ok (.getfield 266, 3) := by decide +kernel
theorem dX12_rest_39 : decode cX12_rest 39 = .ok (.iaload, 1) := by decide +kernel
theorem dX12_rest_40 : decode cX12_rest 40 = .ok (.if_icmp .ge 22, 3) := by decide +kernel
theorem dX12_rest_62 : decode cX12_rest 62 = .ok (.iconst 0, 1) := by decide +kernel
theorem dX12_rest_63 : decode cX12_rest 63 = .ok (.istore 5, 2) := by decide +kernel
theorem dX12_rest_65 : decode cX12_rest 65 = .ok (.iload 5, 2) := by decide +kernel
theorem dX12_rest_67 : decode cX12_rest 67 = .ok (.iload_n 2, 1) := by decide +kernel
theorem dX12_rest_68 : decode cX12_rest 68 = .ok (.if_icmp .ge 53, 3) := by decide +kernel
theorem dX12_rest_121 : decode cX12_rest 121 = .ok (.iconst 0, 1) := by decide +kernel
theorem dX12_rest_122 : decode cX12_rest 122 = .ok (.istore 5, 2) := by decide +kernel
theorem dX12_rest_124 : decode cX12_rest 124 = .ok (.iload 5, 2) := by decide +kernel
theorem dX12_rest_126 : decode cX12_rest 126 = .ok (.iload_n 2, 1) := by decide +kernel
theorem dX12_rest_127 : decode cX12_rest 127 = .ok (.if_icmp .ge 157, 3) := by decide +kernel
theorem dX12_rest_284 : decode cX12_rest 284 = .ok (.iload_n 1, 1) := by decide +kernel
theorem dX12_rest_285 : decode cX12_rest 285 = .ok (.ifCond .ne 5, 3) := by decide +kernel
theorem dX12_rest_288 : decode cX12_rest 288 = .ok (.iload_n 3, 1) := by decide +kernel
theorem dX12_rest_289 : decode cX12_rest 289 = .ok (.ireturn, 1) := by decide +kernel
theorem dX12_rest_290 : decode cX12_rest 290 = .ok (.iload_n 1, 1) := by decide +kernel
theorem dX12_rest_291 : decode cX12_rest 291 = .ok (.iconst 1, 1) := by decide +kernel
theorem dX12_rest_292 : decode cX12_rest 292 = .ok (.if_icmp .ne 6, 3) := by decide +kernel
theorem dX12_rest_295 : decode cX12_rest 295 = .ok (.iload 4, 2) := by decide +kernel
theorem dX12_rest_297 : decode cX12_rest 297 = .ok (.ireturn, 1) := by decide +kernel
theorem dX12_rest_298 : decode cX12_rest 298 = .ok (.iconst 0, 1) := by decide +kernel
theorem dX12_rest_299 : decode cX12_rest 299 = .ok (.istore 5, 2) := by decide +kernel
theorem dX12_rest_301 : decode cX12_rest 301 = .ok (.iconst 0, 1) := by decide +kernel
theorem dX12_rest_302 : decode cX12_rest 302 = .ok (.istore 6, 2) := by decide +kernel
theorem dX12_rest_304 : decode cX12_rest 304 = .ok (.iload 6, 2) := by decide +kernel
theorem dX12_rest_306 : decode cX12_rest 306 = .ok (.aload_n 0, 1) := by decide +kernel
theorem dX12_rest_307 : decode cX12_rest 307 = .ok (.getfield 74, 3) := by decide +kernel
theorem dX12_rest_310 : decode cX12_rest 310 = .ok (.aload_n 0, 1) := by decide +kernel
theorem dX12_rest_311 : decode cX12_rest 311 = .ok (.getfield 266, 3) := by decide +kernel
theorem dX12_rest_314 : decode cX12_rest 314 = .ok (.iaload, 1) := by decide +kernel
theorem dX12_rest_315 : decode cX12_rest 315 = .ok (.if_icmp .ge 24, 3) := by decide +kernel
theorem dX12_rest_339 : decode cX12_rest 339 = .ok (.iload 5, 2) := by decide +kernel
theorem dX12_rest_341 : decode cX12_rest 341 = .ok (.ireturn, 1) := by decide +kernel
set_option maxRecDepth 20000 in
theorem ggX12_see_X12_isHouse : GoodIn wsX12_see wsX12_isHouse := goodIn_r _ [9, 10, 11, 12, 13, 8, 14, 20, 21, 22, 23, 24, 25, 26, 27, 28, 29, 30, 31, 32, 33, 34, 35, 36, 37, 38, 39, 40, 41, 42, 43, 44, 45, 46, 47, 48, 49, 50, 51, 52, 53, 54, 55, 56, 57, 58, 59, 60, 61, 62, 63, 64, 65, 66, 67, 68, 69, 70, 71, 72, 73, 74, 75, 76, 77, 78, 79, 80, 81, 82, 83, 84, 85, 86, 87, 88, 89, 90, 91, 92, 93, 94, 95, 96, 97, 98, 99, 100, 101, 102, 103, 104, 105, 106, 107, 108, 109] (by decide +kernel) (by decide +kernel)
set_option maxRecDepth 20000 in
theorem gX12_see_X12_isHouse : GoodIn wsX12_see (wsV RX12 347 RX12 yX12_isHouse wsX12_isHouse) := goodIn_app (goodIn_of _ (by decide +kernel)) ggX12_see_X12_isHouse
theorem dX12_see_0 : decode cX12_see 0 = .ok (.aload_n 0, 1) := by decide +kernel
theorem dX12_see_1 : decode cX12_see 1 = .ok (.getfield 284, 3) := by decide +kernel
theorem dX12_see_4 : decode cX12_see 4 = .ok (.bipush 30, 2) := by decide +kernel
theorem dX12_see_6 : decode cX12_see 6 = .ok (.if_icmp .eq 29, 3) := by decide +kernel
theorem dX12_see_9 : decode cX12_see 9 = .ok (.aload_n 0, 1) := by decide +kernel
theorem dX12_see_10 : decode cX12_see 10 = .ok (.iload_n 1, 1) := by decide +kernel
theorem dX12_see_11 : decode cX12_see 11 = .ok (.invokevirtual 347, 3) := by decide +kernel
theorem dX12_see_14 : decode cX12_see 14 = .ok (.ifCond .eq 21, 3) := by decide +kernel
theorem dX12_see_35 : decode cX12_see 35 = .ok (.iconst (-1), 1) := by decide +kernel
theorem dX12_see_36 : decode cX12_see 36 = .ok (.ireturn, 1) := by decide +kernel
theorem dX12_forget_0 : decode cX12_forget 0 = .ok (.aload_n 0, 1) := by decide +kernel
theorem dX12_forget_1 : decode cX12_forget 1 = .ok (.getfield 284, 3) := by decide +kernel
theorem dX12_forget_4 : decode cX12_forget 4 = .ok (.istore_n 1, 1) := by decide +kernel
theorem dX12_forget_5 : decode cX12_forget 5 = .ok (.aload_n 0, 1) := by decide +kernel
theorem dX12_forget_6 : decode cX12_forget 6 = .ok (.iconst 0, 1) := by decide +kernel
theorem dX12_forget_7 : decode cX12_forget 7 = .ok (.putfield 284, 3) := by decide +kernel
theorem dX12_forget_10 : decode cX12_forget 10 = .ok (.iload_n 1, 1) := by decide +kernel
theorem dX12_forget_11 : decode cX12_forget 11 = .ok (.ireturn, 1) := by decide +kernel
theorem dX12_knows_0 : decode cX12_knows 0 = .ok (.iconst 0, 1) := by decide +kernel
theorem dX12_knows_1 : decode cX12_knows 1 = .ok (.istore_n 3, 1) := by decide +kernel
theorem dX12_knows_2 : decode cX12_knows 2 = .ok (.iload_n 3, 1) := by decide +kernel
theorem dX12_knows_3 : decode cX12_knows 3 = .ok (.bipush 50, 2) := by decide +kernel
theorem dX12_knows_5 : decode cX12_knows 5 = .ok (.if_icmp .ge 16, 3) := by decide +kernel
theorem dX12_knows_8 : decode cX12_knows 8 = .ok (.aload_n 0, 1) := by decide +kernel
theorem dX12_knows_9 : decode cX12_knows 9 = .ok (.getfield 164, 3) := by decide +kernel
theorem dX12_knows_12 : decode cX12_knows 12 = .ok (.iload_n 3, 1) := by decide +kernel
theorem dX12_knows_13 : decode cX12_knows 13 = .ok (.iconst (-1), 1) := by decide +kernel
theorem dX12_knows_14 : decode cX12_knows 14 = .ok (.iastore, 1) := by decide +kernel
theorem dX12_knows_15 : decode cX12_knows 15 = .ok (.iinc 3 1, 3) := by decide +kernel
theorem dX12_knows_18 : decode cX12_knows 18 = .ok (.goto (-16), 3) := by decide +kernel
theorem dX12_knows_21 : decode cX12_knows 21 = .ok (.iconst 0, 1) := by decide +kernel
theorem dX12_knows_22 : decode cX12_knows 22 = .ok (.istore_n 3, 1) := by decide +kernel
theorem dX12_knows_23 : decode cX12_knows 23 = .ok (.iload_n 3, 1) := by decide +kernel
theorem dX12_knows_24 : decode cX12_knows 24 = .ok (.iload_n 1, 1) := by decide +kernel
theorem dX12_knows_25 : decode cX12_knows 25 = .ok (.if_icmp .ge 35, 3) := by decide +kernel
theorem dX12_knows_60 : decode cX12_knows 60 = .ok (.aload_n 0, 1) := by decide +kernel
theorem dX12_knows_61 : decode cX12_knows 61 = .ok (.iconst 0, 1) := by decide +kernel
theorem dX12_knows_62 : decode cX12_knows 62 = .ok (.putfield 522, 3) := by decide +kernel
theorem dX12_knows_65 : decode cX12_knows 65 = .ok (.aload_n 0, 1) := by decide +kernel
theorem dX12_knows_66 : decode cX12_knows 66 = .ok (.iconst 0, 1) := by decide +kernel
theorem dX12_knows_67 : decode cX12_knows 67 = .ok (.putfield 525, 3) := by decide +kernel
theorem dX12_knows_70 : decode cX12_knows 70 = .ok (.iconst 0, 1) := by decide +kernel
theorem dX12_knows_71 : decode cX12_knows 71 = .ok (.istore_n 3, 1) := by decide +kernel
theorem dX12_knows_72 : decode cX12_knows 72 = .ok (.iload_n 3, 1) := by decide +kernel
theorem dX12_knows_73 : decode cX12_knows 73 = .ok (.bipush 50, 2) := by decide +kernel
theorem dX12_knows_75 : decode cX12_knows 75 = .ok (.if_icmp .ge 66, 3) := by decide +kernel
theorem dX12_knows_78 : decode cX12_knows 78 = .ok (.aload_n 0, 1) := by decide +kernel
theorem dX12_knows_79 : decode cX12_knows 79 = .ok (.getfield 164, 3) := by decide +kernel
theorem dX12_knows_82 : decode cX12_knows 82 = .ok (.iload_n 3, 1) := by decide +kernel
theorem dX12_knows_83 : decode cX12_knows 83 = .ok (.iaload, 1) := by decide +kernel
theorem dX12_knows_84 : decode cX12_knows 84 = .ok (.iconst 1, 1) := by decide +kernel
theorem dX12_knows_85 : decode cX12_knows 85 = .ok (.if_icmp .ge 6, 3) := by decide +kernel
theorem dX12_knows_88 : decode cX12_knows 88 = .ok (.goto 47, 3) := by decide +kernel
theorem dX12_knows_135 : decode cX12_knows 135 = .ok (.iinc 3 1, 3) := by decide +kernel
theorem dX12_knows_138 : decode cX12_knows 138 = .ok (.goto (-66), 3) := by decide +kernel
theorem dX12_knows_141 : decode cX12_knows 141 = .ok (.iconst 0, 1) := by decide +kernel
theorem dX12_knows_142 : decode cX12_knows 142 = .ok (.istore_n 3, 1) := by decide +kernel
theorem dX12_knows_143 : decode cX12_knows 143 = .ok (.iload_n 3, 1) := by decide +kernel
theorem dX12_knows_144 : decode cX12_knows 144 = .ok (.aload_n 0, 1) := by decide +kernel
theorem dX12_knows_145 : decode cX12_knows 145 = .ok (.getfield 74, 3) := by decide +kernel
theorem dX12_knows_148 : decode cX12_knows 148 = .ok (.aload_n 0, 1) := by decide +kernel
theorem dX12_knows_149 : decode cX12_knows 149 = .ok (.getfield 266, 3) := by decide +kernel
theorem dX12_knows_152 : decode cX12_knows 152 = .ok (.iaload, 1) := by decide +kernel
theorem dX12_knows_153 : decode cX12_knows 153 = .ok (.if_icmp .ge 204, 3) := by decide +kernel
theorem dX12_knows_357 : decode cX12_knows 357 = .ok (.return_, 1) := by decide +kernel
set_option maxRecDepth 20000 in
theorem ggX12_counts_X12_knows : GoodIn wsX12_counts wsX12_knows := goodIn_r _ [12, 13, 14, 15, 16, 7, 4, 17, 5, 6, 18, 19, 20, 21, 22, 23, 24, 11, 25, 26, 27, 28, 29, 30, 31, 32, 33, 34, 35, 36, 37, 38, 39, 40, 41, 42, 43, 44, 45, 46, 47, 48, 49, 50, 60, 61, 62, 63, 64, 65, 66, 67, 68, 69, 70, 71, 72, 73, 74, 75, 76, 77, 78, 79, 80, 81, 82, 83, 84, 85, 86, 87, 88, 89, 90, 91, 92, 93, 94, 95, 96, 97, 98, 99, 100, 101, 102, 103, 104, 105, 106, 107, 108, 109, 110, 111, 112, 113, 114, 115, 116, 117, 118, 119, 120, 121, 122, 123, 124, 125, 126, 127, 128, 129, 130, 131, 132, 133, 134, 135, 136, 137, 138, 139, 140, 141, 142, 143, 144, 145, 146, 147, 148, 149] (by decide +kernel) (by decide +kernel)
set_option maxRecDepth 20000 in
theorem gX12_counts_X12_knows : GoodIn wsX12_counts (wsV RX12 528 RX12 yX12_knows wsX12_knows) := goodIn_app (goodIn_of _ (by decide +kernel)) ggX12_counts_X12_knows
set_option maxRecDepth 20000 in
theorem ggX12_counts_X12_isAllMet : GoodIn wsX12_counts wsX12_isAllMet := goodIn_r _ [54, 55, 5, 6, 3, 20, 7, 13, 17, 60, 61, 62, 63, 64, 65, 66, 67, 68, 69, 70, 71, 72, 73, 74, 75, 76, 77, 78, 79, 80, 81, 82, 83, 84, 85, 86, 87, 88, 89, 90, 91, 92, 93, 94, 95, 96, 97, 98, 99, 100, 101, 102, 103, 104, 105, 106, 107, 108, 109, 110, 111, 112, 113, 114, 115, 116, 117, 118, 119, 120, 121, 122, 123, 124, 125, 126, 127, 128, 129, 130, 131, 132, 133, 134, 135, 136, 137, 138, 139, 140, 141, 142, 143, 144, 145, 146, 147, 148, 149] (by decide +kernel) (by decide +kernel)
set_option maxRecDepth 20000 in
theorem gX12_counts_X12_isAllMet : GoodIn wsX12_counts (wsV RX12 535 RX12 yX12_isAllMet wsX12_isAllMet) := goodIn_app (goodIn_of _ (by decide +kernel)) ggX12_counts_X12_isAllMet
set_option maxRecDepth 20000 in
theorem ggX12_counts_X12_adds : GoodIn wsX12_counts wsX12_adds := goodIn_r _ [59, 5, 6, 3, 18, 1, 2, 19, 17, 60, 61, 62, 63, 64, 65, 66, 67, 68, 69, 70, 71, 72, 73, 74, 75, 76, 77, 78, 79, 80, 81, 82, 83, 84, 85, 86, 87, 88, 89, 90, 91, 92, 93, 94, 95, 96, 97, 98, 99, 100, 101, 102, 103, 104, 105, 106, 107, 108, 109, 110, 111, 112, 113, 114, 115, 116, 117, 118, 119, 120, 121, 122, 123, 124, 125, 126, 127, 128, 129, 130, 131, 132, 133, 134, 135, 136, 137, 138, 139, 140, 141, 142, 143, 144, 145, 146, 147, 148, 149] (by decide +kernel) (by decide +kernel)
set_option maxRecDepth 20000 in
theorem gX12_counts_X12_adds : GoodIn wsX12_counts (wsV RX12 538 RX12 yX12_adds wsX12_adds) := goodIn_app (goodIn_of _ (by decide +kernel)) ggX12_counts_X12_adds
theorem dX12_counts_0 : decode cX12_counts 0 = .ok (.aload_n 0, 1) := by decide +kernel
theorem dX12_counts_1 : decode cX12_counts 1 = .ok (.iload_n 1, 1) := by decide +kernel
theorem dX12_counts_2 : decode cX12_counts 2 = .ok (.iload_n 2, 1) := by decide +kernel
theorem dX12_counts_3 : decode cX12_counts 3 = .ok (.invokevirtual 528, 3) := by decide +kernel
theorem dX12_counts_6 : decode cX12_counts 6 = .ok (.aload_n 0, 1) := by decide +kernel
theorem dX12_counts_7 : decode cX12_counts 7 = .ok (.lconst 0, 1) := by decide +kernel
theorem dX12_counts_8 : decode cX12_counts 8 = .ok (.putfield 531, 3) := by decide +kernel
theorem dX12_counts_11 : decode cX12_counts 11 = .ok (.iconst 0, 1) := by decide +kernel
theorem dX12_counts_12 : decode cX12_counts 12 = .ok (.istore_n 3, 1) := by decide +kernel
theorem dX12_counts_13 : decode cX12_counts 13 = .ok (.iload_n 3, 1) := by decide +kernel
theorem dX12_counts_14 : decode cX12_counts 14 = .ok (.bipush 6, 2) := by decide +kernel
theorem dX12_counts_16 : decode cX12_counts 16 = .ok (.if_icmp .ge 23, 3) := by decide +kernel
theorem dX12_counts_19 : decode cX12_counts 19 = .ok (.aload_n 0, 1) := by decide +kernel
theorem dX12_counts_20 : decode cX12_counts 20 = .ok (.getfield 182, 3) := by decide +kernel
theorem dX12_counts_23 : decode cX12_counts 23 = .ok (.iload_n 3, 1) := by decide +kernel
theorem dX12_counts_24 : decode cX12_counts 24 = .ok (.lconst 0, 1) := by decide +kernel
theorem dX12_counts_25 : decode cX12_counts 25 = .ok (.lastore, 1) := by decide +kernel
theorem dX12_counts_26 : decode cX12_counts 26 = .ok (.aload_n 0, 1) := by decide +kernel
theorem dX12_counts_27 : decode cX12_counts 27 = .ok (.getfield 179, 3) := by decide +kernel
theorem dX12_counts_30 : decode cX12_counts 30 = .ok (.iload_n 3, 1) := by decide +kernel
theorem dX12_counts_31 : decode cX12_counts 31 = .ok (.iconst 0, 1) := by decide +kernel
theorem dX12_counts_32 : decode cX12_counts 32 = .ok (.iastore, 1) := by decide +kernel
theorem dX12_counts_33 : decode cX12_counts 33 = .ok (.iinc 3 1, 3) := by decide +kernel
theorem dX12_counts_36 : decode cX12_counts 36 = .ok (.goto (-23), 3) := by decide +kernel
theorem dX12_counts_39 : decode cX12_counts 39 = .ok (.aload_n 0, 1) := by decide +kernel
theorem dX12_counts_40 : decode cX12_counts 40 = .ok (.getfield 525, 3) := by decide +kernel
theorem dX12_counts_43 : decode cX12_counts 43 = .ok (.aload_n 0, 1) := by decide +kernel
theorem dX12_counts_44 : decode cX12_counts 44 = .ok (.getfield 74, 3) := by decide +kernel
theorem dX12_counts_47 : decode cX12_counts 47 = .ok (.aload_n 0, 1) := by decide +kernel
theorem dX12_counts_48 : decode cX12_counts 48 = .ok (.getfield 266, 3) := by decide +kernel
theorem dX12_counts_51 : decode cX12_counts 51 = .ok (.iaload, 1) := by decide +kernel
theorem dX12_counts_52 : decode cX12_counts 52 = .ok (.if_icmp .le 4, 3) := by decide +kernel
theorem dX12_counts_56 : decode cX12_counts 56 = .ok (.iconst 1, 1) := by decide +kernel
theorem dX12_counts_57 : decode cX12_counts 57 = .ok (.istore_n 3, 1) := by decide +kernel
theorem dX12_counts_58 : decode cX12_counts 58 = .ok (.iload_n 3, 1) := by decide +kernel
theorem dX12_counts_59 : decode cX12_counts 59 = .ok (.ifCond .eq 98, 3) := by decide +kernel
theorem dX12_counts_62 : decode cX12_counts 62 = .ok (.aload_n 0, 1) := by decide +kernel
theorem dX12_counts_63 : decode cX12_counts 63 = .ok (.invokevirtual 535, 3) := by decide +kernel
theorem dX12_counts_66 : decode cX12_counts 66 = .ok (.ifCond .eq 8, 3) := by decide +kernel
theorem dX12_counts_69 : decode cX12_counts 69 = .ok (.aload_n 0, 1) := by decide +kernel
theorem dX12_counts_70 : decode cX12_counts 70 = .ok (.iload_n 2, 1) := by decide +kernel
theorem dX12_counts_71 : decode cX12_counts 71 = .ok (.invokevirtual 538, 3) := by decide +kernel
theorem dX12_counts_74 : decode cX12_counts 74 = .ok (.iconst 0, 1) := by decide +kernel
theorem dX12_counts_75 : decode cX12_counts 75 = .ok (.istore 4, 2) := by decide +kernel
theorem dX12_counts_77 : decode cX12_counts 77 = .ok (.iload 4, 2) := by decide +kernel
theorem dX12_counts_79 : decode cX12_counts 79 = .ok (.aload_n 0, 1) := by decide +kernel
theorem dX12_counts_80 : decode cX12_counts 80 = .ok (.getfield 74, 3) := by decide +kernel
theorem dX12_counts_83 : decode cX12_counts 83 = .ok (.aload_n 0, 1) := by decide +kernel
theorem dX12_counts_84 : decode cX12_counts 84 = .ok (.getfield 266, 3) := by decide +kernel
theorem dX12_counts_87 : decode cX12_counts 87 = .ok (.iaload, 1) := by decide +kernel
theorem dX12_counts_88 : decode cX12_counts 88 = .ok (.if_icmp .ge 31, 3) := by decide +kernel
theorem dX12_counts_119 : decode cX12_counts 119 = .ok (.iload 4, 2) := by decide +kernel
theorem dX12_counts_121 : decode cX12_counts 121 = .ok (.aload_n 0, 1) := by decide +kernel
theorem dX12_counts_122 : decode cX12_counts 122 = .ok (.getfield 74, 3) := by decide +kernel
theorem dX12_counts_125 : decode cX12_counts 125 = .ok (.aload_n 0, 1) := by decide +kernel
theorem dX12_counts_126 : decode cX12_counts 126 = .ok (.getfield 266, 3) := by decide +kernel
theorem dX12_counts_129 : decode cX12_counts 129 = .ok (.iaload, 1) := by decide +kernel
theorem dX12_counts_130 : decode cX12_counts 130 = .ok (.if_icmp .ge 7, 3) := by decide +kernel
theorem dX12_counts_137 : decode cX12_counts 137 = .ok (.iconst 0, 1) := by decide +kernel
theorem dX12_counts_138 : decode cX12_counts 138 = .ok (.istore_n 3, 1) := by decide +kernel
theorem dX12_counts_139 : decode cX12_counts 139 = .ok (.iload_n 3, 1) := by decide +kernel
theorem dX12_counts_140 : decode cX12_counts 140 = .ok (.ifCond .eq 14, 3) := by decide +kernel
theorem dX12_counts_154 : decode cX12_counts 154 = .ok (.goto (-96), 3) := by decide +kernel
theorem dX12_counts_157 : decode cX12_counts 157 = .ok (.return_, 1) := by decide +kernel
theorem dX12_isAllMet_0 : decode cX12_isAllMet 0 = .ok (.iconst 0, 1) := by decide +kernel
theorem dX12_isAllMet_1 : decode cX12_isAllMet 1 = .ok (.istore_n 1, 1) := by decide +kernel
theorem dX12_isAllMet_2 : decode cX12_isAllMet 2 = .ok (.iload_n 1, 1) := by decide +kernel
theorem dX12_isAllMet_3 : decode cX12_isAllMet 3 = .ok (.bipush 8, 2) := by decide +kernel
theorem dX12_isAllMet_5 : decode cX12_isAllMet 5 = .ok (.if_icmp .ge 16, 3) := by decide +kernel
theorem dX12_isAllMet_8 : decode cX12_isAllMet 8 = .ok (.aload_n 0, 1) := by decide +kernel
theorem dX12_isAllMet_9 : decode cX12_isAllMet 9 = .ok (.getfield 185, 3) := by decide +kernel
theorem dX12_isAllMet_12 : decode cX12_isAllMet 12 = .ok (.iload_n 1, 1) := by decide +kernel
theorem dX12_isAllMet_13 : decode cX12_isAllMet 13 = .ok (.iconst 0, 1) := by decide +kernel
theorem dX12_isAllMet_14 : decode cX12_isAllMet 14 = .ok (.iastore, 1) := by decide +kernel
theorem dX12_isAllMet_15 : decode cX12_isAllMet 15 = .ok (.iinc 1 1, 3) := by decide +kernel
theorem dX12_isAllMet_18 : decode cX12_isAllMet 18 = .ok (.goto (-16), 3) := by decide +kernel
theorem dX12_isAllMet_21 : decode cX12_isAllMet 21 = .ok (.iconst 0, 1) := by decide +kernel
theorem dX12_isAllMet_22 : decode cX12_isAllMet 22 = .ok (.istore_n 1, 1) := by decide +kernel
theorem dX12_isAllMet_23 : decode cX12_isAllMet 23 = .ok (.iload_n 1, 1) := by decide +kernel
theorem dX12_isAllMet_24 : decode cX12_isAllMet 24 = .ok (.aload_n 0, 1) := by decide +kernel
theorem dX12_isAllMet_25 : decode cX12_isAllMet 25 = .ok (.getfield 74, 3) := by decide +kernel
theorem dX12_isAllMet_28 : decode cX12_isAllMet 28 = .ok (.aload_n 0, 1) := by decide +kernel
theorem dX12_isAllMet_29 : decode cX12_isAllMet 29 = .ok (.getfield 266, 3) := by decide +kernel
theorem dX12_isAllMet_32 : decode cX12_isAllMet 32 = .ok (.iaload, 1) := by decide +kernel
theorem dX12_isAllMet_33 : decode cX12_isAllMet 33 = .ok (.if_icmp .ge 61, 3) := by decide +kernel
theorem dX12_isAllMet_94 : decode cX12_isAllMet 94 = .ok (.iconst 0, 1) := by decide +kernel
theorem dX12_isAllMet_95 : decode cX12_isAllMet 95 = .ok (.istore_n 1, 1) := by decide +kernel
theorem dX12_isAllMet_96 : decode cX12_isAllMet 96 = .ok (.iload_n 1, 1) := by decide +kernel
theorem dX12_isAllMet_97 : decode cX12_isAllMet 97 = .ok (.aload_n 0, 1) := by decide +kernel
theorem dX12_isAllMet_98 : decode cX12_isAllMet 98 = .ok (.getfield 522, 3) := by decide +kernel
theorem dX12_isAllMet_101 : decode cX12_isAllMet 101 = .ok (.if_icmp .ge 31, 3) := by decide +kernel
theorem dX12_isAllMet_132 : decode cX12_isAllMet 132 = .ok (.iconst 1, 1) := by decide +kernel
theorem dX12_isAllMet_133 : decode cX12_isAllMet 133 = .ok (.ireturn, 1) := by decide +kernel
theorem dX12_adds_0 : decode cX12_adds 0 = .ok (.lconst 1, 1) := by decide +kernel
theorem dX12_adds_1 : decode cX12_adds 1 = .ok (.lstore_n 2, 1) := by decide +kernel
theorem dX12_adds_2 : decode cX12_adds 2 = .ok (.iconst 0, 1) := by decide +kernel
theorem dX12_adds_3 : decode cX12_adds 3 = .ok (.istore 4, 2) := by decide +kernel
theorem dX12_adds_5 : decode cX12_adds 5 = .ok (.iload 4, 2) := by decide +kernel
theorem dX12_adds_7 : decode cX12_adds 7 = .ok (.aload_n 0, 1) := by decide +kernel
theorem dX12_adds_8 : decode cX12_adds 8 = .ok (.getfield 74, 3) := by decide +kernel
theorem dX12_adds_11 : decode cX12_adds 11 = .ok (.aload_n 0, 1) := by decide +kernel
theorem dX12_adds_12 : decode cX12_adds 12 = .ok (.getfield 266, 3) := by decide +kernel
theorem dX12_adds_15 : decode cX12_adds 15 = .ok (.iaload, 1) := by decide +kernel
theorem dX12_adds_16 : decode cX12_adds 16 = .ok (.if_icmp .ge 29, 3) := by decide +kernel
theorem dX12_adds_45 : decode cX12_adds 45 = .ok (.aload_n 0, 1) := by decide +kernel
theorem dX12_adds_46 : decode cX12_adds 46 = .ok (.dup, 1) := by decide +kernel
theorem dX12_adds_47 : decode cX12_adds 47 = .ok (.getfield 531, 3) := by decide +kernel
theorem dX12_adds_50 : decode cX12_adds 50 = .ok (.lload_n 2, 1) := by decide +kernel
theorem dX12_adds_51 : decode cX12_adds 51 = .ok (.ladd, 1) := by decide +kernel
theorem dX12_adds_52 : decode cX12_adds 52 = .ok (.putfield 531, 3) := by decide +kernel
theorem dX12_adds_55 : decode cX12_adds 55 = .ok (.iconst 0, 1) := by decide +kernel
theorem dX12_adds_56 : decode cX12_adds 56 = .ok (.istore 4, 2) := by decide +kernel
theorem dX12_adds_58 : decode cX12_adds 58 = .ok (.iload 4, 2) := by decide +kernel
theorem dX12_adds_60 : decode cX12_adds 60 = .ok (.aload_n 0, 1) := by decide +kernel
theorem dX12_adds_61 : decode cX12_adds 61 = .ok (.getfield 74, 3) := by decide +kernel
theorem dX12_adds_64 : decode cX12_adds 64 = .ok (.aload_n 0, 1) := by decide +kernel
theorem dX12_adds_65 : decode cX12_adds 65 = .ok (.getfield 266, 3) := by decide +kernel
theorem dX12_adds_68 : decode cX12_adds 68 = .ok (.iaload, 1) := by decide +kernel
theorem dX12_adds_69 : decode cX12_adds 69 = .ok (.if_icmp .ge 80, 3) := by decide +kernel
theorem dX12_adds_149 : decode cX12_adds 149 = .ok (.return_, 1) := by decide +kernel
set_option maxRecDepth 20000 in
theorem ggX12_fits_X12_in : GoodIn wsX12_fits wsX12_in := goodIn_r _ [7] (by decide +kernel) (by decide +kernel)
set_option maxRecDepth 20000 in
theorem gX12_fits_X12_in : GoodIn wsX12_fits (va_wsS RX12 333 yX12_in wsX12_in) := goodIn_app (goodIn_of _ (by decide +kernel)) ggX12_fits_X12_in
set_option maxRecDepth 20000 in
theorem ggX12_fits_X12_counts : GoodIn wsX12_fits wsX12_counts := goodIn_r _ [11, 3, 12, 13, 14, 15, 16, 17, 18, 19, 20, 6, 21, 22, 23, 24, 25, 26, 27, 28, 29, 30, 31, 32, 33, 34, 35, 36, 37, 38, 39, 40, 41, 42, 43, 44, 45, 46, 47, 48, 49, 50, 51, 52, 53, 54, 55, 56, 57, 58, 59, 60, 61, 62, 63, 64, 65, 66, 67, 68, 69, 70, 71, 72, 73, 74, 75, 76, 77, 78, 79, 80, 81, 82, 83, 84, 85, 86, 87, 88, 89, 90, 91, 92, 93, 94, 95, 96, 97, 98, 99, 100, 101, 102, 103, 104, 105, 106, 107, 108, 109, 110, 111, 112, 113, 114, 115, 116, 117, 118, 119, 120, 121, 122, 123, 124, 125, 126, 127, 128, 129, 130, 131, 132, 133, 134, 135, 136, 137, 138, 139, 140, 141, 142, 143, 144, 145, 146, 147, 148, 149, 150, 151, 152, 153, 154, 155, 156, 157, 158] (by decide +kernel) (by decide +kernel)
set_option maxRecDepth 20000 in
theorem gX12_fits_X12_counts : GoodIn wsX12_fits (wsV RX12 543 RX12 yX12_counts wsX12_counts) := goodIn_app (goodIn_of _ (by decide +kernel)) ggX12_fits_X12_counts
theorem dX12_fits_0 : decode cX12_fits 0 = .ok (.iload_n 1, 1) := by decide +kernel
theorem dX12_fits_1 : decode cX12_fits 1 = .ok (.iconst 0, 1) := by decide +kernel
theorem dX12_fits_2 : decode cX12_fits 2 = .ok (.aload_n 0, 1) := by decide +kernel
theorem dX12_fits_3 : decode cX12_fits 3 = .ok (.getfield 284, 3) := by decide +kernel
theorem dX12_fits_6 : decode cX12_fits 6 = .ok (.invokestatic 333, 3) := by decide +kernel
theorem dX12_fits_9 : decode cX12_fits 9 = .ok (.ifCond .ne 7, 3) := by decide +kernel
theorem dX12_fits_12 : decode cX12_fits 12 = .ok (.ldc2_w 541, 3) := by decide +kernel
theorem dX12_fits_15 : decode cX12_fits 15 = .ok (.lreturn, 1) := by decide +kernel
theorem dX12_fits_16 : decode cX12_fits 16 = .ok (.aload_n 0, 1) := by decide +kernel
theorem dX12_fits_17 : decode cX12_fits 17 = .ok (.iload_n 1, 1) := by decide +kernel
theorem dX12_fits_18 : decode cX12_fits 18 = .ok (.iconst 0, 1) := by decide +kernel
theorem dX12_fits_19 : decode cX12_fits 19 = .ok (.invokevirtual 543, 3) := by decide +kernel
theorem dX12_fits_22 : decode cX12_fits 22 = .ok (.aload_n 0, 1) := by decide +kernel
theorem dX12_fits_23 : decode cX12_fits 23 = .ok (.getfield 531, 3) := by decide +kernel
theorem dX12_fits_26 : decode cX12_fits 26 = .ok (.lreturn, 1) := by decide +kernel
set_option maxRecDepth 20000 in
theorem ggX12_hold_X12_in : GoodIn wsX12_hold wsX12_in := goodIn_r _ [7] (by decide +kernel) (by decide +kernel)
set_option maxRecDepth 20000 in
theorem gX12_hold_X12_in : GoodIn wsX12_hold (va_wsS RX12 333 yX12_in wsX12_in) := goodIn_app (goodIn_of _ (by decide +kernel)) ggX12_hold_X12_in
theorem dX12_hold_0 : decode cX12_hold 0 = .ok (.iload_n 1, 1) := by decide +kernel
theorem dX12_hold_1 : decode cX12_hold 1 = .ok (.iconst 0, 1) := by decide +kernel
theorem dX12_hold_2 : decode cX12_hold 2 = .ok (.iconst 2, 1) := by decide +kernel
theorem dX12_hold_3 : decode cX12_hold 3 = .ok (.invokestatic 333, 3) := by decide +kernel
theorem dX12_hold_6 : decode cX12_hold 6 = .ok (.ifCond .ne 5, 3) := by decide +kernel
theorem dX12_hold_9 : decode cX12_hold 9 = .ok (.iconst 0, 1) := by decide +kernel
theorem dX12_hold_10 : decode cX12_hold 10 = .ok (.ireturn, 1) := by decide +kernel
theorem dX12_hold_11 : decode cX12_hold 11 = .ok (.aload_n 0, 1) := by decide +kernel
theorem dX12_hold_12 : decode cX12_hold 12 = .ok (.getfield 188, 3) := by decide +kernel
theorem dX12_hold_15 : decode cX12_hold 15 = .ok (.iload_n 1, 1) := by decide +kernel
theorem dX12_hold_16 : decode cX12_hold 16 = .ok (.iconst 1, 1) := by decide +kernel
theorem dX12_hold_17 : decode cX12_hold 17 = .ok (.bastore, 1) := by decide +kernel
theorem dX12_hold_18 : decode cX12_hold 18 = .ok (.iconst 0, 1) := by decide +kernel
theorem dX12_hold_19 : decode cX12_hold 19 = .ok (.istore_n 2, 1) := by decide +kernel
theorem dX12_hold_20 : decode cX12_hold 20 = .ok (.iload_n 2, 1) := by decide +kernel
theorem dX12_hold_21 : decode cX12_hold 21 = .ok (.bipush 80, 2) := by decide +kernel
theorem dX12_hold_23 : decode cX12_hold 23 = .ok (.if_icmp .ge 26, 3) := by decide +kernel
theorem dX12_hold_26 : decode cX12_hold 26 = .ok (.aload_n 0, 1) := by decide +kernel
theorem dX12_hold_27 : decode cX12_hold 27 = .ok (.getfield 191, 3) := by decide +kernel
theorem dX12_hold_30 : decode cX12_hold 30 = .ok (.bipush 80, 2) := by decide +kernel
theorem dX12_hold_32 : decode cX12_hold 32 = .ok (.iload_n 1, 1) := by decide +kernel
theorem dX12_hold_33 : decode cX12_hold 33 = .ok (.imul, 1) := by decide +kernel
theorem dX12_hold_34 : decode cX12_hold 34 = .ok (.iload_n 2, 1) := by decide +kernel
theorem dX12_hold_35 : decode cX12_hold 35 = .ok (.iadd, 1) := by decide +kernel
theorem dX12_hold_36 : decode cX12_hold 36 = .ok (.aload_n 0, 1) := by decide +kernel
theorem dX12_hold_37 : decode cX12_hold 37 = .ok (.getfield 95, 3) := by decide +kernel
theorem dX12_hold_40 : decode cX12_hold 40 = .ok (.iload_n 2, 1) := by decide +kernel
theorem dX12_hold_41 : decode cX12_hold 41 = .ok (.iaload, 1) := by decide +kernel
theorem dX12_hold_42 : decode cX12_hold 42 = .ok (.iastore, 1) := by decide +kernel
theorem dX12_hold_43 : decode cX12_hold 43 = .ok (.iinc 2 1, 3) := by decide +kernel
theorem dX12_hold_46 : decode cX12_hold 46 = .ok (.goto (-26), 3) := by decide +kernel
theorem dX12_hold_49 : decode cX12_hold 49 = .ok (.iconst 1, 1) := by decide +kernel
theorem dX12_hold_50 : decode cX12_hold 50 = .ok (.ireturn, 1) := by decide +kernel
set_option maxRecDepth 20000 in
theorem ggX12_restore_X12_in : GoodIn wsX12_restore wsX12_in := goodIn_r _ [8] (by decide +kernel) (by decide +kernel)
set_option maxRecDepth 20000 in
theorem gX12_restore_X12_in : GoodIn wsX12_restore (va_wsS RX12 333 yX12_in wsX12_in) := goodIn_app (goodIn_of _ (by decide +kernel)) ggX12_restore_X12_in
theorem dX12_restore_0 : decode cX12_restore 0 = .ok (.iload_n 1, 1) := by decide +kernel
theorem dX12_restore_1 : decode cX12_restore 1 = .ok (.iconst 0, 1) := by decide +kernel
theorem dX12_restore_2 : decode cX12_restore 2 = .ok (.iconst 2, 1) := by decide +kernel
theorem dX12_restore_3 : decode cX12_restore 3 = .ok (.invokestatic 333, 3) := by decide +kernel
theorem dX12_restore_6 : decode cX12_restore 6 = .ok (.ifCond .eq 12, 3) := by decide +kernel
theorem dX12_restore_9 : decode cX12_restore 9 = .ok (.aload_n 0, 1) := by decide +kernel
theorem dX12_restore_10 : decode cX12_restore 10 = .ok (.getfield 188, 3) := by decide +kernel
theorem dX12_restore_13 : decode cX12_restore 13 = .ok (.iload_n 1, 1) := by decide +kernel
theorem dX12_restore_14 : decode cX12_restore 14 = .ok (.baload, 1) := by decide +kernel
theorem dX12_restore_15 : decode cX12_restore 15 = .ok (.ifCond .ne 5, 3) := by decide +kernel
theorem dX12_restore_18 : decode cX12_restore 18 = .ok (.iconst 0, 1) := by decide +kernel
theorem dX12_restore_19 : decode cX12_restore 19 = .ok (.ireturn, 1) := by decide +kernel
theorem dX12_count_0 : decode cX12_count 0 = .ok (.iload_n 1, 1) := by decide +kernel
theorem dX12_count_1 : decode cX12_count 1 = .ok (.tableswitch 246 0 11 #[63, 73, 83, 93, 103, 113, 123, 128, 133, 138, 183, 210], 63) := by decide +kernel
theorem dX12_count_64 : decode cX12_count 64 = .ok (.aload_n 0, 1) := by decide +kernel
theorem dX12_count_65 : decode cX12_count 65 = .ok (.getfield 49, 3) := by decide +kernel
theorem dX12_count_68 : decode cX12_count 68 = .ok (.aload_n 0, 1) := by decide +kernel
theorem dX12_count_69 : decode cX12_count 69 = .ok (.getfield 266, 3) := by decide +kernel
theorem dX12_count_72 : decode cX12_count 72 = .ok (.iaload, 1) := by decide +kernel
theorem dX12_count_73 : decode cX12_count 73 = .ok (.ireturn, 1) := by decide +kernel
theorem dX12_count_74 : decode cX12_count 74 = .ok (.aload_n 0, 1) := by decide +kernel
theorem dX12_count_75 : decode cX12_count 75 = .ok (.getfield 55, 3) := by decide +kernel
theorem dX12_count_78 : decode cX12_count 78 = .ok (.aload_n 0, 1) := by decide +kernel
theorem dX12_count_79 : decode cX12_count 79 = .ok (.getfield 266, 3) := by decide +kernel
theorem dX12_count_82 : decode cX12_count 82 = .ok (.iaload, 1) := by decide +kernel
theorem dX12_count_83 : decode cX12_count 83 = .ok (.ireturn, 1) := by decide +kernel
theorem dX12_count_84 : decode cX12_count 84 = .ok (.aload_n 0, 1) := by decide +kernel
theorem dX12_count_85 : decode cX12_count 85 = .ok (.getfield 68, 3) := by decide +kernel
theorem dX12_count_88 : decode cX12_count 88 = .ok (.aload_n 0, 1) := by decide +kernel
theorem dX12_count_89 : decode cX12_count 89 = .ok (.getfield 266, 3) := by decide +kernel
theorem dX12_count_92 : decode cX12_count 92 = .ok (.iaload, 1) := by decide +kernel
theorem dX12_count_93 : decode cX12_count 93 = .ok (.ireturn, 1) := by decide +kernel
theorem dX12_count_94 : decode cX12_count 94 = .ok (.aload_n 0, 1) := by decide +kernel
theorem dX12_count_95 : decode cX12_count 95 = .ok (.getfield 74, 3) := by decide +kernel
theorem dX12_count_98 : decode cX12_count 98 = .ok (.aload_n 0, 1) := by decide +kernel
theorem dX12_count_99 : decode cX12_count 99 = .ok (.getfield 266, 3) := by decide +kernel
theorem dX12_count_102 : decode cX12_count 102 = .ok (.iaload, 1) := by decide +kernel
theorem dX12_count_103 : decode cX12_count 103 = .ok (.ireturn, 1) := by decide +kernel
theorem dX12_count_104 : decode cX12_count 104 = .ok (.aload_n 0, 1) := by decide +kernel
theorem dX12_count_105 : decode cX12_count 105 = .ok (.getfield 86, 3) := by decide +kernel
theorem dX12_count_108 : decode cX12_count 108 = .ok (.aload_n 0, 1) := by decide +kernel
theorem dX12_count_109 : decode cX12_count 109 = .ok (.getfield 266, 3) := by decide +kernel
theorem dX12_count_112 : decode cX12_count 112 = .ok (.iaload, 1) := by decide +kernel
theorem dX12_count_113 : decode cX12_count 113 = .ok (.ireturn, 1) := by decide +kernel
theorem dX12_count_114 : decode cX12_count 114 = .ok (.aload_n 0, 1) := by decide +kernel
theorem dX12_count_115 : decode cX12_count 115 = .ok (.getfield 83, 3) := by decide +kernel
theorem dX12_count_118 : decode cX12_count 118 = .ok (.aload_n 0, 1) := by decide +kernel
theorem dX12_count_119 : decode cX12_count 119 = .ok (.getfield 266, 3) := by decide +kernel
theorem dX12_count_122 : decode cX12_count 122 = .ok (.iaload, 1) := by decide +kernel
theorem dX12_count_123 : decode cX12_count 123 = .ok (.ireturn, 1) := by decide +kernel
theorem dX12_count_124 : decode cX12_count 124 = .ok (.aload_n 0, 1) := by decide +kernel
theorem dX12_count_125 : decode cX12_count 125 = .ok (.getfield 202, 3) := by decide +kernel
theorem dX12_count_128 : decode cX12_count 128 = .ok (.ireturn, 1) := by decide +kernel
theorem dX12_count_129 : decode cX12_count 129 = .ok (.aload_n 0, 1) := by decide +kernel
theorem dX12_count_130 : decode cX12_count 130 = .ok (.getfield 281, 3) := by decide +kernel
theorem dX12_count_133 : decode cX12_count 133 = .ok (.ireturn, 1) := by decide +kernel
theorem dX12_count_134 : decode cX12_count 134 = .ok (.aload_n 0, 1) := by decide +kernel
theorem dX12_count_135 : decode cX12_count 135 = .ok (.getfield 284, 3) := by decide +kernel
theorem dX12_count_138 : decode cX12_count 138 = .ok (.ireturn, 1) := by decide +kernel
theorem dX12_count_139 : decode cX12_count 139 = .ok (.aload_n 0, 1) := by decide +kernel
theorem dX12_count_140 : decode cX12_count 140 = .ok (.getfield 188, 3) := by decide +kernel
theorem dX12_count_143 : decode cX12_count 143 = .ok (.iconst 0, 1) := by decide +kernel
theorem dX12_count_144 : decode cX12_count 144 = .ok (.baload, 1) := by decide +kernel
theorem dX12_count_145 : decode cX12_count 145 = .ok (.ifCond .eq 7, 3) := by decide +kernel
theorem dX12_count_152 : decode cX12_count 152 = .ok (.iconst 0, 1) := by decide +kernel
theorem dX12_count_153 : decode cX12_count 153 = .ok (.aload_n 0, 1) := by decide +kernel
theorem dX12_count_154 : decode cX12_count 154 = .ok (.getfield 188, 3) := by decide +kernel
theorem dX12_count_157 : decode cX12_count 157 = .ok (.iconst 1, 1) := by decide +kernel
theorem dX12_count_158 : decode cX12_count 158 = .ok (.baload, 1) := by decide +kernel
theorem dX12_count_159 : decode cX12_count 159 = .ok (.ifCond .eq 7, 3) := by decide +kernel
theorem dX12_count_166 : decode cX12_count 166 = .ok (.iconst 0, 1) := by decide +kernel
theorem dX12_count_167 : decode cX12_count 167 = .ok (.iadd, 1) := by decide +kernel
theorem dX12_count_168 : decode cX12_count 168 = .ok (.aload_n 0, 1) := by decide +kernel
theorem dX12_count_169 : decode cX12_count 169 = .ok (.getfield 188, 3) := by decide +kernel
theorem dX12_count_172 : decode cX12_count 172 = .ok (.iconst 2, 1) := by decide +kernel
theorem dX12_count_173 : decode cX12_count 173 = .ok (.baload, 1) := by decide +kernel
theorem dX12_count_174 : decode cX12_count 174 = .ok (.ifCond .eq 7, 3) := by decide +kernel
theorem dX12_count_181 : decode cX12_count 181 = .ok (.iconst 0, 1) := by decide +kernel
theorem dX12_count_182 : decode cX12_count 182 = .ok (.iadd, 1) := by decide +kernel
theorem dX12_count_183 : decode cX12_count 183 = .ok (.ireturn, 1) := by decide +kernel
theorem dX12_count_184 : decode cX12_count 184 = .ok (.iconst 0, 1) := by decide +kernel
theorem dX12_count_185 : decode cX12_count 185 = .ok (.istore_n 2, 1) := by decide +kernel
theorem dX12_count_186 : decode cX12_count 186 = .ok (.iconst 0, 1) := by decide +kernel
theorem dX12_count_187 : decode cX12_count 187 = .ok (.istore_n 3, 1) := by decide +kernel
theorem dX12_count_188 : decode cX12_count 188 = .ok (.iload_n 3, 1) := by decide +kernel
theorem dX12_count_189 : decode cX12_count 189 = .ok (.bipush 50, 2) := by decide +kernel
theorem dX12_count_191 : decode cX12_count 191 = .ok (.if_icmp .ge 18, 3) := by decide +kernel
theorem dX12_count_194 : decode cX12_count 194 = .ok (.iload_n 2, 1) := by decide +kernel
theorem dX12_count_195 : decode cX12_count 195 = .ok (.aload_n 0, 1) := by decide +kernel
theorem dX12_count_196 : decode cX12_count 196 = .ok (.getfield 95, 3) := by decide +kernel
theorem dX12_count_199 : decode cX12_count 199 = .ok (.iload_n 3, 1) := by decide +kernel
theorem dX12_count_200 : decode cX12_count 200 = .ok (.iaload, 1) := by decide +kernel
theorem dX12_count_201 : decode cX12_count 201 = .ok (.iadd, 1) := by decide +kernel
theorem dX12_count_202 : decode cX12_count 202 = .ok (.istore_n 2, 1) := by decide +kernel
theorem dX12_count_203 : decode cX12_count 203 = .ok (.iinc 3 1, 3) := by decide +kernel
theorem dX12_count_206 : decode cX12_count 206 = .ok (.goto (-18), 3) := by decide +kernel
theorem dX12_count_209 : decode cX12_count 209 = .ok (.iload_n 2, 1) := by decide +kernel
theorem dX12_count_210 : decode cX12_count 210 = .ok (.ireturn, 1) := by decide +kernel
theorem dX12_count_211 : decode cX12_count 211 = .ok (.iconst 0, 1) := by decide +kernel
theorem dX12_count_212 : decode cX12_count 212 = .ok (.istore_n 2, 1) := by decide +kernel
theorem dX12_count_213 : decode cX12_count 213 = .ok (.iconst 0, 1) := by decide +kernel
theorem dX12_count_214 : decode cX12_count 214 = .ok (.istore_n 3, 1) := by decide +kernel
theorem dX12_count_215 : decode cX12_count 215 = .ok (.iload_n 3, 1) := by decide +kernel
theorem dX12_count_216 : decode cX12_count 216 = .ok (.aload_n 0, 1) := by decide +kernel
theorem dX12_count_217 : decode cX12_count 217 = .ok (.getfield 74, 3) := by decide +kernel
theorem dX12_count_220 : decode cX12_count 220 = .ok (.aload_n 0, 1) := by decide +kernel
theorem dX12_count_221 : decode cX12_count 221 = .ok (.getfield 266, 3) := by decide +kernel
theorem dX12_count_224 : decode cX12_count 224 = .ok (.iaload, 1) := by decide +kernel
theorem dX12_count_225 : decode cX12_count 225 = .ok (.if_icmp .ge 20, 3) := by decide +kernel
theorem dX12_count_245 : decode cX12_count 245 = .ok (.iload_n 2, 1) := by decide +kernel
theorem dX12_count_246 : decode cX12_count 246 = .ok (.ireturn, 1) := by decide +kernel
theorem dX12_count_247 : decode cX12_count 247 = .ok (.iconst (-1), 1) := by decide +kernel
theorem dX12_count_248 : decode cX12_count 248 = .ok (.ireturn, 1) := by decide +kernel

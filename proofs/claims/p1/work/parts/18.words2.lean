set_option maxRecDepth 100000 in
theorem ggL_law_X11_back : GoodIn wsL_law wsX11_back := goodIn_hd (List.mem_of_getElem? (i := 25) rfl) rfl (goodIn_app (goodIn_app (goodIn_q _ [] [366, 216] rfl (by decide +kernel) (by decide +kernel)) gclX6) gclX11)
set_option maxRecDepth 100000 in
theorem gL_law_X11_back : GoodIn wsL_law (wsV RL 18 RX11 yX11_back wsX11_back) := goodIn_app (goodIn_r _ [385, 386, 387, 157] (by decide +kernel) (by decide +kernel)) ggL_law_X11_back
set_option maxRecDepth 100000 in
theorem ggL_law_X11_buy : GoodIn wsL_law wsX11_buy := goodIn_hd (List.mem_of_getElem? (i := 50) rfl) rfl (goodIn_app (goodIn_app (goodIn_q _ [46] [375, 450, 451, 452, 163, 243] rfl (by decide +kernel) (by decide +kernel)) gclX7) gclX11)
set_option maxRecDepth 100000 in
theorem gL_law_X11_buy : GoodIn wsL_law (wsV RL 62 RX11 yX11_buy wsX11_buy) := goodIn_app (goodIn_r _ [462, 463, 464, 157] (by decide +kernel) (by decide +kernel)) ggL_law_X11_buy
set_option maxRecDepth 100000 in
theorem ggL_law_X11_carried : GoodIn wsL_law wsX11_carried := goodIn_hd (List.mem_of_getElem? (i := 65) rfl) rfl (goodIn_app (goodIn_app (goodIn_q _ [43] [375, 441, 442, 443, 163, 236] rfl (by decide +kernel) (by decide +kernel)) gclX7) gclX11)
set_option maxRecDepth 100000 in
theorem gL_law_X11_carried : GoodIn wsL_law (wsV RL 108 RX11 yX11_carried wsX11_carried) := goodIn_app (goodIn_r _ [502, 503, 504, 157] (by decide +kernel) (by decide +kernel)) ggL_law_X11_carried
set_option maxRecDepth 100000 in
theorem ggL_law_X11_count : GoodIn wsL_law wsX11_count := goodIn_hd (List.mem_of_getElem? (i := 84) rfl) rfl (goodIn_app (goodIn_app (goodIn_app (goodIn_app (goodIn_app (goodIn_app (goodIn_q _ [85, 86, 71] [375, 237, 239, 241, 246, 249, 251, 366, 216, 369, 287, 374, 356, 367, 568, 569, 142, 157, 368, 275, 570, 571, 572, 164, 281, 520, 521, 522, 276] rfl (by decide +kernel) (by decide +kernel)) gclX4) gclX6) gclX7) gclX8) gclX9) gclX11)
set_option maxRecDepth 100000 in
theorem gL_law_X11_count : GoodIn wsL_law (wsV RL 155 RX11 yX11_count wsX11_count) := goodIn_app (goodIn_r _ [565, 566, 567, 157] (by decide +kernel) (by decide +kernel)) ggL_law_X11_count
set_option maxRecDepth 100000 in
theorem ggL_law_X11_door : GoodIn wsL_law wsX11_door := goodIn_hd (List.mem_of_getElem? (i := 40) rfl) rfl (goodIn_app (goodIn_app (goodIn_q _ [41] [375, 435, 436, 437, 163, 238] rfl (by decide +kernel) (by decide +kernel)) gclX7) gclX11)
set_option maxRecDepth 100000 in
theorem gL_law_X11_door : GoodIn wsL_law (wsV RL 32 RX11 yX11_door wsX11_door) := goodIn_app (goodIn_r _ [432, 433, 434, 157] (by decide +kernel) (by decide +kernel)) ggL_law_X11_door
set_option maxRecDepth 100000 in
theorem ggL_law_X11_feed : GoodIn wsL_law wsX11_feed := goodIn_hd (List.mem_of_getElem? (i := 22) rfl) rfl (goodIn_app (goodIn_app (goodIn_q _ [23, 24] [366, 216, 379, 380, 381, 159, 215, 382, 383, 384, 223] rfl (by decide +kernel) (by decide +kernel)) gclX6) gclX11)
set_option maxRecDepth 100000 in
theorem gL_law_X11_feed : GoodIn wsL_law (wsV RL 13 RX11 yX11_feed wsX11_feed) := goodIn_app (goodIn_r _ [376, 377, 378, 157] (by decide +kernel) (by decide +kernel)) ggL_law_X11_feed
set_option maxRecDepth 100000 in
theorem ggL_law_X11_fits : GoodIn wsL_law wsX11_fits := goodIn_hd (List.mem_of_getElem? (i := 77) rfl) rfl (goodIn_app (goodIn_app (goodIn_app (goodIn_q _ [78, 79, 61, 29, 80, 55] [374, 545, 375, 542, 543, 544, 171, 355, 546, 547, 548, 359, 361, 550, 492, 175, 245, 360, 549, 398, 173, 551, 552, 553, 362, 554, 476] rfl (by decide +kernel) (by decide +kernel)) gclX7) gclX9) gclX11)
set_option maxRecDepth 100000 in
theorem gL_law_X11_fits : GoodIn wsL_law (wsV RL 136 RX11 yX11_fits wsX11_fits) := goodIn_app (goodIn_r _ [539, 540, 541, 157] (by decide +kernel) (by decide +kernel)) ggL_law_X11_fits
set_option maxRecDepth 100000 in
theorem ggL_law_X11_forget : GoodIn wsL_law wsX11_forget := goodIn_hd (List.mem_of_getElem? (i := 76) rfl) rfl (goodIn_app (goodIn_app (goodIn_q _ [37] [374, 356, 423, 424, 425, 171, 355] rfl (by decide +kernel) (by decide +kernel)) gclX9) gclX11)
set_option maxRecDepth 100000 in
theorem gL_law_X11_forget : GoodIn wsL_law (wsV RL 132 RX11 yX11_forget wsX11_forget) := goodIn_app (goodIn_r _ [536, 537, 538, 157] (by decide +kernel) (by decide +kernel)) ggL_law_X11_forget
set_option maxRecDepth 100000 in
theorem ggL_law_X11_get : GoodIn wsL_law wsX11_get := goodIn_hd (List.mem_of_getElem? (i := 58) rfl) rfl (goodIn_app (goodIn_app (goodIn_q _ [46] [375, 450, 451, 452, 163, 243] rfl (by decide +kernel) (by decide +kernel)) gclX7) gclX11)
set_option maxRecDepth 100000 in
theorem gL_law_X11_get : GoodIn wsL_law (wsV RL 84 RX11 yX11_get wsX11_get) := goodIn_app (goodIn_r _ [483, 484, 485, 157] (by decide +kernel) (by decide +kernel)) ggL_law_X11_get
set_option maxRecDepth 100000 in
theorem ggL_law_X11_go : GoodIn wsL_law wsX11_go := goodIn_hd (List.mem_of_getElem? (i := 49) rfl) rfl (goodIn_app (goodIn_app (goodIn_q _ [46] [375, 450, 451, 452, 163, 243] rfl (by decide +kernel) (by decide +kernel)) gclX7) gclX11)
set_option maxRecDepth 100000 in
theorem gL_law_X11_go : GoodIn wsL_law (wsV RL 58 RX11 yX11_go wsX11_go) := goodIn_app (goodIn_r _ [459, 460, 461, 157] (by decide +kernel) (by decide +kernel)) ggL_law_X11_go
set_option maxRecDepth 100000 in
theorem ggL_law_X11_has : GoodIn wsL_law wsX11_has := goodIn_hd (List.mem_of_getElem? (i := 47) rfl) rfl (goodIn_app (goodIn_app (goodIn_q _ [46] [375, 450, 451, 452, 163, 243] rfl (by decide +kernel) (by decide +kernel)) gclX7) gclX11)
set_option maxRecDepth 100000 in
theorem gL_law_X11_has : GoodIn wsL_law (wsV RL 49 RX11 yX11_has wsX11_has) := goodIn_app (goodIn_r _ [453, 454, 455, 157] (by decide +kernel) (by decide +kernel)) ggL_law_X11_has
set_option maxRecDepth 100000 in
theorem ggL_law_X11_helps : GoodIn wsL_law wsX11_helps := goodIn_hd (List.mem_of_getElem? (i := 66) rfl) rfl (goodIn_app (goodIn_app (goodIn_q _ [43] [375, 441, 442, 443, 163, 236] rfl (by decide +kernel) (by decide +kernel)) gclX7) gclX11)
set_option maxRecDepth 100000 in
theorem gL_law_X11_helps : GoodIn wsL_law (wsV RL 112 RX11 yX11_helps wsX11_helps) := goodIn_app (goodIn_r _ [505, 506, 507, 157] (by decide +kernel) (by decide +kernel)) ggL_law_X11_helps
set_option maxRecDepth 100000 in
theorem ggL_law_X11_hold : GoodIn wsL_law wsX11_hold := goodIn_hd (List.mem_of_getElem? (i := 82) rfl) rfl (goodIn_app (goodIn_app (goodIn_q _ [70] [368, 367, 275, 561, 518, 519, 164, 276, 277, 416, 418, 417, 174, 278, 281, 279, 280] rfl (by decide +kernel) (by decide +kernel)) gclX4) gclX11)
set_option maxRecDepth 100000 in
theorem gL_law_X11_hold : GoodIn wsL_law (wsV RL 146 RX11 yX11_hold wsX11_hold) := goodIn_app (goodIn_r _ [558, 559, 560, 157] (by decide +kernel) (by decide +kernel)) ggL_law_X11_hold
set_option maxRecDepth 100000 in
theorem ggL_law_X11_inReach : GoodIn wsL_law wsX11_inReach := goodIn_hd (List.mem_of_getElem? (i := 59) rfl) rfl (goodIn_app (goodIn_app (goodIn_q _ [46] [375, 450, 451, 452, 163, 243] rfl (by decide +kernel) (by decide +kernel)) gclX7) gclX11)
set_option maxRecDepth 100000 in
theorem gL_law_X11_inReach : GoodIn wsL_law (wsV RL 88 RX11 yX11_inReach wsX11_inReach) := goodIn_app (goodIn_r _ [486, 487, 488, 157] (by decide +kernel) (by decide +kernel)) ggL_law_X11_inReach
set_option maxRecDepth 100000 in
theorem ggL_law_X11_man : GoodIn wsL_law wsX11_man := goodIn_hd (List.mem_of_getElem? (i := 45) rfl) rfl (goodIn_app (goodIn_app (goodIn_q _ [46] [375, 450, 451, 452, 163, 243] rfl (by decide +kernel) (by decide +kernel)) gclX7) gclX11)
set_option maxRecDepth 100000 in
theorem gL_law_X11_man : GoodIn wsL_law (wsV RL 45 RX11 yX11_man wsX11_man) := goodIn_app (goodIn_r _ [447, 448, 449, 157] (by decide +kernel) (by decide +kernel)) ggL_law_X11_man
set_option maxRecDepth 100000 in
theorem ggL_law_X11_may : GoodIn wsL_law wsX11_may := goodIn_hd (List.mem_of_getElem? (i := 48) rfl) rfl (goodIn_app (goodIn_app (goodIn_q _ [46] [375, 450, 451, 452, 163, 243] rfl (by decide +kernel) (by decide +kernel)) gclX7) gclX11)
set_option maxRecDepth 100000 in
theorem gL_law_X11_may : GoodIn wsL_law (wsV RL 53 RX11 yX11_may wsX11_may) := goodIn_app (goodIn_r _ [456, 457, 458, 157] (by decide +kernel) (by decide +kernel)) ggL_law_X11_may
set_option maxRecDepth 100000 in
theorem ggL_law_X11_meet : GoodIn wsL_law wsX11_meet := goodIn_hd (List.mem_of_getElem? (i := 62) rfl) rfl (goodIn_app (goodIn_app (goodIn_q _ [46] [375, 450, 451, 452, 163, 243] rfl (by decide +kernel) (by decide +kernel)) gclX7) gclX11)
set_option maxRecDepth 100000 in
theorem gL_law_X11_meet : GoodIn wsL_law (wsV RL 96 RX11 yX11_meet wsX11_meet) := goodIn_app (goodIn_r _ [493, 494, 495, 157] (by decide +kernel) (by decide +kernel)) ggL_law_X11_meet
set_option maxRecDepth 100000 in
theorem ggL_law_X11_most : GoodIn wsL_law wsX11_most := goodIn_hd (List.mem_of_getElem? (i := 60) rfl) rfl (goodIn_app (goodIn_app (goodIn_q _ [46] [375, 450, 451, 452, 163, 243] rfl (by decide +kernel) (by decide +kernel)) gclX7) gclX11)
set_option maxRecDepth 100000 in
theorem gL_law_X11_most : GoodIn wsL_law (wsV RL 92 RX11 yX11_most wsX11_most) := goodIn_app (goodIn_r _ [489, 490, 491, 157] (by decide +kernel) (by decide +kernel)) ggL_law_X11_most
set_option maxRecDepth 100000 in
theorem ggL_law_X11_place : GoodIn wsL_law wsX11_place := goodIn_hd (List.mem_of_getElem? (i := 39) rfl) rfl (goodIn_app (goodIn_app (goodIn_q _ [] [366, 222] rfl (by decide +kernel) (by decide +kernel)) gclX6) gclX11)
set_option maxRecDepth 100000 in
theorem gL_law_X11_place : GoodIn wsL_law (wsV RL 28 RX11 yX11_place wsX11_place) := goodIn_app (goodIn_r _ [429, 430, 431, 157] (by decide +kernel) (by decide +kernel)) ggL_law_X11_place
set_option maxRecDepth 100000 in
theorem ggL_law_X11_read : GoodIn wsL_law wsX11_read := goodIn_hd (List.mem_of_getElem? (i := 26) rfl) rfl (goodIn_app (goodIn_app (goodIn_app (goodIn_app (goodIn_app (goodIn_app (goodIn_app (goodIn_app (goodIn_q _ [27, 28, 29, 30, 31, 32, 33, 34, 35, 36, 37, 38] [366, 219, 365, 216, 391, 392, 393, 159, 218, 227, 215, 394, 395, 396, 220, 221, 397, 398, 173, 399, 400, 139, 401, 402, 403, 158, 269, 270, 267, 217, 404, 405, 406, 163, 236, 238, 240, 243, 247, 250, 257, 258, 259, 407, 408, 409, 140, 157, 375, 367, 369, 374, 370, 368, 275, 410, 411, 412, 413, 414, 415, 164, 242, 276, 262, 277, 416, 418, 417, 174, 264, 278, 260, 281, 279, 280, 419, 420, 421, 422, 165, 286, 423, 424, 425, 171, 355, 426, 427, 428, 166, 308] rfl (by decide +kernel) (by decide +kernel)) gclX4) gclX5) gclX6) gclX7) gclX8) gclX9) gclX10) gclX11)
set_option maxRecDepth 100000 in
theorem gL_law_X11_read : GoodIn wsL_law (wsV RL 23 RX11 yX11_read wsX11_read) := goodIn_app (goodIn_r _ [388, 389, 390, 157] (by decide +kernel) (by decide +kernel)) ggL_law_X11_read
set_option maxRecDepth 100000 in
theorem ggL_law_X11_rest : GoodIn wsL_law wsX11_rest := goodIn_hd (List.mem_of_getElem? (i := 73) rfl) rfl (goodIn_app (goodIn_app (goodIn_app (goodIn_app (goodIn_q _ [74, 35, 29, 71] [373, 375, 343, 347, 341, 529, 530, 531, 170, 340, 342, 344, 346, 348, 248, 532, 414, 415, 164, 242, 276, 262, 277, 416, 418, 417, 174, 264, 278, 260, 281, 279, 280, 419, 398, 173, 520, 521, 522] rfl (by decide +kernel) (by decide +kernel)) gclX0) gclX4) gclX7) gclX11)
set_option maxRecDepth 100000 in
theorem gL_law_X11_rest : GoodIn wsL_law (wsV RL 124 RX11 yX11_rest wsX11_rest) := goodIn_app (goodIn_r _ [526, 527, 528, 157] (by decide +kernel) (by decide +kernel)) ggL_law_X11_rest
set_option maxRecDepth 100000 in
theorem ggL_law_X11_restore : GoodIn wsL_law wsX11_restore := goodIn_hd (List.mem_of_getElem? (i := 83) rfl) rfl (goodIn_app (goodIn_app (goodIn_q _ [] [368, 275] rfl (by decide +kernel) (by decide +kernel)) gclX4) gclX11)
set_option maxRecDepth 100000 in
theorem gL_law_X11_restore : GoodIn wsL_law (wsV RL 151 RX11 yX11_restore wsX11_restore) := goodIn_app (goodIn_r _ [562, 563, 564, 157] (by decide +kernel) (by decide +kernel)) ggL_law_X11_restore
set_option maxRecDepth 100000 in
theorem ggL_law_X11_riches : GoodIn wsL_law wsX11_riches := goodIn_hd (List.mem_of_getElem? (i := 63) rfl) rfl (goodIn_app (goodIn_app (goodIn_q _ [41] [375, 239, 435, 436, 437, 163, 238] rfl (by decide +kernel) (by decide +kernel)) gclX7) gclX11)
set_option maxRecDepth 100000 in
theorem gL_law_X11_riches : GoodIn wsL_law (wsV RL 100 RX11 yX11_riches wsX11_riches) := goodIn_app (goodIn_r _ [496, 497, 498, 157] (by decide +kernel) (by decide +kernel)) ggL_law_X11_riches
set_option maxRecDepth 100000 in
theorem ggL_law_X11_rid : GoodIn wsL_law wsX11_rid := goodIn_hd (List.mem_of_getElem? (i := 57) rfl) rfl (goodIn_app (goodIn_app (goodIn_q _ [46] [375, 450, 451, 452, 163, 243] rfl (by decide +kernel) (by decide +kernel)) gclX7) gclX11)
set_option maxRecDepth 100000 in
theorem gL_law_X11_rid : GoodIn wsL_law (wsV RL 79 RX11 yX11_rid wsX11_rid) := goodIn_app (goodIn_r _ [480, 481, 482, 157] (by decide +kernel) (by decide +kernel)) ggL_law_X11_rid
set_option maxRecDepth 100000 in
theorem ggL_law_X11_round : GoodIn wsL_law wsX11_round := goodIn_hd (List.mem_of_getElem? (i := 64) rfl) rfl (goodIn_app (goodIn_app (goodIn_q _ [46] [375, 450, 451, 452, 163, 243] rfl (by decide +kernel) (by decide +kernel)) gclX7) gclX11)
set_option maxRecDepth 100000 in
theorem gL_law_X11_round : GoodIn wsL_law (wsV RL 104 RX11 yX11_round wsX11_round) := goodIn_app (goodIn_r _ [499, 500, 501, 157] (by decide +kernel) (by decide +kernel)) ggL_law_X11_round
set_option maxRecDepth 100000 in
theorem ggL_law_X11_see : GoodIn wsL_law wsX11_see := goodIn_hd (List.mem_of_getElem? (i := 75) rfl) rfl (goodIn_app (goodIn_app (goodIn_q _ [41] [375, 435, 436, 437, 163, 238] rfl (by decide +kernel) (by decide +kernel)) gclX7) gclX11)
set_option maxRecDepth 100000 in
theorem gL_law_X11_see : GoodIn wsL_law (wsV RL 128 RX11 yX11_see wsX11_see) := goodIn_app (goodIn_r _ [533, 534, 535, 157] (by decide +kernel) (by decide +kernel)) ggL_law_X11_see
set_option maxRecDepth 100000 in
theorem ggL_law_X11_step : GoodIn wsL_law wsX11_step := goodIn_hd (List.mem_of_getElem? (i := 56) rfl) rfl (goodIn_app (goodIn_app (goodIn_q _ [54, 46] [375, 474, 475, 141, 157, 450, 451, 452, 163, 243] rfl (by decide +kernel) (by decide +kernel)) gclX7) gclX11)
set_option maxRecDepth 100000 in
theorem gL_law_X11_step : GoodIn wsL_law (wsV RL 75 RX11 yX11_step wsX11_step) := goodIn_app (goodIn_r _ [477, 478, 479, 157] (by decide +kernel) (by decide +kernel)) ggL_law_X11_step
set_option maxRecDepth 100000 in
theorem ggL_law_X11_table : GoodIn wsL_law wsX11_table := goodIn_hd (List.mem_of_getElem? (i := 44) rfl) rfl (goodIn_app (goodIn_app (goodIn_q _ [41] [375, 435, 436, 437, 163, 238] rfl (by decide +kernel) (by decide +kernel)) gclX7) gclX11)
set_option maxRecDepth 100000 in
theorem gL_law_X11_table : GoodIn wsL_law (wsV RL 41 RX11 yX11_table wsX11_table) := goodIn_app (goodIn_r _ [444, 445, 446, 157] (by decide +kernel) (by decide +kernel)) ggL_law_X11_table
set_option maxRecDepth 100000 in
theorem ggL_law_X11_turned : GoodIn wsL_law wsX11_turned := goodIn_hd (List.mem_of_getElem? (i := 67) rfl) rfl (goodIn_app (goodIn_app (goodIn_q _ [43] [375, 441, 442, 443, 163, 236] rfl (by decide +kernel) (by decide +kernel)) gclX7) gclX11)
set_option maxRecDepth 100000 in
theorem gL_law_X11_turned : GoodIn wsL_law (wsV RL 116 RX11 yX11_turned wsX11_turned) := goodIn_app (goodIn_r _ [508, 509, 510, 157] (by decide +kernel) (by decide +kernel)) ggL_law_X11_turned
set_option maxRecDepth 100000 in
theorem ggL_law_X11_undo : GoodIn wsL_law wsX11_undo := goodIn_hd (List.mem_of_getElem? (i := 51) rfl) rfl (goodIn_app (goodIn_app (goodIn_q _ [52] [369, 468, 469, 470, 165, 286] rfl (by decide +kernel) (by decide +kernel)) gclX8) gclX11)
set_option maxRecDepth 100000 in
theorem gL_law_X11_undo : GoodIn wsL_law (wsV RL 66 RX11 yX11_undo wsX11_undo) := goodIn_app (goodIn_r _ [465, 466, 467, 157] (by decide +kernel) (by decide +kernel)) ggL_law_X11_undo
set_option maxRecDepth 100000 in
theorem ggL_law_X11_visitors : GoodIn wsL_law wsX11_visitors := goodIn_hd (List.mem_of_getElem? (i := 81) rfl) rfl (goodIn_app (goodIn_app (goodIn_q _ [41] [375, 435, 436, 437, 163, 238] rfl (by decide +kernel) (by decide +kernel)) gclX7) gclX11)
set_option maxRecDepth 100000 in
theorem gL_law_X11_visitors : GoodIn wsL_law (wsV RL 141 RX11 yX11_visitors wsX11_visitors) := goodIn_app (goodIn_r _ [555, 556, 557, 157] (by decide +kernel) (by decide +kernel)) ggL_law_X11_visitors
set_option maxRecDepth 100000 in
theorem ggL_law_X11_way : GoodIn wsL_law wsX11_way := goodIn_hd (List.mem_of_getElem? (i := 53) rfl) rfl (goodIn_app (goodIn_app (goodIn_q _ [54, 46] [375, 474, 475, 141, 157, 450, 451, 452, 163, 243] rfl (by decide +kernel) (by decide +kernel)) gclX7) gclX11)
set_option maxRecDepth 100000 in
theorem gL_law_X11_way : GoodIn wsL_law (wsV RL 71 RX11 yX11_way wsX11_way) := goodIn_app (goodIn_r _ [471, 472, 473, 157] (by decide +kernel) (by decide +kernel)) ggL_law_X11_way
set_option maxRecDepth 100000 in
theorem ggL_law_X11_worth : GoodIn wsL_law wsX11_worth := goodIn_hd (List.mem_of_getElem? (i := 42) rfl) rfl (goodIn_app (goodIn_app (goodIn_q _ [43] [375, 441, 442, 443, 163, 236] rfl (by decide +kernel) (by decide +kernel)) gclX7) gclX11)
set_option maxRecDepth 100000 in
theorem gL_law_X11_worth : GoodIn wsL_law (wsV RL 37 RX11 yX11_worth wsX11_worth) := goodIn_app (goodIn_r _ [438, 439, 440, 157] (by decide +kernel) (by decide +kernel)) ggL_law_X11_worth
set_option maxRecDepth 100000 in
theorem ggL_law_X11_year : GoodIn wsL_law wsX11_year := goodIn_hd (List.mem_of_getElem? (i := 68) rfl) rfl (goodIn_app (goodIn_app (goodIn_app (goodIn_app (goodIn_q _ [69, 70, 71, 72] [373, 375, 367, 343, 345, 341, 514, 515, 516, 170, 340, 342, 344, 244, 517, 518, 519, 164, 276, 277, 416, 418, 417, 174, 278, 281, 279, 280, 520, 521, 522, 523, 524, 525] rfl (by decide +kernel) (by decide +kernel)) gclX0) gclX4) gclX7) gclX11)
set_option maxRecDepth 100000 in
theorem gL_law_X11_year : GoodIn wsL_law (wsV RL 120 RX11 yX11_year wsX11_year) := goodIn_app (goodIn_r _ [511, 512, 513, 157] (by decide +kernel) (by decide +kernel)) ggL_law_X11_year
set_option maxRecDepth 100000 in
theorem ggL_law_X12_back : GoodIn wsL_law wsX12_back := goodIn_hd (List.mem_of_getElem? (i := 92) rfl) rfl (goodIn_app (goodIn_q _ [] [584] rfl (by decide +kernel) (by decide +kernel)) gclX12)
set_option maxRecDepth 100000 in
theorem gL_law_X12_back : GoodIn wsL_law (wsV RL 22 RX12 yX12_back wsX12_back) := goodIn_app (goodIn_r _ [663, 664, 665, 172] (by decide +kernel) (by decide +kernel)) ggL_law_X12_back
set_option maxRecDepth 100000 in
theorem ggL_law_X12_buy : GoodIn wsL_law wsX12_buy := goodIn_hd (List.mem_of_getElem? (i := 111) rfl) rfl (goodIn_app (goodIn_q _ [107, 102] [598, 700, 701, 151, 172, 612, 687, 688] rfl (by decide +kernel) (by decide +kernel)) gclX12)
set_option maxRecDepth 100000 in
theorem gL_law_X12_buy : GoodIn wsL_law (wsV RL 65 RX12 yX12_buy wsX12_buy) := goodIn_app (goodIn_r _ [711, 712, 713, 172] (by decide +kernel) (by decide +kernel)) ggL_law_X12_buy
set_option maxRecDepth 100000 in
theorem ggL_law_X12_carried : GoodIn wsL_law wsX12_carried := goodIn_hd (List.mem_of_getElem? (i := 123) rfl) rfl (goodIn_app (goodIn_q _ [104, 102] [692, 693, 150, 172, 604, 598, 687, 688] rfl (by decide +kernel) (by decide +kernel)) gclX12)
set_option maxRecDepth 100000 in
theorem gL_law_X12_carried : GoodIn wsL_law (wsV RL 111 RX12 yX12_carried wsX12_carried) := goodIn_app (goodIn_r _ [746, 747, 748, 172] (by decide +kernel) (by decide +kernel)) ggL_law_X12_carried
set_option maxRecDepth 100000 in
theorem ggL_law_X12_count : GoodIn wsL_law wsX12_count := goodIn_hd (List.mem_of_getElem? (i := 138) rfl) rfl (goodIn_app (goodIn_q _ [] [604, 598, 606, 610, 612, 616, 615, 584, 620, 640, 655, 619] rfl (by decide +kernel) (by decide +kernel)) gclX12)
set_option maxRecDepth 100000 in
theorem gL_law_X12_count : GoodIn wsL_law (wsV RL 158 RX12 yX12_count wsX12_count) := goodIn_app (goodIn_r _ [788, 789, 790, 172] (by decide +kernel) (by decide +kernel)) ggL_law_X12_count
set_option maxRecDepth 100000 in
theorem ggL_law_X12_door : GoodIn wsL_law wsX12_door := goodIn_hd (List.mem_of_getElem? (i := 100) rfl) rfl (goodIn_app (goodIn_q _ [101, 102] [685, 686, 149, 172, 606, 598, 687, 688] rfl (by decide +kernel) (by decide +kernel)) gclX12)
set_option maxRecDepth 100000 in
theorem gL_law_X12_door : GoodIn wsL_law (wsV RL 36 RX12 yX12_door wsX12_door) := goodIn_app (goodIn_r _ [682, 683, 684, 172] (by decide +kernel) (by decide +kernel)) ggL_law_X12_door
set_option maxRecDepth 100000 in
theorem ggL_law_X12_feed : GoodIn wsL_law wsX12_feed := goodIn_hd (List.mem_of_getElem? (i := 90) rfl) rfl (goodIn_app (goodIn_q _ [91] [584, 661, 662, 143, 172, 583] rfl (by decide +kernel) (by decide +kernel)) gclX12)
set_option maxRecDepth 100000 in
theorem gL_law_X12_feed : GoodIn wsL_law (wsV RL 17 RX12 yX12_feed wsX12_feed) := goodIn_app (goodIn_r _ [658, 659, 660, 172] (by decide +kernel) (by decide +kernel)) ggL_law_X12_feed
set_option maxRecDepth 100000 in
theorem ggL_law_X12_fits : GoodIn wsL_law wsX12_fits := goodIn_hd (List.mem_of_getElem? (i := 130) rfl) rfl (goodIn_app (goodIn_q _ [102, 131, 132, 133, 134] [640, 770, 652, 687, 688, 172, 771, 772, 153, 653, 651, 647, 612, 598, 646, 773, 774, 154, 644, 775, 776, 155, 654, 777, 778, 156] rfl (by decide +kernel) (by decide +kernel)) gclX12)
set_option maxRecDepth 100000 in
theorem gL_law_X12_fits : GoodIn wsL_law (wsV RL 140 RX12 yX12_fits wsX12_fits) := goodIn_app (goodIn_r _ [767, 768, 769, 172] (by decide +kernel) (by decide +kernel)) ggL_law_X12_fits
set_option maxRecDepth 100000 in
theorem ggL_law_X12_forget : GoodIn wsL_law wsX12_forget := goodIn_hd (List.mem_of_getElem? (i := 129) rfl) rfl (goodIn_app (goodIn_q _ [] [640] rfl (by decide +kernel) (by decide +kernel)) gclX12)
set_option maxRecDepth 100000 in
theorem gL_law_X12_forget : GoodIn wsL_law (wsV RL 135 RX12 yX12_forget wsX12_forget) := goodIn_app (goodIn_r _ [764, 765, 766, 172] (by decide +kernel) (by decide +kernel)) ggL_law_X12_forget
set_option maxRecDepth 100000 in
theorem ggL_law_X12_get : GoodIn wsL_law wsX12_get := goodIn_hd (List.mem_of_getElem? (i := 117) rfl) rfl (goodIn_app (goodIn_q _ [107, 102] [700, 701, 151, 172, 612, 598, 687, 688] rfl (by decide +kernel) (by decide +kernel)) gclX12)
set_option maxRecDepth 100000 in
theorem gL_law_X12_get : GoodIn wsL_law (wsV RL 87 RX12 yX12_get wsX12_get) := goodIn_app (goodIn_r _ [728, 729, 730, 172] (by decide +kernel) (by decide +kernel)) ggL_law_X12_get
set_option maxRecDepth 100000 in
theorem ggL_law_X12_go : GoodIn wsL_law wsX12_go := goodIn_hd (List.mem_of_getElem? (i := 110) rfl) rfl (goodIn_app (goodIn_q _ [107, 102] [700, 701, 151, 172, 612, 598, 687, 688] rfl (by decide +kernel) (by decide +kernel)) gclX12)
set_option maxRecDepth 100000 in
theorem gL_law_X12_go : GoodIn wsL_law (wsV RL 61 RX12 yX12_go wsX12_go) := goodIn_app (goodIn_r _ [708, 709, 710, 172] (by decide +kernel) (by decide +kernel)) ggL_law_X12_go
set_option maxRecDepth 100000 in
theorem ggL_law_X12_has : GoodIn wsL_law wsX12_has := goodIn_hd (List.mem_of_getElem? (i := 108) rfl) rfl (goodIn_app (goodIn_q _ [107, 102] [700, 701, 151, 172, 612, 598, 687, 688] rfl (by decide +kernel) (by decide +kernel)) gclX12)
set_option maxRecDepth 100000 in
theorem gL_law_X12_has : GoodIn wsL_law (wsV RL 52 RX12 yX12_has wsX12_has) := goodIn_app (goodIn_r _ [702, 703, 704, 172] (by decide +kernel) (by decide +kernel)) ggL_law_X12_has
set_option maxRecDepth 100000 in
theorem ggL_law_X12_helps : GoodIn wsL_law wsX12_helps := goodIn_hd (List.mem_of_getElem? (i := 124) rfl) rfl (goodIn_app (goodIn_q _ [104, 102] [598, 692, 693, 150, 172, 604, 687, 688] rfl (by decide +kernel) (by decide +kernel)) gclX12)
set_option maxRecDepth 100000 in
theorem gL_law_X12_helps : GoodIn wsL_law (wsV RL 115 RX12 yX12_helps wsX12_helps) := goodIn_app (goodIn_r _ [749, 750, 751, 172] (by decide +kernel) (by decide +kernel)) ggL_law_X12_helps
set_option maxRecDepth 100000 in
theorem ggL_law_X12_hold : GoodIn wsL_law wsX12_hold := goodIn_hd (List.mem_of_getElem? (i := 136) rfl) rfl (goodIn_app (goodIn_q _ [102] [655, 656, 619, 687, 688, 172] rfl (by decide +kernel) (by decide +kernel)) gclX12)
set_option maxRecDepth 100000 in
theorem gL_law_X12_hold : GoodIn wsL_law (wsV RL 150 RX12 yX12_hold wsX12_hold) := goodIn_app (goodIn_r _ [782, 783, 784, 172] (by decide +kernel) (by decide +kernel)) ggL_law_X12_hold
set_option maxRecDepth 100000 in
theorem ggL_law_X12_inReach : GoodIn wsL_law wsX12_inReach := goodIn_hd (List.mem_of_getElem? (i := 118) rfl) rfl (goodIn_app (goodIn_q _ [107, 102] [598, 700, 701, 151, 172, 612, 687, 688] rfl (by decide +kernel) (by decide +kernel)) gclX12)
set_option maxRecDepth 100000 in
theorem gL_law_X12_inReach : GoodIn wsL_law (wsV RL 91 RX12 yX12_inReach wsX12_inReach) := goodIn_app (goodIn_r _ [731, 732, 733, 172] (by decide +kernel) (by decide +kernel)) ggL_law_X12_inReach
set_option maxRecDepth 100000 in
theorem ggL_law_X12_man : GoodIn wsL_law wsX12_man := goodIn_hd (List.mem_of_getElem? (i := 106) rfl) rfl (goodIn_app (goodIn_q _ [107, 102] [700, 701, 151, 172, 612, 598, 687, 688] rfl (by decide +kernel) (by decide +kernel)) gclX12)
set_option maxRecDepth 100000 in
theorem gL_law_X12_man : GoodIn wsL_law (wsV RL 48 RX12 yX12_man wsX12_man) := goodIn_app (goodIn_r _ [697, 698, 699, 172] (by decide +kernel) (by decide +kernel)) ggL_law_X12_man
set_option maxRecDepth 100000 in
theorem ggL_law_X12_may : GoodIn wsL_law wsX12_may := goodIn_hd (List.mem_of_getElem? (i := 109) rfl) rfl (goodIn_app (goodIn_q _ [107, 102] [700, 701, 151, 172, 612, 598, 687, 688] rfl (by decide +kernel) (by decide +kernel)) gclX12)
set_option maxRecDepth 100000 in
theorem gL_law_X12_may : GoodIn wsL_law (wsV RL 57 RX12 yX12_may wsX12_may) := goodIn_app (goodIn_r _ [705, 706, 707, 172] (by decide +kernel) (by decide +kernel)) ggL_law_X12_may
set_option maxRecDepth 100000 in
theorem ggL_law_X12_meet : GoodIn wsL_law wsX12_meet := goodIn_hd (List.mem_of_getElem? (i := 120) rfl) rfl (goodIn_app (goodIn_q _ [107, 102] [598, 700, 701, 151, 172, 612, 687, 688] rfl (by decide +kernel) (by decide +kernel)) gclX12)
set_option maxRecDepth 100000 in
theorem gL_law_X12_meet : GoodIn wsL_law (wsV RL 99 RX12 yX12_meet wsX12_meet) := goodIn_app (goodIn_r _ [737, 738, 739, 172] (by decide +kernel) (by decide +kernel)) ggL_law_X12_meet
set_option maxRecDepth 100000 in
theorem ggL_law_X12_most : GoodIn wsL_law wsX12_most := goodIn_hd (List.mem_of_getElem? (i := 119) rfl) rfl (goodIn_app (goodIn_q _ [107, 102] [700, 701, 151, 172, 612, 598, 687, 688] rfl (by decide +kernel) (by decide +kernel)) gclX12)
set_option maxRecDepth 100000 in
theorem gL_law_X12_most : GoodIn wsL_law (wsV RL 95 RX12 yX12_most wsX12_most) := goodIn_app (goodIn_r _ [734, 735, 736, 172] (by decide +kernel) (by decide +kernel)) ggL_law_X12_most
set_option maxRecDepth 100000 in
theorem ggL_law_X12_place : GoodIn wsL_law wsX12_place := goodIn_hd (List.mem_of_getElem? (i := 99) rfl) rfl (goodIn_app (goodIn_q _ [] [597] rfl (by decide +kernel) (by decide +kernel)) gclX12)
set_option maxRecDepth 100000 in
theorem gL_law_X12_place : GoodIn wsL_law (wsV RL 31 RX12 yX12_place wsX12_place) := goodIn_app (goodIn_r _ [679, 680, 681, 172] (by decide +kernel) (by decide +kernel)) ggL_law_X12_place
set_option maxRecDepth 100000 in
theorem ggL_law_X12_read : GoodIn wsL_law wsX12_read := goodIn_hd (List.mem_of_getElem? (i := 93) rfl) rfl (goodIn_app (goodIn_q _ [94, 95, 96, 97, 98] [584, 586, 593, 594, 595, 596, 598, 599, 600, 604, 606, 610, 612, 615, 616, 607, 608, 609, 611, 597, 620, 640, 655, 669, 670, 144, 172, 592, 671, 672, 145, 673, 674, 146, 587, 588, 589, 590, 675, 676, 147, 677, 678, 148, 619] rfl (by decide +kernel) (by decide +kernel)) gclX12)
set_option maxRecDepth 100000 in
theorem gL_law_X12_read : GoodIn wsL_law (wsV RL 27 RX12 yX12_read wsX12_read) := goodIn_app (goodIn_r _ [666, 667, 668, 172] (by decide +kernel) (by decide +kernel)) ggL_law_X12_read
set_option maxRecDepth 100000 in
theorem ggL_law_X12_rest : GoodIn wsL_law wsX12_rest := goodIn_hd (List.mem_of_getElem? (i := 127) rfl) rfl (goodIn_app (goodIn_q _ [102] [616, 598, 612, 687, 688, 172] rfl (by decide +kernel) (by decide +kernel)) gclX12)
set_option maxRecDepth 100000 in
theorem gL_law_X12_rest : GoodIn wsL_law (wsV RL 127 RX12 yX12_rest wsX12_rest) := goodIn_app (goodIn_r _ [758, 759, 760, 172] (by decide +kernel) (by decide +kernel)) ggL_law_X12_rest
set_option maxRecDepth 100000 in
theorem ggL_law_X12_restore : GoodIn wsL_law wsX12_restore := goodIn_hd (List.mem_of_getElem? (i := 137) rfl) rfl (goodIn_app (goodIn_q _ [102] [655, 687, 688, 172] rfl (by decide +kernel) (by decide +kernel)) gclX12)
set_option maxRecDepth 100000 in
theorem gL_law_X12_restore : GoodIn wsL_law (wsV RL 154 RX12 yX12_restore wsX12_restore) := goodIn_app (goodIn_r _ [785, 786, 787, 172] (by decide +kernel) (by decide +kernel)) ggL_law_X12_restore
set_option maxRecDepth 100000 in
theorem ggL_law_X12_riches : GoodIn wsL_law wsX12_riches := goodIn_hd (List.mem_of_getElem? (i := 121) rfl) rfl (goodIn_app (goodIn_q _ [101, 102] [606, 598, 685, 686, 149, 172, 687, 688] rfl (by decide +kernel) (by decide +kernel)) gclX12)
set_option maxRecDepth 100000 in
theorem gL_law_X12_riches : GoodIn wsL_law (wsV RL 103 RX12 yX12_riches wsX12_riches) := goodIn_app (goodIn_r _ [740, 741, 742, 172] (by decide +kernel) (by decide +kernel)) ggL_law_X12_riches
set_option maxRecDepth 100000 in
theorem ggL_law_X12_rid : GoodIn wsL_law wsX12_rid := goodIn_hd (List.mem_of_getElem? (i := 116) rfl) rfl (goodIn_app (goodIn_q _ [107, 102] [700, 701, 151, 172, 612, 598, 687, 688] rfl (by decide +kernel) (by decide +kernel)) gclX12)
set_option maxRecDepth 100000 in
theorem gL_law_X12_rid : GoodIn wsL_law (wsV RL 83 RX12 yX12_rid wsX12_rid) := goodIn_app (goodIn_r _ [725, 726, 727, 172] (by decide +kernel) (by decide +kernel)) ggL_law_X12_rid
set_option maxRecDepth 100000 in
theorem ggL_law_X12_round : GoodIn wsL_law wsX12_round := goodIn_hd (List.mem_of_getElem? (i := 122) rfl) rfl (goodIn_app (goodIn_q _ [107, 102] [598, 700, 701, 151, 172, 612, 687, 688] rfl (by decide +kernel) (by decide +kernel)) gclX12)
set_option maxRecDepth 100000 in
theorem gL_law_X12_round : GoodIn wsL_law (wsV RL 107 RX12 yX12_round wsX12_round) := goodIn_app (goodIn_r _ [743, 744, 745, 172] (by decide +kernel) (by decide +kernel)) ggL_law_X12_round
set_option maxRecDepth 100000 in
theorem ggL_law_X12_see : GoodIn wsL_law wsX12_see := goodIn_hd (List.mem_of_getElem? (i := 128) rfl) rfl (goodIn_app (goodIn_q _ [101, 102] [640, 685, 686, 149, 172, 606, 598, 687, 688] rfl (by decide +kernel) (by decide +kernel)) gclX12)
set_option maxRecDepth 100000 in
theorem gL_law_X12_see : GoodIn wsL_law (wsV RL 131 RX12 yX12_see wsX12_see) := goodIn_app (goodIn_r _ [761, 762, 763, 172] (by decide +kernel) (by decide +kernel)) ggL_law_X12_see
set_option maxRecDepth 100000 in
theorem ggL_law_X12_step : GoodIn wsL_law wsX12_step := goodIn_hd (List.mem_of_getElem? (i := 115) rfl) rfl (goodIn_app (goodIn_q _ [114, 107, 102] [720, 721, 152, 172, 700, 701, 151, 612, 598, 687, 688] rfl (by decide +kernel) (by decide +kernel)) gclX12)
set_option maxRecDepth 100000 in
theorem gL_law_X12_step : GoodIn wsL_law (wsV RL 78 RX12 yX12_step wsX12_step) := goodIn_app (goodIn_r _ [722, 723, 724, 172] (by decide +kernel) (by decide +kernel)) ggL_law_X12_step
set_option maxRecDepth 100000 in
theorem ggL_law_X12_table : GoodIn wsL_law wsX12_table := goodIn_hd (List.mem_of_getElem? (i := 105) rfl) rfl (goodIn_app (goodIn_q _ [101, 102] [685, 686, 149, 172, 606, 598, 687, 688] rfl (by decide +kernel) (by decide +kernel)) gclX12)
set_option maxRecDepth 100000 in
theorem gL_law_X12_table : GoodIn wsL_law (wsV RL 44 RX12 yX12_table wsX12_table) := goodIn_app (goodIn_r _ [694, 695, 696, 172] (by decide +kernel) (by decide +kernel)) ggL_law_X12_table
set_option maxRecDepth 100000 in
theorem ggL_law_X12_turned : GoodIn wsL_law wsX12_turned := goodIn_hd (List.mem_of_getElem? (i := 125) rfl) rfl (goodIn_app (goodIn_q _ [104, 102] [598, 692, 693, 150, 172, 604, 687, 688] rfl (by decide +kernel) (by decide +kernel)) gclX12)
set_option maxRecDepth 100000 in
theorem gL_law_X12_turned : GoodIn wsL_law (wsV RL 119 RX12 yX12_turned wsX12_turned) := goodIn_app (goodIn_r _ [752, 753, 754, 172] (by decide +kernel) (by decide +kernel)) ggL_law_X12_turned
set_option maxRecDepth 100000 in
theorem ggL_law_X12_undo : GoodIn wsL_law wsX12_undo := goodIn_hd (List.mem_of_getElem? (i := 112) rfl) rfl (goodIn_app (goodIn_q _ [] [620] rfl (by decide +kernel) (by decide +kernel)) gclX12)
set_option maxRecDepth 100000 in
theorem gL_law_X12_undo : GoodIn wsL_law (wsV RL 70 RX12 yX12_undo wsX12_undo) := goodIn_app (goodIn_r _ [714, 715, 716, 172] (by decide +kernel) (by decide +kernel)) ggL_law_X12_undo
set_option maxRecDepth 100000 in
theorem ggL_law_X12_visitors : GoodIn wsL_law wsX12_visitors := goodIn_hd (List.mem_of_getElem? (i := 135) rfl) rfl (goodIn_app (goodIn_q _ [101, 102] [598, 685, 686, 149, 172, 606, 687, 688] rfl (by decide +kernel) (by decide +kernel)) gclX12)
set_option maxRecDepth 100000 in
theorem gL_law_X12_visitors : GoodIn wsL_law (wsV RL 145 RX12 yX12_visitors wsX12_visitors) := goodIn_app (goodIn_r _ [779, 780, 781, 172] (by decide +kernel) (by decide +kernel)) ggL_law_X12_visitors
set_option maxRecDepth 100000 in
theorem ggL_law_X12_way : GoodIn wsL_law wsX12_way := goodIn_hd (List.mem_of_getElem? (i := 113) rfl) rfl (goodIn_app (goodIn_q _ [114, 107, 102] [720, 721, 152, 172, 700, 701, 151, 612, 598, 687, 688] rfl (by decide +kernel) (by decide +kernel)) gclX12)
set_option maxRecDepth 100000 in
theorem gL_law_X12_way : GoodIn wsL_law (wsV RL 74 RX12 yX12_way wsX12_way) := goodIn_app (goodIn_r _ [717, 718, 719, 172] (by decide +kernel) (by decide +kernel)) ggL_law_X12_way
set_option maxRecDepth 100000 in
theorem ggL_law_X12_worth : GoodIn wsL_law wsX12_worth := goodIn_hd (List.mem_of_getElem? (i := 103) rfl) rfl (goodIn_app (goodIn_q _ [104, 102] [598, 692, 693, 150, 172, 604, 687, 688] rfl (by decide +kernel) (by decide +kernel)) gclX12)
set_option maxRecDepth 100000 in
theorem gL_law_X12_worth : GoodIn wsL_law (wsV RL 40 RX12 yX12_worth wsX12_worth) := goodIn_app (goodIn_r _ [689, 690, 691, 172] (by decide +kernel) (by decide +kernel)) ggL_law_X12_worth
set_option maxRecDepth 100000 in
theorem ggL_law_X12_year : GoodIn wsL_law wsX12_year := goodIn_hd (List.mem_of_getElem? (i := 126) rfl) rfl (goodIn_app (goodIn_q _ [102] [612, 598, 687, 688, 172] rfl (by decide +kernel) (by decide +kernel)) gclX12)
set_option maxRecDepth 100000 in
theorem gL_law_X12_year : GoodIn wsL_law (wsV RL 123 RX12 yX12_year wsX12_year) := goodIn_app (goodIn_r _ [755, 756, 757, 172] (by decide +kernel) (by decide +kernel)) ggL_law_X12_year
set_option maxRecDepth 100000 in
theorem ggL_law_X11_init : GoodIn wsL_law wsX11_init := goodIn_hd (List.mem_of_getElem? (i := 0) rfl) rfl (goodIn_app (goodIn_app (goodIn_app (goodIn_app (goodIn_app (goodIn_app (goodIn_app (goodIn_app (goodIn_app (goodIn_app (goodIn_app (goodIn_app (goodIn_q _ [1, 2, 3, 4, 5, 6, 7, 8, 9, 10, 11, 12, 13, 14, 15, 16, 17, 18, 19, 20, 21] [180, 181, 182, 183, 158, 365, 268, 366, 271, 272, 164, 367, 368, 282, 283, 165, 369, 292, 293, 166, 370, 314, 315, 168, 371, 322, 323, 169, 372, 335, 336, 170, 373, 351, 352, 171, 374, 364, 233, 163, 375, 184, 185, 186, 187, 159, 267, 232, 269, 188, 189, 221, 229, 223, 230, 224, 231, 225, 226, 227, 228, 190, 191, 192, 193, 194, 160, 791, 195, 196, 197, 198, 792, 199, 200, 201, 202, 203, 204, 205, 206, 161, 207, 208, 209, 210, 211, 162, 212, 213, 214, 234, 235, 252, 253, 254, 255, 256, 257, 258, 259, 261, 263, 265, 266, 273, 274, 277, 278, 279, 280, 281, 284, 285, 288, 289, 290, 291, 294, 295, 305, 306, 296, 307, 309, 297, 298, 167, 310, 302, 311, 312, 313, 299, 300, 301, 303, 304, 316, 317, 319, 320, 318, 321, 324, 325, 326, 327, 328, 329, 330, 331, 332, 333, 334, 337, 338, 339, 340, 349, 350, 353, 354, 357, 358, 359, 360, 362, 363] rfl (by decide +kernel) (by decide +kernel)) gclX0) gclX1) gclX2) gclX3) gclX4) gclX5) gclX6) gclX7) gclX8) gclX9) gclX10) gclX11)
set_option maxRecDepth 100000 in
theorem ggL_law_X12_init : GoodIn wsL_law wsX12_init := goodIn_hd (List.mem_of_getElem? (i := 87) rfl) rfl (goodIn_app (goodIn_q _ [1, 88, 89] [577, 181, 229, 583, 585, 230, 587, 588, 589, 231, 590, 591, 597, 601, 602, 603, 604, 605, 606, 607, 608, 657, 609, 610, 611, 612, 613, 614, 615, 616, 617, 618, 619, 621, 622, 623, 624, 625, 626, 627, 628, 629, 630, 631, 632, 633, 634, 635, 636, 637, 638, 639, 641, 642, 643, 644, 645, 648, 649, 650, 651, 653, 654, 655, 656, 578, 579, 172, 580, 581, 582] rfl (by decide +kernel) (by decide +kernel)) gclX12)

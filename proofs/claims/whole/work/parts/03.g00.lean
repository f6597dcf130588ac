set_option maxRecDepth 20000 in
theorem ggX0_runWhole_X0_clear : GoodIn wsX0_runWhole wsX0_clear := goodIn_r _ [9, 10, 11, 12, 13, 14, 4, 1, 15, 16, 17, 18, 2, 19, 20, 21, 22, 85, 86, 87, 88, 89, 90, 91, 92, 93, 94, 95, 96, 97] rfl (by decide +kernel)
set_option maxRecDepth 20000 in
theorem gX0_runWhole_X0_clear : GoodIn wsX0_runWhole (wsV RX0 52 RX0 yX0_clear wsX0_clear) := goodIn_app (goodIn_of _ (by decide +kernel)) ggX0_runWhole_X0_clear
set_option maxRecDepth 20000 in
theorem ggX0_runWhole_X0_doAct : GoodIn wsX0_runWhole wsX0_doAct := goodIn_r _ [26, 27, 28, 29, 2, 30, 10, 12, 3, 1, 4, 31, 32, 8, 33, 34, 35, 36, 37, 14, 38, 39, 40, 41, 42, 43, 44, 45, 46, 47, 48, 11, 49, 50, 51, 52, 53, 54, 55, 56, 57, 58, 59, 60, 61, 62, 63, 15, 16, 17, 18, 64, 65, 66, 67, 68, 69, 70, 71, 72, 73, 74, 75, 76, 77, 78, 79, 13, 80, 81, 82, 83, 84, 98, 99, 100, 101, 102, 85, 86, 87, 88, 89, 90, 91, 92, 93, 94, 95, 96, 97, 103, 104] rfl (by decide +kernel)
set_option maxRecDepth 20000 in
theorem gX0_runWhole_X0_doAct : GoodIn wsX0_runWhole (wsV RX0 60 RX0 yX0_doAct wsX0_doAct) := goodIn_app (goodIn_of _ (by decide +kernel)) ggX0_runWhole_X0_doAct
set_option maxRecDepth 20000 in
theorem ggX0_clear_J7_fill_53178 : GoodIn wsX0_clear wsJ7_fill_53178 := goodIn_r _ [16] rfl (by decide +kernel)
set_option maxRecDepth 20000 in
theorem gX0_clear_J7_fill_53178 : GoodIn wsX0_clear (va_wsS RX0 64 yJ7_fill_53178 wsJ7_fill_53178) := goodIn_app (goodIn_of _ (by decide +kernel)) ggX0_clear_J7_fill_53178
set_option maxRecDepth 20000 in
theorem ggX0_doAct_X0_asRegister : GoodIn wsX0_doAct wsX0_asRegister := goodIn_r _ [14] rfl (by decide +kernel)
set_option maxRecDepth 20000 in
theorem gX0_doAct_X0_asRegister : GoodIn wsX0_doAct (va_wsS RX0 73 yX0_asRegister wsX0_asRegister) := goodIn_app (goodIn_of _ (by decide +kernel)) ggX0_doAct_X0_asRegister
set_option maxRecDepth 20000 in
theorem ggX0_doAct_X0_readByte : GoodIn wsX0_doAct wsX0_readByte := goodIn_r _ [18, 19, 20, 21, 22, 23, 24, 25, 26, 27, 28, 29, 13, 30, 6, 31, 7, 78, 79, 80, 81, 82, 83, 84, 85, 86, 87, 88, 89, 90, 91, 92] rfl (by decide +kernel)
set_option maxRecDepth 20000 in
theorem gX0_doAct_X0_readByte : GoodIn wsX0_doAct (wsV RX0 86 RX0 yX0_readByte wsX0_readByte) := goodIn_app (goodIn_of _ (by decide +kernel)) ggX0_doAct_X0_readByte
set_option maxRecDepth 20000 in
theorem ggX0_doAct_X0_make : GoodIn wsX0_doAct wsX0_make := goodIn_r _ [30, 6, 31, 7, 78, 79, 80, 81, 82, 83, 84, 85, 86, 87, 88, 89, 90] rfl (by decide +kernel)
set_option maxRecDepth 20000 in
theorem gX0_doAct_X0_make : GoodIn wsX0_doAct (wsV RX0 90 RX0 yX0_make wsX0_make) := goodIn_app (goodIn_of _ (by decide +kernel)) ggX0_doAct_X0_make
set_option maxRecDepth 20000 in
theorem ggX0_doAct_X0_carry : GoodIn wsX0_doAct wsX0_carry := goodIn_r _ [35, 6, 31, 7, 78, 79, 80, 81, 82, 83, 84, 85, 86, 87, 88, 89, 90] rfl (by decide +kernel)
set_option maxRecDepth 20000 in
theorem gX0_doAct_X0_carry : GoodIn wsX0_doAct (wsV RX0 94 RX0 yX0_carry wsX0_carry) := goodIn_app (goodIn_of _ (by decide +kernel)) ggX0_doAct_X0_carry
set_option maxRecDepth 20000 in
theorem ggX0_doAct_X0_load : GoodIn wsX0_doAct wsX0_load := goodIn_r _ [39, 6, 7, 40, 41, 13, 42, 32, 33, 34, 35, 31, 43, 44, 45, 46, 9, 47, 48, 49, 50, 78, 79, 80, 81, 82, 83, 84, 85, 86, 87, 88, 89, 90] rfl (by decide +kernel)
set_option maxRecDepth 20000 in
theorem gX0_doAct_X0_load : GoodIn wsX0_doAct (wsV RX0 98 RX0 yX0_load wsX0_load) := goodIn_app (goodIn_of _ (by decide +kernel)) ggX0_doAct_X0_load
set_option maxRecDepth 20000 in
theorem ggX0_doAct_X0_store : GoodIn wsX0_doAct wsX0_store := goodIn_r _ [54, 6, 7, 40, 41, 13, 42, 32, 33, 34, 35, 31, 43, 44, 45, 46, 9, 47, 48, 49, 50, 78, 79, 80, 81, 82, 83, 84, 85, 86, 87, 88, 89, 90] rfl (by decide +kernel)
set_option maxRecDepth 20000 in
theorem gX0_doAct_X0_store : GoodIn wsX0_doAct (wsV RX0 101 RX0 yX0_store wsX0_store) := goodIn_app (goodIn_of _ (by decide +kernel)) ggX0_doAct_X0_store
set_option maxRecDepth 20000 in
theorem ggX0_doAct_X0_goIf : GoodIn wsX0_doAct wsX0_goIf := goodIn_r _ [58, 4, 78, 79, 80, 81, 82, 83, 84, 85, 86, 87, 88, 89, 90] rfl (by decide +kernel)
set_option maxRecDepth 20000 in
theorem gX0_doAct_X0_goIf : GoodIn wsX0_doAct (wsV RX0 104 RX0 yX0_goIf wsX0_goIf) := goodIn_app (goodIn_of _ (by decide +kernel)) ggX0_doAct_X0_goIf
set_option maxRecDepth 20000 in
theorem ggX0_doAct_X0_jump : GoodIn wsX0_doAct wsX0_jump := goodIn_r _ [62, 6, 4, 43, 44, 45, 13, 46, 9, 47, 48, 31, 49, 7, 50, 78, 79, 80, 81, 82, 83, 84, 85, 86, 87, 88, 89, 90] rfl (by decide +kernel)
set_option maxRecDepth 20000 in
theorem gX0_doAct_X0_jump : GoodIn wsX0_doAct (wsV RX0 108 RX0 yX0_jump wsX0_jump) := goodIn_app (goodIn_of _ (by decide +kernel)) ggX0_doAct_X0_jump
set_option maxRecDepth 20000 in
theorem ggX0_doAct_X0_tell : GoodIn wsX0_doAct wsX0_tell := goodIn_r _ [66, 67, 68, 78, 79, 80, 81, 82, 83, 84, 85, 86, 87, 88, 89, 90] rfl (by decide +kernel)
set_option maxRecDepth 20000 in
theorem gX0_doAct_X0_tell : GoodIn wsX0_doAct (wsV RX0 111 RX0 yX0_tell wsX0_tell) := goodIn_app (goodIn_of _ (by decide +kernel)) ggX0_doAct_X0_tell
set_option maxRecDepth 20000 in
theorem ggX0_doAct_X0_endedAtAct : GoodIn wsX0_doAct wsX0_endedAtAct := goodIn_r _ [72, 47, 78, 79, 80, 81, 82, 83, 84, 85, 86, 87, 88, 89, 90] rfl (by decide +kernel)
set_option maxRecDepth 20000 in
theorem gX0_doAct_X0_endedAtAct : GoodIn wsX0_doAct (wsV RX0 115 RX0 yX0_endedAtAct wsX0_endedAtAct) := goodIn_app (goodIn_of _ (by decide +kernel)) ggX0_doAct_X0_endedAtAct
set_option maxRecDepth 20000 in
theorem ggX0_readByte_X3_byteAt : GoodIn wsX0_readByte wsX3_byteAt := goodIn_r _ [6, 7, 8, 30, 31] rfl (by decide +kernel)
set_option maxRecDepth 20000 in
theorem gX0_readByte_X3_byteAt : GoodIn wsX0_readByte (wsV RX0 119 RX3 yX3_byteAt wsX3_byteAt) := goodIn_app (goodIn_of _ (by decide +kernel)) ggX0_readByte_X3_byteAt
set_option maxRecDepth 20000 in
theorem ggX0_readByte_X0_make : GoodIn wsX0_readByte wsX0_make := goodIn_r _ [13, 14, 15, 16, 17, 18, 19, 20, 21, 22, 23, 24, 25, 26, 27, 28, 29] rfl (by decide +kernel)
set_option maxRecDepth 20000 in
theorem gX0_readByte_X0_make : GoodIn wsX0_readByte (wsV RX0 90 RX0 yX0_make wsX0_make) := goodIn_app (goodIn_of _ (by decide +kernel)) ggX0_readByte_X0_make
set_option maxRecDepth 20000 in
theorem ggX0_load_X0_isPlace : GoodIn wsX0_load wsX0_isPlace := goodIn_r _ [6] rfl (by decide +kernel)
set_option maxRecDepth 20000 in
theorem gX0_load_X0_isPlace : GoodIn wsX0_load (va_wsS RX0 124 yX0_isPlace wsX0_isPlace) := goodIn_app (goodIn_of _ (by decide +kernel)) ggX0_load_X0_isPlace
set_option maxRecDepth 20000 in
theorem ggX0_load_X0_carry : GoodIn wsX0_load wsX0_carry := goodIn_r _ [10, 1, 11, 2, 21, 22, 23, 24, 25, 26, 27, 28, 29, 30, 31, 32, 33] rfl (by decide +kernel)
set_option maxRecDepth 20000 in
theorem gX0_load_X0_carry : GoodIn wsX0_load (wsV RX0 94 RX0 yX0_carry wsX0_carry) := goodIn_app (goodIn_of _ (by decide +kernel)) ggX0_load_X0_carry
set_option maxRecDepth 20000 in
theorem ggX0_load_X0_endBadly : GoodIn wsX0_load wsX0_endBadly := goodIn_r _ [15, 16, 17, 1, 18, 11, 19, 2, 20, 21, 22, 23, 24, 25, 26, 27, 28, 29, 30, 31, 32, 33] rfl (by decide +kernel)
set_option maxRecDepth 20000 in
theorem gX0_load_X0_endBadly : GoodIn wsX0_load (wsV RX0 128 RX0 yX0_endBadly wsX0_endBadly) := goodIn_app (goodIn_of _ (by decide +kernel)) ggX0_load_X0_endBadly
set_option maxRecDepth 20000 in
theorem ggX0_store_X0_isPlace : GoodIn wsX0_store wsX0_isPlace := goodIn_r _ [6] rfl (by decide +kernel)
set_option maxRecDepth 20000 in
theorem gX0_store_X0_isPlace : GoodIn wsX0_store (va_wsS RX0 124 yX0_isPlace wsX0_isPlace) := goodIn_app (goodIn_of _ (by decide +kernel)) ggX0_store_X0_isPlace
set_option maxRecDepth 20000 in
theorem ggX0_store_X0_carry : GoodIn wsX0_store wsX0_carry := goodIn_r _ [10, 1, 11, 2, 21, 22, 23, 24, 25, 26, 27, 28, 29, 30, 31, 32, 33] rfl (by decide +kernel)
set_option maxRecDepth 20000 in
theorem gX0_store_X0_carry : GoodIn wsX0_store (wsV RX0 94 RX0 yX0_carry wsX0_carry) := goodIn_app (goodIn_of _ (by decide +kernel)) ggX0_store_X0_carry
set_option maxRecDepth 20000 in
theorem ggX0_store_X0_endBadly : GoodIn wsX0_store wsX0_endBadly := goodIn_r _ [15, 16, 17, 1, 18, 11, 19, 2, 20, 21, 22, 23, 24, 25, 26, 27, 28, 29, 30, 31, 32, 33] rfl (by decide +kernel)
set_option maxRecDepth 20000 in
theorem gX0_store_X0_endBadly : GoodIn wsX0_store (wsV RX0 128 RX0 yX0_endBadly wsX0_endBadly) := goodIn_app (goodIn_of _ (by decide +kernel)) ggX0_store_X0_endBadly
set_option maxRecDepth 20000 in
theorem ggX0_jump_X0_endBadly : GoodIn wsX0_jump wsX0_endBadly := goodIn_r _ [7, 8, 9, 1, 10, 11, 12, 13, 14, 15, 16, 17, 18, 19, 20, 21, 22, 23, 24, 25, 26, 27] rfl (by decide +kernel)
set_option maxRecDepth 20000 in
theorem gX0_jump_X0_endBadly : GoodIn wsX0_jump (wsV RX0 128 RX0 yX0_endBadly wsX0_endBadly) := goodIn_app (goodIn_of _ (by decide +kernel)) ggX0_jump_X0_endBadly
set_option maxRecDepth 20000 in
theorem ggX1_init_X5_init : GoodIn wsX1_init wsX5_init := goodIn_r _ [24, 25, 2, 3, 11, 26, 27, 8, 28, 29, 91, 92, 93, 94] rfl (by decide +kernel)
set_option maxRecDepth 20000 in
theorem gX1_init_X5_init_n11 : GoodIn wsX1_init (wsX5_init) := ggX1_init_X5_init
set_option maxRecDepth 20000 in
theorem ggX1_init_X2_init : GoodIn wsX1_init wsX2_init := goodIn_r _ [31, 32, 2, 3, 11, 33, 34, 35, 36, 37, 106, 107, 108, 109, 110] rfl (by decide +kernel)
set_option maxRecDepth 20000 in
theorem gX1_init_X2_init_n44 : GoodIn wsX1_init (wsX2_init) := ggX1_init_X2_init
set_option maxRecDepth 20000 in
theorem ggX1_init_J0_length_8abf5 : GoodIn wsX1_init wsJ0_length_8abf5 := goodIn_r _ [42, 43, 44, 45, 46, 41, 47, 48, 49] rfl (by decide +kernel)
set_option maxRecDepth 20000 in
theorem gX1_init_J0_length_8abf5 : GoodIn wsX1_init (wsV RX1 57 RJ0 yJ0_length_8abf5 wsJ0_length_8abf5) := goodIn_app (goodIn_of _ (by decide +kernel)) ggX1_init_J0_length_8abf5
set_option maxRecDepth 20000 in
theorem ggX1_init_J0_charAt_5068e : GoodIn wsX1_init wsJ0_charAt_5068e := goodIn_r _ [53, 43, 54, 55, 56, 41, 57, 48, 49, 58, 59, 60, 61, 62, 63, 64, 65, 66, 67, 68, 69, 70, 71, 72, 73, 74, 75, 76, 77, 78, 79, 80, 81, 82, 83, 84, 85, 86] rfl (by decide +kernel)
set_option maxRecDepth 20000 in
theorem gX1_init_J0_charAt_5068e : GoodIn wsX1_init (wsV RX1 63 RJ0 yJ0_charAt_5068e wsJ0_charAt_5068e) := goodIn_app (goodIn_of _ (by decide +kernel)) ggX1_init_J0_charAt_5068e
set_option maxRecDepth 20000 in
theorem ggX1_init_X7_withLetter : GoodIn wsX1_init wsX7_withLetter := goodIn_r _ [89, 90] rfl (by decide +kernel)
set_option maxRecDepth 20000 in
theorem gX1_init_X7_withLetter_n67 : GoodIn wsX1_init (wsX7_withLetter) := ggX1_init_X7_withLetter
set_option maxRecDepth 20000 in
theorem ggX1_parse_X5_readFrom : GoodIn wsX1_parse wsX5_readFrom := goodIn_r _ [12, 13, 14, 15, 16, 17, 18, 11, 19, 20, 21, 22, 23, 24, 25, 26, 27, 28, 29, 30, 31, 32, 33, 34, 35, 36, 37, 38, 39, 40, 41, 42, 43, 44, 45, 46, 47, 48, 49, 50, 51, 52, 133, 134, 135, 136, 137, 138] rfl (by decide +kernel)
set_option maxRecDepth 20000 in
theorem gX1_parse_X5_readFrom : GoodIn wsX1_parse (wsV RX1 74 RX5 yX5_readFrom wsX5_readFrom) := goodIn_app (goodIn_of _ (by decide +kernel)) ggX1_parse_X5_readFrom
set_option maxRecDepth 20000 in
theorem ggX1_parse_X1_readLine : GoodIn wsX1_parse wsX1_readLine := goodIn_r _ [57, 5, 58, 59, 60, 56, 61, 7, 62, 4, 63, 64, 65, 66, 67, 68, 69, 70, 71, 72, 73, 74, 75, 76, 3, 77, 78, 1, 2, 79, 80, 81, 82, 83, 6, 84, 85, 86, 87, 88, 89, 90, 91, 92, 93, 94, 95, 96, 97, 98, 99, 100, 101, 102, 103, 104, 105, 106, 107, 108, 109, 110, 111, 112, 117, 118, 119, 120, 121, 122, 123, 124, 125, 126, 127, 133, 134, 135, 136, 128, 129, 130, 131, 132] rfl (by decide +kernel)
set_option maxRecDepth 20000 in
theorem gX1_parse_X1_readLine : GoodIn wsX1_parse (wsV RX1 78 RX1 yX1_readLine wsX1_readLine) := goodIn_app (goodIn_of _ (by decide +kernel)) ggX1_parse_X1_readLine
set_option maxRecDepth 20000 in
theorem ggX1_parse_X1_findWanted : GoodIn wsX1_parse wsX1_findWanted := goodIn_r _ [116, 1, 2, 5, 96, 111, 112, 6, 99, 78, 104, 105, 56, 106, 84, 85, 86, 87, 3, 77, 117, 118, 119, 120, 121, 122, 123, 124, 125, 126, 127, 128, 129, 130, 131, 132] rfl (by decide +kernel)
set_option maxRecDepth 20000 in
theorem gX1_parse_X1_findWanted : GoodIn wsX1_parse (wsV RX1 82 RX1 yX1_findWanted wsX1_findWanted) := goodIn_app (goodIn_of _ (by decide +kernel)) ggX1_parse_X1_findWanted
set_option maxRecDepth 20000 in
theorem ggX1_readLine_X1_labelIsNext : GoodIn wsX1_readLine wsX1_labelIsNext := goodIn_r _ [6, 7, 8, 9, 10, 11, 12, 5, 13, 14, 15, 16, 17, 18, 19, 64, 65, 66, 67, 68, 69, 70, 71, 72, 73, 74, 75, 76, 77, 78] rfl (by decide +kernel)
set_option maxRecDepth 20000 in
theorem gX1_readLine_X1_labelIsNext : GoodIn wsX1_readLine (wsV RX1 85 RX1 yX1_labelIsNext wsX1_labelIsNext) := goodIn_app (goodIn_of _ (by decide +kernel)) ggX1_readLine_X1_labelIsNext
set_option maxRecDepth 20000 in
theorem ggX1_readLine_X1_readLabel : GoodIn wsX1_readLine wsX1_readLabel := goodIn_r _ [23, 24, 7, 8, 9, 25, 26, 27, 28, 29, 30, 31, 5, 32, 1, 33, 34, 35, 36, 37, 38, 39, 40, 41, 42, 10, 11, 12, 13, 14, 64, 65, 66, 67, 68, 69, 70, 71, 72, 73, 74, 75, 76, 77, 78, 79, 80, 81, 82, 83] rfl (by decide +kernel)
set_option maxRecDepth 20000 in
theorem gX1_readLine_X1_readLabel : GoodIn wsX1_readLine (wsV RX1 88 RX1 yX1_readLabel wsX1_readLabel) := goodIn_app (goodIn_of _ (by decide +kernel)) ggX1_readLine_X1_readLabel
set_option maxRecDepth 20000 in
theorem ggX1_readLine_X1_kindOfToken : GoodIn wsX1_readLine wsX1_kindOfToken := goodIn_r _ [13, 7, 14, 9, 64, 65, 66, 67, 68, 69, 70, 71, 72, 73, 74, 75, 76, 77, 78] rfl (by decide +kernel)
set_option maxRecDepth 20000 in
theorem gX1_readLine_X1_kindOfToken : GoodIn wsX1_readLine (wsV RX1 91 RX1 yX1_kindOfToken wsX1_kindOfToken) := goodIn_app (goodIn_of _ (by decide +kernel)) ggX1_readLine_X1_kindOfToken
set_option maxRecDepth 20000 in
theorem ggX1_readLine_X1_readAct : GoodIn wsX1_readLine wsX1_readAct := goodIn_r _ [46, 7, 8, 9, 27, 28, 47, 48, 49, 50, 15, 16, 17, 5, 18, 19, 29, 30, 31, 32, 1, 33, 34, 39, 40, 41, 42, 10, 11, 12, 13, 14, 51, 52, 53, 54, 55, 56, 57, 58, 59, 60, 61, 62, 63, 2, 3, 4, 6, 64, 65, 66, 67, 68, 69, 70, 71, 72, 73, 74, 75, 76, 77, 78, 79, 80, 81, 82, 83] rfl (by decide +kernel)
set_option maxRecDepth 20000 in
theorem gX1_readLine_X1_readAct : GoodIn wsX1_readLine (wsV RX1 94 RX1 yX1_readAct wsX1_readAct) := goodIn_app (goodIn_of _ (by decide +kernel)) ggX1_readLine_X1_readAct
set_option maxRecDepth 20000 in
theorem ggX1_readLine_X1_take : GoodIn wsX1_readLine wsX1_take := goodIn_r _ [42, 1, 9, 10, 11, 12, 5, 13, 7, 14, 29, 30, 31, 32, 33, 34, 64, 65, 66, 67, 68, 69, 70, 71, 72, 73, 74, 75, 76, 77, 78] rfl (by decide +kernel)
set_option maxRecDepth 20000 in
theorem gX1_readLine_X1_take : GoodIn wsX1_readLine (wsV RX1 97 RX1 yX1_take wsX1_take) := goodIn_app (goodIn_of _ (by decide +kernel)) ggX1_readLine_X1_take

set_option maxRecDepth 20000 in
theorem ggX7_ruled_X7_isInput : GoodIn wsX7_ruled wsX7_isInput := goodIn_r _ [11, 12, 132, 133, 134, 135, 136, 137, 138, 139, 140, 141, 142] rfl (by decide +kernel)
set_option maxRecDepth 20000 in
theorem gX7_ruled_X7_isInput : GoodIn wsX7_ruled (wsV RX7 115 RX7 yX7_isInput wsX7_isInput) := goodIn_app (goodIn_of _ (by decide +kernel)) ggX7_ruled_X7_isInput
set_option maxRecDepth 20000 in
theorem ggX7_ruled_X6_rulingBytes : GoodIn wsX7_ruled wsX6_rulingBytes := goodIn_r _ [17, 18, 19, 20, 21, 22, 23, 24, 25, 26, 27, 28, 29, 30, 31, 32, 33, 34, 35, 36, 37, 38, 39, 40, 41, 42, 43, 44, 45, 46, 47, 48, 49, 50, 51, 52, 53, 54, 55, 56, 57, 58, 59, 60, 61, 62, 63, 64, 65, 66, 67, 68, 69, 70, 71, 72, 73, 74, 75, 76, 77, 78, 79, 80, 81, 82, 83, 84, 85, 86, 87, 88, 89, 90, 91, 92, 93, 94, 95, 96, 97, 98, 99, 100, 101, 102, 103, 104, 105, 106, 107, 108, 109, 110, 111, 112, 113, 114, 115, 116, 117, 118, 119, 120, 121, 16, 122, 123, 124, 125, 126, 127, 128, 129, 130, 131, 143, 144, 145, 146, 147, 148, 149, 150, 151, 152, 153, 154, 155, 156, 157, 158, 159, 160, 161, 162, 163, 164, 165, 166, 167, 168, 169] rfl (by decide +kernel)
set_option maxRecDepth 20000 in
theorem gX7_ruled_X6_rulingBytes : GoodIn wsX7_ruled (wsV RX7 201 RX6 yX6_rulingBytes wsX6_rulingBytes) := goodIn_app (goodIn_of _ (by decide +kernel)) ggX7_ruled_X6_rulingBytes
set_option maxRecDepth 20000 in
theorem ggX7_nearest_X7_isShelf : GoodIn wsX7_nearest wsX7_isShelf := goodIn_r _ [8] rfl (by decide +kernel)
set_option maxRecDepth 20000 in
theorem gX7_nearest_X7_isShelf : GoodIn wsX7_nearest (va_wsS RX7 77 yX7_isShelf wsX7_isShelf) := goodIn_app (goodIn_of _ (by decide +kernel)) ggX7_nearest_X7_isShelf
set_option maxRecDepth 20000 in
theorem ggX7_nearest_X7_isInput : GoodIn wsX7_nearest wsX7_isInput := goodIn_r _ [12, 13, 132, 133, 134, 135, 136, 137, 138, 139, 140, 141, 142] rfl (by decide +kernel)
set_option maxRecDepth 20000 in
theorem gX7_nearest_X7_isInput : GoodIn wsX7_nearest (wsV RX7 115 RX7 yX7_isInput wsX7_isInput) := goodIn_app (goodIn_of _ (by decide +kernel)) ggX7_nearest_X7_isInput
set_option maxRecDepth 20000 in
theorem ggX7_nearest_X6_findNearest : GoodIn wsX7_nearest wsX6_findNearest := goodIn_r _ [18, 19, 20, 21, 22, 23, 24, 25, 26, 27, 28, 29, 30, 31, 32, 33, 34, 35, 36, 37, 38, 39, 40, 41, 42, 43, 44, 45, 46, 47, 48, 49, 50, 51, 52, 53, 54, 55, 56, 57, 58, 59, 60, 61, 62, 63, 64, 65, 66, 67, 68, 69, 70, 71, 72, 73, 74, 75, 76, 77, 78, 79, 80, 81, 82, 83, 84, 85, 86, 87, 88, 89, 90, 91, 92, 93, 94, 95, 96, 97, 98, 99, 100, 101, 102, 103, 104, 105, 106, 107, 108, 109, 110, 111, 112, 113, 114, 115, 116, 117, 118, 119, 120, 121, 122, 123, 124, 17, 125, 126, 127, 128, 129, 130, 131, 143, 144, 145, 146, 147, 148, 149, 150, 151, 152, 153, 154, 155, 156, 157, 158, 159, 160, 161, 162, 163, 164, 165, 166, 167, 168, 169] rfl (by decide +kernel)
set_option maxRecDepth 20000 in
theorem gX7_nearest_X6_findNearest : GoodIn wsX7_nearest (wsV RX7 205 RX6 yX6_findNearest wsX6_findNearest) := goodIn_app (goodIn_of _ (by decide +kernel)) ggX7_nearest_X6_findNearest
set_option maxRecDepth 20000 in
theorem ggX7_nearestByte_X7_isShelf : GoodIn wsX7_nearestByte wsX7_isShelf := goodIn_r _ [8] rfl (by decide +kernel)
set_option maxRecDepth 20000 in
theorem gX7_nearestByte_X7_isShelf : GoodIn wsX7_nearestByte (va_wsS RX7 77 yX7_isShelf wsX7_isShelf) := goodIn_app (goodIn_of _ (by decide +kernel)) ggX7_nearestByte_X7_isShelf
set_option maxRecDepth 20000 in
theorem ggX7_nearestByte_X7_isInput : GoodIn wsX7_nearestByte wsX7_isInput := goodIn_r _ [12, 13, 132, 133, 134, 135, 136, 137, 138, 139, 140, 141, 142] rfl (by decide +kernel)
set_option maxRecDepth 20000 in
theorem gX7_nearestByte_X7_isInput : GoodIn wsX7_nearestByte (wsV RX7 115 RX7 yX7_isInput wsX7_isInput) := goodIn_app (goodIn_of _ (by decide +kernel)) ggX7_nearestByte_X7_isInput
set_option maxRecDepth 20000 in
theorem ggX7_nearestByte_X6_findNearest : GoodIn wsX7_nearestByte wsX6_findNearest := goodIn_r _ [18, 19, 20, 21, 22, 23, 24, 25, 26, 27, 28, 29, 30, 31, 32, 33, 34, 35, 36, 37, 38, 39, 40, 41, 42, 43, 44, 45, 46, 47, 48, 49, 50, 51, 52, 53, 54, 55, 56, 57, 58, 59, 60, 61, 62, 63, 64, 65, 66, 67, 68, 69, 70, 71, 72, 73, 74, 75, 76, 77, 78, 79, 80, 81, 82, 83, 84, 85, 86, 87, 88, 89, 90, 91, 92, 93, 94, 95, 96, 97, 98, 99, 100, 101, 102, 103, 104, 105, 106, 107, 108, 109, 110, 111, 112, 113, 114, 115, 116, 117, 118, 119, 120, 121, 122, 123, 124, 17, 125, 126, 127, 128, 129, 130, 131, 143, 144, 145, 146, 147, 148, 149, 150, 151, 152, 153, 154, 155, 156, 157, 158, 159, 160, 161, 162, 163, 164, 165, 166, 167, 168, 169] rfl (by decide +kernel)
set_option maxRecDepth 20000 in
theorem gX7_nearestByte_X6_findNearest : GoodIn wsX7_nearestByte (wsV RX7 205 RX6 yX6_findNearest wsX6_findNearest) := goodIn_app (goodIn_of _ (by decide +kernel)) ggX7_nearestByte_X6_findNearest
set_option maxRecDepth 20000 in
theorem ggX7_held_X7_isShelf : GoodIn wsX7_held wsX7_isShelf := goodIn_r _ [4] rfl (by decide +kernel)
set_option maxRecDepth 20000 in
theorem gX7_held_X7_isShelf : GoodIn wsX7_held (va_wsS RX7 77 yX7_isShelf wsX7_isShelf) := goodIn_app (goodIn_of _ (by decide +kernel)) ggX7_held_X7_isShelf
set_option maxRecDepth 20000 in
theorem ggX7_held_X7_isInput : GoodIn wsX7_held wsX7_isInput := goodIn_r _ [8, 9, 111, 112, 113, 114, 115, 116, 117, 118, 119, 120, 121] rfl (by decide +kernel)
set_option maxRecDepth 20000 in
theorem gX7_held_X7_isInput : GoodIn wsX7_held (wsV RX7 115 RX7 yX7_isInput wsX7_isInput) := goodIn_app (goodIn_of _ (by decide +kernel)) ggX7_held_X7_isInput
set_option maxRecDepth 20000 in
theorem ggX7_held_X7_holdOne : GoodIn wsX7_held wsX7_holdOne := goodIn_r _ [13, 14, 15, 16, 17, 18, 19, 20, 21, 22, 23, 24, 25, 26, 27, 28, 29, 30, 31, 32, 33, 34, 35, 36, 37, 38, 39, 40, 41, 42, 43, 44, 45, 46, 47, 48, 49, 50, 51, 52, 53, 54, 55, 56, 57, 58, 59, 60, 61, 62, 63, 64, 65, 66, 67, 68, 69, 70, 71, 72, 73, 74, 75, 76, 77, 78, 79, 80, 81, 82, 83, 84, 85, 86, 87, 88, 89, 90, 91, 92, 93, 94, 95, 96, 97, 98, 99, 100, 101, 102, 103, 104, 105, 106, 107, 108, 109, 110, 111, 112, 113, 114, 115, 116, 117, 118, 119, 120, 121, 122, 123, 124, 125, 126, 127, 128, 129, 130, 131, 132, 133, 134, 135, 136, 137, 138, 139, 140, 141] rfl (by decide +kernel)
set_option maxRecDepth 20000 in
theorem gX7_held_X7_holdOne : GoodIn wsX7_held (wsV RX7 214 RX7 yX7_holdOne wsX7_holdOne) := goodIn_app (goodIn_of _ (by decide +kernel)) ggX7_held_X7_holdOne
set_option maxRecDepth 20000 in
theorem ggX7_heldAll_X7_isShelf : GoodIn wsX7_heldAll wsX7_isShelf := goodIn_r _ [5] rfl (by decide +kernel)
set_option maxRecDepth 20000 in
theorem gX7_heldAll_X7_isShelf : GoodIn wsX7_heldAll (va_wsS RX7 77 yX7_isShelf wsX7_isShelf) := goodIn_app (goodIn_of _ (by decide +kernel)) ggX7_heldAll_X7_isShelf
set_option maxRecDepth 20000 in
theorem ggX7_heldAll_X7_holdOne : GoodIn wsX7_heldAll wsX7_holdOne := goodIn_r _ [9, 10, 11, 12, 13, 14, 15, 16, 17, 18, 19, 20, 21, 22, 23, 24, 25, 26, 27, 28, 29, 30, 31, 32, 33, 34, 35, 36, 37, 38, 39, 40, 41, 42, 43, 44, 45, 46, 47, 48, 49, 50, 51, 52, 53, 54, 55, 56, 57, 58, 59, 60, 61, 62, 63, 64, 65, 66, 67, 68, 69, 70, 71, 72, 73, 74, 75, 76, 77, 78, 79, 80, 81, 82, 83, 84, 85, 86, 87, 88, 89, 90, 91, 92, 93, 94, 95, 96, 97, 98, 99, 100, 101, 102, 103, 104, 105, 106, 107, 108, 109, 110, 111, 112, 113, 114, 115, 116, 117, 118, 119, 120, 121, 122, 123, 124, 125, 126, 127, 128, 129, 130, 131, 132, 133, 134, 135, 136, 137] rfl (by decide +kernel)
set_option maxRecDepth 20000 in
theorem gX7_heldAll_X7_holdOne : GoodIn wsX7_heldAll (wsV RX7 214 RX7 yX7_holdOne wsX7_holdOne) := goodIn_app (goodIn_of _ (by decide +kernel)) ggX7_heldAll_X7_holdOne
set_option maxRecDepth 20000 in
theorem ggX7_addFour_X3_add : GoodIn wsX7_addFour wsX3_add := goodIn_r _ [6, 7, 8, 20, 21] rfl (by decide +kernel)
set_option maxRecDepth 20000 in
theorem gX7_addFour_X3_add : GoodIn wsX7_addFour (wsV RX7 218 RX3 yX3_add wsX3_add) := goodIn_app (goodIn_of _ (by decide +kernel)) ggX7_addFour_X3_add
set_option maxRecDepth 20000 in
theorem ggX7_sortInputs_X0_runWhole : GoodIn wsX7_sortInputs wsX0_runWhole := goodIn_r _ [11, 12, 13, 14, 15, 16, 17, 18, 10, 19, 20, 21, 22, 23, 24, 25, 26, 27, 28, 29, 30, 31, 32, 33, 34, 35, 36, 37, 38, 39, 40, 41, 42, 43, 44, 45, 46, 47, 48, 49, 50, 51, 52, 53, 54, 55, 56, 57, 58, 59, 60, 61, 62, 63, 64, 65, 66, 67, 68, 69, 70, 71, 72, 73, 74, 75, 76, 77, 78, 79, 80, 81, 82, 83, 84, 85, 86, 87, 88, 89, 90, 91, 92, 93, 94, 136, 137, 138, 139, 140, 141, 142, 143, 144, 145, 146, 147, 148, 149, 150, 151, 152, 153, 154, 155] rfl (by decide +kernel)
set_option maxRecDepth 20000 in
theorem gX7_sortInputs_X0_runWhole : GoodIn wsX7_sortInputs (wsV RX7 122 RX0 yX0_runWhole wsX0_runWhole) := goodIn_app (goodIn_of _ (by decide +kernel)) ggX7_sortInputs_X0_runWhole
set_option maxRecDepth 20000 in
theorem ggX7_sortInputs_X4_sortIn : GoodIn wsX7_sortInputs wsX4_sortIn := goodIn_r _ [99, 100, 101, 102, 103, 104, 105, 98, 106, 107, 108, 109, 110, 111, 112, 113, 114, 115, 116, 117, 129, 130, 131, 132, 133, 134, 135, 136, 137, 138, 139, 140, 141, 142, 143, 144, 145, 146, 147, 148] rfl (by decide +kernel)
set_option maxRecDepth 20000 in
theorem gX7_sortInputs_X4_sortIn : GoodIn wsX7_sortInputs (wsV RX7 221 RX4 yX4_sortIn wsX4_sortIn) := goodIn_app (goodIn_of _ (by decide +kernel)) ggX7_sortInputs_X4_sortIn
set_option maxRecDepth 20000 in
theorem ggX7_holdOne_X0_runWhole : GoodIn wsX7_holdOne wsX0_runWhole := goodIn_r _ [10, 11, 12, 13, 14, 15, 16, 17, 9, 18, 19, 20, 21, 22, 23, 24, 25, 26, 27, 28, 29, 30, 31, 32, 33, 34, 35, 36, 37, 38, 39, 40, 41, 42, 43, 44, 45, 46, 47, 48, 49, 50, 51, 52, 53, 54, 55, 56, 57, 58, 59, 60, 61, 62, 63, 64, 65, 66, 67, 68, 69, 70, 71, 72, 73, 74, 75, 76, 77, 78, 79, 80, 81, 82, 83, 84, 85, 86, 87, 88, 89, 90, 91, 92, 93, 109, 110, 111, 112, 113, 114, 115, 116, 117, 118, 119, 120, 121, 122, 123, 124, 125, 126, 127, 128] rfl (by decide +kernel)
set_option maxRecDepth 20000 in
theorem gX7_holdOne_X0_runWhole : GoodIn wsX7_holdOne (wsV RX7 122 RX0 yX0_runWhole wsX0_runWhole) := goodIn_app (goodIn_of _ (by decide +kernel)) ggX7_holdOne_X0_runWhole
set_option maxRecDepth 20000 in
theorem ggX7_holdOne_X0_toldTheSame : GoodIn wsX7_holdOne wsX0_toldTheSame := goodIn_r _ [97, 22, 89, 109, 110, 111, 112, 113, 114, 115, 116, 117, 118, 119, 120, 121] rfl (by decide +kernel)
set_option maxRecDepth 20000 in
theorem gX7_holdOne_X0_toldTheSame : GoodIn wsX7_holdOne (wsV RX7 225 RX0 yX0_toldTheSame wsX0_toldTheSame) := goodIn_app (goodIn_of _ (by decide +kernel)) ggX7_holdOne_X0_toldTheSame
set_option maxRecDepth 20000 in
theorem ggX8_next_X8_sign : GoodIn wsX8_next wsX8_sign := goodIn_r _ [11, 3, 12, 23, 24, 25, 26, 27, 28, 29, 30, 31, 32, 33, 34, 35, 36, 37, 38, 39, 40, 41, 42, 43, 44, 45, 46, 47, 48, 49, 50, 51, 52, 53, 54, 55, 56, 57, 58, 59, 60, 61, 62, 63, 64, 65, 66, 67, 68, 69, 70, 71, 72, 73, 74, 75, 76, 77, 78, 79, 80, 81, 82] rfl (by decide +kernel)
set_option maxRecDepth 20000 in
theorem gX8_next_X8_sign : GoodIn wsX8_next (wsV RX8 124 RX8 yX8_sign wsX8_sign) := goodIn_app (goodIn_of _ (by decide +kernel)) ggX8_next_X8_sign
set_option maxRecDepth 20000 in
theorem ggX8_next_X8_isDigit : GoodIn wsX8_next wsX8_isDigit := goodIn_r _ [15] rfl (by decide +kernel)
set_option maxRecDepth 20000 in
theorem gX8_next_X8_isDigit : GoodIn wsX8_next (va_wsS RX8 131 yX8_isDigit wsX8_isDigit) := goodIn_app (goodIn_of _ (by decide +kernel)) ggX8_next_X8_isDigit
set_option maxRecDepth 20000 in
theorem ggX8_next_X8_isLetter : GoodIn wsX8_next wsX8_isLetter := goodIn_r _ [18] rfl (by decide +kernel)
set_option maxRecDepth 20000 in
theorem gX8_next_X8_isLetter : GoodIn wsX8_next (va_wsS RX8 135 yX8_isLetter wsX8_isLetter) := goodIn_app (goodIn_of _ (by decide +kernel)) ggX8_next_X8_isLetter
set_option maxRecDepth 20000 in
theorem ggX8_next_X8_numeral : GoodIn wsX8_next wsX8_numeral := goodIn_r _ [22, 2, 5, 1, 4, 7, 8, 9, 10, 11, 3, 12, 13, 14, 15, 16, 17, 18, 23, 24, 25, 26, 27, 28, 29, 30, 31, 32, 33, 34, 35, 36, 37, 38, 39, 40, 41, 42, 43, 44, 45, 46, 47, 48, 49, 50, 51, 52, 53, 54, 55, 56, 57, 58, 59, 60, 61, 62, 63, 64, 65, 66, 67, 68, 69, 70, 71, 72, 73, 74, 75, 76, 77, 78, 79, 80, 81, 82] rfl (by decide +kernel)
set_option maxRecDepth 20000 in
theorem gX8_next_X8_numeral : GoodIn wsX8_next (wsV RX8 145 RX8 yX8_numeral wsX8_numeral) := goodIn_app (goodIn_of _ (by decide +kernel)) ggX8_next_X8_numeral
set_option maxRecDepth 20000 in
theorem ggX8_numeral_X8_sign : GoodIn wsX8_numeral wsX8_sign := goodIn_r _ [9, 10, 11, 18, 19, 20, 21, 22, 23, 24, 25, 26, 27, 28, 29, 30, 31, 32, 33, 34, 35, 36, 37, 38, 39, 40, 41, 42, 43, 44, 45, 46, 47, 48, 49, 50, 51, 52, 53, 54, 55, 56, 57, 58, 59, 60, 61, 62, 63, 64, 65, 66, 67, 68, 69, 70, 71, 72, 73, 74, 75, 76, 77] rfl (by decide +kernel)
set_option maxRecDepth 20000 in
theorem gX8_numeral_X8_sign : GoodIn wsX8_numeral (wsV RX8 124 RX8 yX8_sign wsX8_sign) := goodIn_app (goodIn_of _ (by decide +kernel)) ggX8_numeral_X8_sign
set_option maxRecDepth 20000 in
theorem ggX8_numeral_X8_isDigit : GoodIn wsX8_numeral wsX8_isDigit := goodIn_r _ [14] rfl (by decide +kernel)
set_option maxRecDepth 20000 in
theorem gX8_numeral_X8_isDigit : GoodIn wsX8_numeral (va_wsS RX8 131 yX8_isDigit wsX8_isDigit) := goodIn_app (goodIn_of _ (by decide +kernel)) ggX8_numeral_X8_isDigit
set_option maxRecDepth 20000 in
theorem ggX8_numeral_X8_isLetter : GoodIn wsX8_numeral wsX8_isLetter := goodIn_r _ [17] rfl (by decide +kernel)
set_option maxRecDepth 20000 in
theorem gX8_numeral_X8_isLetter : GoodIn wsX8_numeral (va_wsS RX8 135 yX8_isLetter wsX8_isLetter) := goodIn_app (goodIn_of _ (by decide +kernel)) ggX8_numeral_X8_isLetter
set_option maxRecDepth 20000 in
theorem ggX8_wrong_X8_fails : GoodIn wsX8_wrong wsX8_fails := goodIn_r _ [7, 8, 9, 10, 11, 12, 13, 14, 15, 16, 17, 18, 19, 20, 21, 22, 23, 24, 25, 26, 27, 28, 29, 30, 31, 32, 33, 34, 35, 36, 37, 38, 39, 40, 41, 42, 43, 44, 45, 46, 47, 48, 49, 50, 51, 52, 53, 54, 55, 56, 57, 58, 59, 60, 61, 62, 63, 64, 65, 66, 67, 68, 69] rfl (by decide +kernel)
set_option maxRecDepth 20000 in
theorem gX8_wrong_X8_fails : GoodIn wsX8_wrong (wsV RX8 149 RX8 yX8_fails wsX8_fails) := goodIn_app (goodIn_of _ (by decide +kernel)) ggX8_wrong_X8_fails
set_option maxRecDepth 20000 in
theorem ggX8_program_X8_isShelf : GoodIn wsX8_program wsX8_isShelf := goodIn_r _ [18] rfl (by decide +kernel)
set_option maxRecDepth 20000 in
theorem gX8_program_X8_isShelf : GoodIn wsX8_program (va_wsS RX8 181 yX8_isShelf wsX8_isShelf) := goodIn_app (goodIn_of _ (by decide +kernel)) ggX8_program_X8_isShelf
set_option maxRecDepth 20000 in
theorem ggX8_program_X8_next : GoodIn wsX8_program wsX8_next := goodIn_r _ [22, 7, 23, 4, 10, 24, 25, 26, 27, 28, 17, 29, 5, 30, 31, 32, 33, 34, 35, 36, 37, 38, 39, 98, 99, 100, 101, 102, 103, 104, 105, 106, 107, 108, 109, 110, 111, 112, 113, 114, 115, 116, 117, 118, 119, 120, 121, 122, 123, 124, 125, 126, 127, 128, 129, 130, 131, 132, 133, 134, 135, 136, 137, 138, 139, 140, 141, 142, 143, 144, 145, 146, 147, 148, 149, 150, 151, 152, 153, 154, 155, 156, 157] rfl (by decide +kernel)
set_option maxRecDepth 20000 in
theorem gX8_program_X8_next : GoodIn wsX8_program (wsV RX8 190 RX8 yX8_next wsX8_next) := goodIn_app (goodIn_of _ (by decide +kernel)) ggX8_program_X8_next
set_option maxRecDepth 20000 in
theorem ggX8_program_X8_isGood : GoodIn wsX8_program wsX8_isGood := goodIn_r _ [43, 1, 98, 99, 100, 101, 102, 103, 104, 105, 106, 107, 108, 109, 110, 111, 112, 113, 114, 115, 116, 117, 118, 119, 120, 121, 122, 123, 124, 125, 126, 127, 128, 129, 130, 131, 132, 133, 134, 135, 136, 137, 138, 139, 140, 141, 142, 143, 144, 145, 146, 147, 148, 149, 150, 151, 152, 153, 154, 155, 156, 157] rfl (by decide +kernel)
set_option maxRecDepth 20000 in
theorem gX8_program_X8_isGood : GoodIn wsX8_program (wsV RX8 193 RX8 yX8_isGood wsX8_isGood) := goodIn_app (goodIn_of _ (by decide +kernel)) ggX8_program_X8_isGood
set_option maxRecDepth 20000 in
theorem ggX8_program_X8_readLine : GoodIn wsX8_program wsX8_readLine := goodIn_r _ [47, 10, 40, 41, 42, 17, 43, 1, 48, 49, 50, 51, 25, 52, 53, 54, 55, 56, 57, 58, 59, 60, 61, 62, 63, 64, 65, 66, 67, 68, 69, 9, 23, 70, 71, 8, 72, 73, 74, 75, 76, 77, 78, 79, 2, 80, 81, 82, 83, 19, 20, 21, 22, 7, 4, 24, 26, 27, 28, 29, 5, 30, 31, 32, 33, 34, 35, 36, 37, 38, 39, 84, 85, 86, 87, 11, 12, 13, 14, 88, 89, 90, 91, 92, 93, 98, 99, 100, 101, 102, 103, 104, 105, 106, 107, 108, 109, 110, 111, 112, 113, 114, 115, 116, 117, 118, 119, 120, 121, 122, 123, 124, 125, 126, 127, 128, 129, 130, 131, 132, 133, 134, 135, 136, 137, 138, 139, 140, 141, 142, 143, 144, 145, 146, 147, 148, 149, 150, 151, 152, 153, 154, 155, 156, 157] rfl (by decide +kernel)
set_option maxRecDepth 20000 in
theorem gX8_program_X8_readLine : GoodIn wsX8_program (wsV RX8 197 RX8 yX8_readLine wsX8_readLine) := goodIn_app (goodIn_of _ (by decide +kernel)) ggX8_program_X8_readLine
set_option maxRecDepth 20000 in
theorem ggX8_program_X8_goTo : GoodIn wsX8_program wsX8_goTo := goodIn_r _ [97, 11, 88, 89, 14, 71, 80, 81, 82, 17, 83, 9, 70, 76, 77, 78, 79, 1, 2, 98, 99, 100, 101, 102, 103, 104, 105, 106, 107, 108, 109, 110, 111, 112, 113, 114, 115, 116, 117, 118, 119, 120, 121, 122, 123, 124, 125, 126, 127, 128, 129, 130, 131, 132, 133, 134, 135, 136, 137, 138, 139, 140, 141, 142, 143, 144, 145, 146, 147, 148, 149, 150, 151, 152, 153, 154, 155, 156, 157] rfl (by decide +kernel)
set_option maxRecDepth 20000 in
theorem gX8_program_X8_goTo : GoodIn wsX8_program (wsV RX8 200 RX8 yX8_goTo wsX8_goTo) := goodIn_app (goodIn_of _ (by decide +kernel)) ggX8_program_X8_goTo
set_option maxRecDepth 20000 in
theorem ggX8_goTo_X8_labelOf : GoodIn wsX8_goTo wsX8_labelOf := goodIn_r _ [10, 11, 12, 19, 20, 21, 22, 23, 24, 25, 26, 27, 28, 29, 30, 31, 32, 33, 34, 35, 36, 37, 38, 39, 40, 41, 42, 43, 44, 45, 46, 47, 48, 49, 50, 51, 52, 53, 54, 55, 56, 57, 58, 59, 60, 61, 62, 63, 64, 65, 66, 67, 68, 69, 70, 71, 72, 73, 74, 75, 76, 77, 78] rfl (by decide +kernel)
set_option maxRecDepth 20000 in
theorem gX8_goTo_X8_labelOf : GoodIn wsX8_goTo (wsV RX8 204 RX8 yX8_labelOf wsX8_labelOf) := goodIn_app (goodIn_of _ (by decide +kernel)) ggX8_goTo_X8_labelOf
set_option maxRecDepth 20000 in
theorem ggX8_goTo_X8_fails : GoodIn wsX8_goTo wsX8_fails := goodIn_r _ [16, 17, 18, 19, 20, 21, 22, 23, 24, 25, 26, 27, 28, 29, 30, 31, 32, 33, 34, 35, 36, 37, 38, 39, 40, 41, 42, 43, 44, 45, 46, 47, 48, 49, 50, 51, 52, 53, 54, 55, 56, 57, 58, 59, 60, 61, 62, 63, 64, 65, 66, 67, 68, 69, 70, 71, 72, 73, 74, 75, 76, 77, 78] rfl (by decide +kernel)
set_option maxRecDepth 20000 in
theorem gX8_goTo_X8_fails : GoodIn wsX8_goTo (wsV RX8 149 RX8 yX8_fails wsX8_fails) := goodIn_app (goodIn_of _ (by decide +kernel)) ggX8_goTo_X8_fails
set_option maxRecDepth 20000 in
theorem ggX8_readLine_X8_isGood : GoodIn wsX8_readLine wsX8_isGood := goodIn_r _ [6, 7, 85, 86, 87, 88, 89, 90, 91, 92, 93, 94, 95, 96, 97, 98, 99, 100, 101, 102, 103, 104, 105, 106, 107, 108, 109, 110, 111, 112, 113, 114, 115, 116, 117, 118, 119, 120, 121, 122, 123, 124, 125, 126, 127, 128, 129, 130, 131, 132, 133, 134, 135, 136, 137, 138, 139, 140, 141, 142, 143, 144] rfl (by decide +kernel)
set_option maxRecDepth 20000 in
theorem gX8_readLine_X8_isGood : GoodIn wsX8_readLine (wsV RX8 193 RX8 yX8_isGood wsX8_isGood) := goodIn_app (goodIn_of _ (by decide +kernel)) ggX8_readLine_X8_isGood
set_option maxRecDepth 20000 in
theorem ggX8_readLine_X8_actHere : GoodIn wsX8_readLine wsX8_actHere := goodIn_r _ [11, 1, 12, 13, 14, 15, 16, 17, 18, 19, 20, 21, 22, 23, 24, 25, 26, 85, 86, 87, 88, 89, 90, 91, 92, 93, 94, 95, 96, 97, 98, 99, 100, 101, 102, 103, 104, 105, 106, 107, 108, 109, 110, 111, 112, 113, 114, 115, 116, 117, 118, 119, 120, 121, 122, 123, 124, 125, 126, 127, 128, 129, 130, 131, 132, 133, 134, 135, 136, 137, 138, 139, 140, 141, 142, 143, 144] rfl (by decide +kernel)
set_option maxRecDepth 20000 in
theorem gX8_readLine_X8_actHere : GoodIn wsX8_readLine (wsV RX8 208 RX8 yX8_actHere wsX8_actHere) := goodIn_app (goodIn_of _ (by decide +kernel)) ggX8_readLine_X8_actHere

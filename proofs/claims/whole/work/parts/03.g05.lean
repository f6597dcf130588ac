set_option maxRecDepth 20000 in
theorem ggX8_readLine_X8_readLabel : GoodIn wsX8_readLine wsX8_readLabel := goodIn_r _ [30, 31, 12, 32, 33, 34, 35, 1, 36, 37, 38, 5, 39, 40, 41, 42, 43, 7, 44, 2, 3, 4, 6, 45, 46, 47, 48, 49, 50, 51, 52, 53, 54, 55, 56, 57, 58, 59, 60, 61, 62, 63, 64, 65, 66, 67, 68, 69, 70, 85, 86, 87, 88, 89, 90, 91, 92, 93, 94, 95, 96, 97, 98, 99, 100, 101, 102, 103, 104, 105, 106, 107, 108, 109, 110, 111, 112, 113, 114, 115, 116, 117, 118, 119, 120, 121, 122, 123, 124, 125, 126, 127, 128, 129, 130, 131, 132, 133, 134, 135, 136, 137, 138, 139, 140, 141, 142, 143, 144] rfl (by decide +kernel)
set_option maxRecDepth 20000 in
theorem gX8_readLine_X8_readLabel : GoodIn wsX8_readLine (wsV RX8 212 RX8 yX8_readLabel wsX8_readLabel) := goodIn_app (goodIn_of _ (by decide +kernel)) ggX8_readLine_X8_readLabel
set_option maxRecDepth 20000 in
theorem ggX8_readLine_X8_readAct : GoodIn wsX8_readLine wsX8_readAct := goodIn_r _ [74, 35, 75, 76, 77, 78, 1, 55, 79, 12, 80, 32, 36, 37, 38, 5, 39, 40, 41, 42, 43, 7, 44, 2, 3, 4, 6, 8, 9, 10, 11, 13, 14, 15, 16, 17, 18, 19, 20, 21, 22, 23, 24, 25, 26, 49, 50, 51, 52, 53, 54, 56, 57, 58, 59, 60, 61, 62, 63, 64, 65, 66, 67, 68, 69, 70, 81, 82, 83, 84, 85, 86, 87, 88, 89, 90, 91, 92, 93, 94, 95, 96, 97, 98, 99, 100, 101, 102, 103, 104, 105, 106, 107, 108, 109, 110, 111, 112, 113, 114, 115, 116, 117, 118, 119, 120, 121, 122, 123, 124, 125, 126, 127, 128, 129, 130, 131, 132, 133, 134, 135, 136, 137, 138, 139, 140, 141, 142, 143, 144] rfl (by decide +kernel)
set_option maxRecDepth 20000 in
theorem gX8_readLine_X8_readAct : GoodIn wsX8_readLine (wsV RX8 215 RX8 yX8_readAct wsX8_readAct) := goodIn_app (goodIn_of _ (by decide +kernel)) ggX8_readLine_X8_readAct
set_option maxRecDepth 20000 in
theorem ggX8_readLine_X8_wrong : GoodIn wsX8_readLine wsX8_wrong := goodIn_r _ [39, 1, 32, 40, 41, 42, 5, 43, 7, 44, 85, 86, 87, 88, 89, 90, 91, 92, 93, 94, 95, 96, 97, 98, 99, 100, 101, 102, 103, 104, 105, 106, 107, 108, 109, 110, 111, 112, 113, 114, 115, 116, 117, 118, 119, 120, 121, 122, 123, 124, 125, 126, 127, 128, 129, 130, 131, 132, 133, 134, 135, 136, 137, 138, 139, 140, 141, 142, 143, 144] rfl (by decide +kernel)
set_option maxRecDepth 20000 in
theorem gX8_readLine_X8_wrong : GoodIn wsX8_readLine (wsV RX8 218 RX8 yX8_wrong wsX8_wrong) := goodIn_app (goodIn_of _ (by decide +kernel)) ggX8_readLine_X8_wrong
set_option maxRecDepth 20000 in
theorem ggX8_readLine_X8_next : GoodIn wsX8_readLine wsX8_next := goodIn_r _ [52, 53, 32, 54, 1, 55, 12, 56, 57, 58, 5, 59, 60, 61, 62, 63, 64, 65, 66, 67, 68, 69, 70, 85, 86, 87, 88, 89, 90, 91, 92, 93, 94, 95, 96, 97, 98, 99, 100, 101, 102, 103, 104, 105, 106, 107, 108, 109, 110, 111, 112, 113, 114, 115, 116, 117, 118, 119, 120, 121, 122, 123, 124, 125, 126, 127, 128, 129, 130, 131, 132, 133, 134, 135, 136, 137, 138, 139, 140, 141, 142, 143, 144] rfl (by decide +kernel)
set_option maxRecDepth 20000 in
theorem gX8_readLine_X8_next : GoodIn wsX8_readLine (wsV RX8 190 RX8 yX8_next wsX8_next) := goodIn_app (goodIn_of _ (by decide +kernel)) ggX8_readLine_X8_next
set_option maxRecDepth 20000 in
theorem ggX8_readLabel_X8_wrong : GoodIn wsX8_readLabel wsX8_wrong := goodIn_r _ [12, 7, 3, 13, 14, 15, 11, 16, 17, 18, 49, 50, 51, 52, 53, 54, 55, 56, 57, 58, 59, 60, 61, 62, 63, 64, 65, 66, 67, 68, 69, 70, 71, 72, 73, 74, 75, 76, 77, 78, 79, 80, 81, 82, 83, 84, 85, 86, 87, 88, 89, 90, 91, 92, 93, 94, 95, 96, 97, 98, 99, 100, 101, 102, 103, 104, 105, 106, 107, 108] rfl (by decide +kernel)
set_option maxRecDepth 20000 in
theorem gX8_readLabel_X8_wrong : GoodIn wsX8_readLabel (wsV RX8 218 RX8 yX8_wrong wsX8_wrong) := goodIn_app (goodIn_of _ (by decide +kernel)) ggX8_readLabel_X8_wrong
set_option maxRecDepth 20000 in
theorem ggX8_readLabel_X8_isGood : GoodIn wsX8_readLabel wsX8_isGood := goodIn_r _ [22, 17, 49, 50, 51, 52, 53, 54, 55, 56, 57, 58, 59, 60, 61, 62, 63, 64, 65, 66, 67, 68, 69, 70, 71, 72, 73, 74, 75, 76, 77, 78, 79, 80, 81, 82, 83, 84, 85, 86, 87, 88, 89, 90, 91, 92, 93, 94, 95, 96, 97, 98, 99, 100, 101, 102, 103, 104, 105, 106, 107, 108] rfl (by decide +kernel)
set_option maxRecDepth 20000 in
theorem gX8_readLabel_X8_isGood : GoodIn wsX8_readLabel (wsV RX8 193 RX8 yX8_isGood wsX8_isGood) := goodIn_app (goodIn_of _ (by decide +kernel)) ggX8_readLabel_X8_isGood
set_option maxRecDepth 20000 in
theorem ggX8_readLabel_X8_labelOf : GoodIn wsX8_readLabel wsX8_labelOf := goodIn_r _ [26, 1, 4, 49, 50, 51, 52, 53, 54, 55, 56, 57, 58, 59, 60, 61, 62, 63, 64, 65, 66, 67, 68, 69, 70, 71, 72, 73, 74, 75, 76, 77, 78, 79, 80, 81, 82, 83, 84, 85, 86, 87, 88, 89, 90, 91, 92, 93, 94, 95, 96, 97, 98, 99, 100, 101, 102, 103, 104, 105, 106, 107, 108] rfl (by decide +kernel)
set_option maxRecDepth 20000 in
theorem gX8_readLabel_X8_labelOf : GoodIn wsX8_readLabel (wsV RX8 204 RX8 yX8_labelOf wsX8_labelOf) := goodIn_app (goodIn_of _ (by decide +kernel)) ggX8_readLabel_X8_labelOf
set_option maxRecDepth 20000 in
theorem ggX8_readLabel_X8_fails : GoodIn wsX8_readLabel wsX8_fails := goodIn_r _ [16, 17, 18, 49, 50, 51, 52, 53, 54, 55, 56, 57, 58, 59, 60, 61, 62, 63, 64, 65, 66, 67, 68, 69, 70, 71, 72, 73, 74, 75, 76, 77, 78, 79, 80, 81, 82, 83, 84, 85, 86, 87, 88, 89, 90, 91, 92, 93, 94, 95, 96, 97, 98, 99, 100, 101, 102, 103, 104, 105, 106, 107, 108] rfl (by decide +kernel)
set_option maxRecDepth 20000 in
theorem gX8_readLabel_X8_fails : GoodIn wsX8_readLabel (wsV RX8 149 RX8 yX8_fails wsX8_fails) := goodIn_app (goodIn_of _ (by decide +kernel)) ggX8_readLabel_X8_fails
set_option maxRecDepth 20000 in
theorem ggX8_readLabel_X8_next : GoodIn wsX8_readLabel wsX8_next := goodIn_r _ [30, 31, 3, 32, 7, 33, 2, 34, 35, 36, 11, 37, 38, 39, 40, 41, 42, 43, 44, 45, 46, 47, 48, 49, 50, 51, 52, 53, 54, 55, 56, 57, 58, 59, 60, 61, 62, 63, 64, 65, 66, 67, 68, 69, 70, 71, 72, 73, 74, 75, 76, 77, 78, 79, 80, 81, 82, 83, 84, 85, 86, 87, 88, 89, 90, 91, 92, 93, 94, 95, 96, 97, 98, 99, 100, 101, 102, 103, 104, 105, 106, 107, 108] rfl (by decide +kernel)
set_option maxRecDepth 20000 in
theorem gX8_readLabel_X8_next : GoodIn wsX8_readLabel (wsV RX8 190 RX8 yX8_next wsX8_next) := goodIn_app (goodIn_of _ (by decide +kernel)) ggX8_readLabel_X8_next
set_option maxRecDepth 20000 in
theorem ggX8_readAct_X8_wrong : GoodIn wsX8_readAct wsX8_wrong := goodIn_r _ [16, 6, 11, 17, 18, 19, 15, 20, 21, 22, 70, 71, 72, 73, 74, 75, 76, 77, 78, 79, 80, 81, 82, 83, 84, 85, 86, 87, 88, 89, 90, 91, 92, 93, 94, 95, 96, 97, 98, 99, 100, 101, 102, 103, 104, 105, 106, 107, 108, 109, 110, 111, 112, 113, 114, 115, 116, 117, 118, 119, 120, 121, 122, 123, 124, 125, 126, 127, 128, 129] rfl (by decide +kernel)
set_option maxRecDepth 20000 in
theorem gX8_readAct_X8_wrong : GoodIn wsX8_readAct (wsV RX8 218 RX8 yX8_wrong wsX8_wrong) := goodIn_app (goodIn_of _ (by decide +kernel)) ggX8_readAct_X8_wrong
set_option maxRecDepth 20000 in
theorem ggX8_readAct_X8_isGood : GoodIn wsX8_readAct wsX8_isGood := goodIn_r _ [26, 21, 70, 71, 72, 73, 74, 75, 76, 77, 78, 79, 80, 81, 82, 83, 84, 85, 86, 87, 88, 89, 90, 91, 92, 93, 94, 95, 96, 97, 98, 99, 100, 101, 102, 103, 104, 105, 106, 107, 108, 109, 110, 111, 112, 113, 114, 115, 116, 117, 118, 119, 120, 121, 122, 123, 124, 125, 126, 127, 128, 129] rfl (by decide +kernel)
set_option maxRecDepth 20000 in
theorem gX8_readAct_X8_isGood : GoodIn wsX8_readAct (wsV RX8 193 RX8 yX8_isGood wsX8_isGood) := goodIn_app (goodIn_of _ (by decide +kernel)) ggX8_readAct_X8_isGood
set_option maxRecDepth 20000 in
theorem ggX8_readAct_X8_actHere : GoodIn wsX8_readAct wsX8_actHere := goodIn_r _ [30, 6, 9, 31, 32, 33, 34, 35, 36, 37, 38, 39, 40, 41, 42, 43, 44, 70, 71, 72, 73, 74, 75, 76, 77, 78, 79, 80, 81, 82, 83, 84, 85, 86, 87, 88, 89, 90, 91, 92, 93, 94, 95, 96, 97, 98, 99, 100, 101, 102, 103, 104, 105, 106, 107, 108, 109, 110, 111, 112, 113, 114, 115, 116, 117, 118, 119, 120, 121, 122, 123, 124, 125, 126, 127, 128, 129] rfl (by decide +kernel)
set_option maxRecDepth 20000 in
theorem gX8_readAct_X8_actHere : GoodIn wsX8_readAct (wsV RX8 208 RX8 yX8_actHere wsX8_actHere) := goodIn_app (goodIn_of _ (by decide +kernel)) ggX8_readAct_X8_actHere
set_option maxRecDepth 20000 in
theorem ggX8_readAct_X8_next : GoodIn wsX8_readAct wsX8_next := goodIn_r _ [48, 49, 11, 50, 6, 7, 9, 51, 52, 53, 15, 54, 55, 56, 57, 58, 59, 60, 61, 62, 63, 64, 65, 70, 71, 72, 73, 74, 75, 76, 77, 78, 79, 80, 81, 82, 83, 84, 85, 86, 87, 88, 89, 90, 91, 92, 93, 94, 95, 96, 97, 98, 99, 100, 101, 102, 103, 104, 105, 106, 107, 108, 109, 110, 111, 112, 113, 114, 115, 116, 117, 118, 119, 120, 121, 122, 123, 124, 125, 126, 127, 128, 129] rfl (by decide +kernel)
set_option maxRecDepth 20000 in
theorem gX8_readAct_X8_next : GoodIn wsX8_readAct (wsV RX8 190 RX8 yX8_next wsX8_next) := goodIn_app (goodIn_of _ (by decide +kernel)) ggX8_readAct_X8_next
set_option maxRecDepth 20000 in
theorem ggX8_readAct_X8_register : GoodIn wsX8_readAct wsX8_register := goodIn_r _ [69, 6, 7, 23, 24, 25, 15, 26, 21, 12, 13, 14, 16, 11, 17, 18, 19, 20, 22, 45, 46, 47, 48, 49, 50, 9, 51, 52, 53, 54, 55, 56, 57, 58, 59, 60, 61, 62, 63, 64, 65, 70, 71, 72, 73, 74, 75, 76, 77, 78, 79, 80, 81, 82, 83, 84, 85, 86, 87, 88, 89, 90, 91, 92, 93, 94, 95, 96, 97, 98, 99, 100, 101, 102, 103, 104, 105, 106, 107, 108, 109, 110, 111, 112, 113, 114, 115, 116, 117, 118, 119, 120, 121, 122, 123, 124, 125, 126, 127, 128, 129] rfl (by decide +kernel)
set_option maxRecDepth 20000 in
theorem gX8_readAct_X8_register : GoodIn wsX8_readAct (wsV RX8 221 RX8 yX8_register wsX8_register) := goodIn_app (goodIn_of _ (by decide +kernel)) ggX8_readAct_X8_register
set_option maxRecDepth 20000 in
theorem ggX8_register_X8_isGood : GoodIn wsX8_register wsX8_isGood := goodIn_r _ [7, 8, 41, 42, 43, 44, 45, 46, 47, 48, 49, 50, 51, 52, 53, 54, 55, 56, 57, 58, 59, 60, 61, 62, 63, 64, 65, 66, 67, 68, 69, 70, 71, 72, 73, 74, 75, 76, 77, 78, 79, 80, 81, 82, 83, 84, 85, 86, 87, 88, 89, 90, 91, 92, 93, 94, 95, 96, 97, 98, 99, 100] rfl (by decide +kernel)
set_option maxRecDepth 20000 in
theorem gX8_register_X8_isGood : GoodIn wsX8_register (wsV RX8 193 RX8 yX8_isGood wsX8_isGood) := goodIn_app (goodIn_of _ (by decide +kernel)) ggX8_register_X8_isGood
set_option maxRecDepth 20000 in
theorem ggX8_register_X8_wrong : GoodIn wsX8_register wsX8_wrong := goodIn_r _ [12, 1, 13, 14, 15, 16, 6, 17, 8, 18, 41, 42, 43, 44, 45, 46, 47, 48, 49, 50, 51, 52, 53, 54, 55, 56, 57, 58, 59, 60, 61, 62, 63, 64, 65, 66, 67, 68, 69, 70, 71, 72, 73, 74, 75, 76, 77, 78, 79, 80, 81, 82, 83, 84, 85, 86, 87, 88, 89, 90, 91, 92, 93, 94, 95, 96, 97, 98, 99, 100] rfl (by decide +kernel)
set_option maxRecDepth 20000 in
theorem gX8_register_X8_wrong : GoodIn wsX8_register (wsV RX8 218 RX8 yX8_wrong wsX8_wrong) := goodIn_app (goodIn_of _ (by decide +kernel)) ggX8_register_X8_wrong
set_option maxRecDepth 20000 in
theorem ggX8_register_X8_next : GoodIn wsX8_register wsX8_next := goodIn_r _ [22, 23, 13, 24, 1, 2, 25, 26, 27, 28, 6, 29, 30, 31, 32, 33, 34, 35, 36, 37, 38, 39, 40, 41, 42, 43, 44, 45, 46, 47, 48, 49, 50, 51, 52, 53, 54, 55, 56, 57, 58, 59, 60, 61, 62, 63, 64, 65, 66, 67, 68, 69, 70, 71, 72, 73, 74, 75, 76, 77, 78, 79, 80, 81, 82, 83, 84, 85, 86, 87, 88, 89, 90, 91, 92, 93, 94, 95, 96, 97, 98, 99, 100] rfl (by decide +kernel)
set_option maxRecDepth 20000 in
theorem gX8_register_X8_next : GoodIn wsX8_register (wsV RX8 190 RX8 yX8_next wsX8_next) := goodIn_app (goodIn_of _ (by decide +kernel)) ggX8_register_X8_next
set_option maxRecDepth 20000 in
theorem ggX8_act_X8_isShelf : GoodIn wsX8_act wsX8_isShelf := goodIn_r _ [10] rfl (by decide +kernel)
set_option maxRecDepth 20000 in
theorem gX8_act_X8_isShelf : GoodIn wsX8_act (va_wsS RX8 181 yX8_isShelf wsX8_isShelf) := goodIn_app (goodIn_of _ (by decide +kernel)) ggX8_act_X8_isShelf
set_option maxRecDepth 20000 in
theorem ggX8_byteOf_X8_isInput : GoodIn wsX8_byteOf wsX8_isInput := goodIn_r _ [7, 8, 9, 10, 11, 12, 13, 14, 15, 16, 17, 18, 19, 20, 21, 22, 23, 24, 25, 26, 27, 28, 29, 30, 31, 32, 33, 34, 35, 36, 37, 38, 39, 40, 41, 42, 43, 44, 45, 46, 47, 48, 49, 50, 51, 52, 53, 54, 55, 56, 57, 58, 59, 60, 61, 62, 63, 64, 65, 66, 67, 68] rfl (by decide +kernel)
set_option maxRecDepth 20000 in
theorem gX8_byteOf_X8_isInput : GoodIn wsX8_byteOf (wsV RX8 228 RX8 yX8_isInput wsX8_isInput) := goodIn_app (goodIn_of _ (by decide +kernel)) ggX8_byteOf_X8_isInput
set_option maxRecDepth 20000 in
theorem ggX8_runOn_X8_step : GoodIn wsX8_runOn wsX8_step := goodIn_r _ [18, 19, 20, 21, 9, 4, 1, 12, 22, 23, 24, 17, 25, 26, 27, 28, 29, 5, 6, 2, 7, 3, 8, 30, 31, 32, 33, 11, 34, 35, 36, 37, 38, 39, 40, 41, 42, 43, 10, 44, 45, 46, 47, 48, 49, 50, 51, 52, 53, 54, 55, 56, 57, 58, 59, 60, 61, 62, 63, 64, 65, 66, 67, 68, 69, 70, 71, 72, 73, 74, 75, 76, 77, 78, 79, 80, 81, 82, 83, 84, 85, 86, 87, 88, 89, 90, 91, 92, 93, 94, 95, 96, 97, 98, 99, 100, 101, 102, 103, 104] rfl (by decide +kernel)
set_option maxRecDepth 20000 in
theorem gX8_runOn_X8_step : GoodIn wsX8_runOn (wsV RX8 261 RX8 yX8_step wsX8_step) := goodIn_app (goodIn_of _ (by decide +kernel)) ggX8_runOn_X8_step
set_option maxRecDepth 20000 in
theorem ggX8_step_X8_isPlace : GoodIn wsX8_step wsX8_isPlace := goodIn_r _ [12] rfl (by decide +kernel)
set_option maxRecDepth 20000 in
theorem gX8_step_X8_isPlace : GoodIn wsX8_step (va_wsS RX8 264 yX8_isPlace wsX8_isPlace) := goodIn_app (goodIn_of _ (by decide +kernel)) ggX8_step_X8_isPlace
set_option maxRecDepth 20000 in
theorem ggX8_step_X8_falls : GoodIn wsX8_step wsX8_falls := goodIn_r _ [16, 5, 7, 17, 6, 18, 19, 20, 21, 22, 40, 41, 42, 43, 44, 45, 46, 47, 48, 49, 50, 51, 52, 53, 54, 55, 56, 57, 58, 59, 60, 61, 62, 63, 64, 65, 66, 67, 68, 69, 70, 71, 72, 73, 74, 75, 76, 77, 78, 79, 80, 81, 82, 83, 84, 85, 86, 87, 88, 89, 90, 91, 92, 93, 94, 95, 96, 97, 98, 99] rfl (by decide +kernel)
set_option maxRecDepth 20000 in
theorem gX8_step_X8_falls : GoodIn wsX8_step (wsV RX8 267 RX8 yX8_falls wsX8_falls) := goodIn_app (goodIn_of _ (by decide +kernel)) ggX8_step_X8_falls
set_option maxRecDepth 20000 in
theorem ggX8_step_X8_makes : GoodIn wsX8_step wsX8_makes := goodIn_r _ [26, 27, 28, 6, 29, 21, 19, 40, 41, 42, 43, 44, 45, 46, 47, 48, 49, 50, 51, 52, 53, 54, 55, 56, 57, 58, 59, 60, 61, 62, 63, 64, 65, 66, 67, 68, 69, 70, 71, 72, 73, 74, 75, 76, 77, 78, 79, 80, 81, 82, 83, 84, 85, 86, 87, 88, 89, 90, 91, 92, 93, 94, 95, 96, 97, 98, 99] rfl (by decide +kernel)
set_option maxRecDepth 20000 in
theorem gX8_step_X8_makes : GoodIn wsX8_step (wsV RX8 270 RX8 yX8_makes wsX8_makes) := goodIn_app (goodIn_of _ (by decide +kernel)) ggX8_step_X8_makes
set_option maxRecDepth 20000 in
theorem ggX8_step_X8_carries : GoodIn wsX8_step wsX8_carries := goodIn_r _ [33, 21, 6, 19, 40, 41, 42, 43, 44, 45, 46, 47, 48, 49, 50, 51, 52, 53, 54, 55, 56, 57, 58, 59, 60, 61, 62, 63, 64, 65, 66, 67, 68, 69, 70, 71, 72, 73, 74, 75, 76, 77, 78, 79, 80, 81, 82, 83, 84, 85, 86, 87, 88, 89, 90, 91, 92, 93, 94, 95, 96, 97, 98, 99] rfl (by decide +kernel)
set_option maxRecDepth 20000 in
theorem gX8_step_X8_carries : GoodIn wsX8_step (wsV RX8 274 RX8 yX8_carries wsX8_carries) := goodIn_app (goodIn_of _ (by decide +kernel)) ggX8_step_X8_carries
set_option maxRecDepth 20000 in
theorem ggX8_step_X8_goes : GoodIn wsX8_step wsX8_goes := goodIn_r _ [37, 6, 7, 38, 39, 5, 40, 41, 42, 43, 44, 45, 46, 47, 48, 49, 50, 51, 52, 53, 54, 55, 56, 57, 58, 59, 60, 61, 62, 63, 64, 65, 66, 67, 68, 69, 70, 71, 72, 73, 74, 75, 76, 77, 78, 79, 80, 81, 82, 83, 84, 85, 86, 87, 88, 89, 90, 91, 92, 93, 94, 95, 96, 97, 98, 99] rfl (by decide +kernel)
set_option maxRecDepth 20000 in
theorem gX8_step_X8_goes : GoodIn wsX8_step (wsV RX8 278 RX8 yX8_goes wsX8_goes) := goodIn_app (goodIn_of _ (by decide +kernel)) ggX8_step_X8_goes
set_option maxRecDepth 20000 in
theorem ggX8_run_X8_isShelf : GoodIn wsX8_run wsX8_isShelf := goodIn_r _ [22] rfl (by decide +kernel)
set_option maxRecDepth 20000 in
theorem gX8_run_X8_isShelf : GoodIn wsX8_run (va_wsS RX8 181 yX8_isShelf wsX8_isShelf) := goodIn_app (goodIn_of _ (by decide +kernel)) ggX8_run_X8_isShelf
set_option maxRecDepth 20000 in
theorem ggX8_run_X8_isInput : GoodIn wsX8_run wsX8_isInput := goodIn_r _ [26, 27, 69, 70, 71, 72, 73, 74, 75, 76, 77, 78, 79, 80, 81, 82, 83, 84, 85, 86, 87, 88, 89, 90, 91, 92, 93, 94, 95, 96, 97, 98, 99, 100, 101, 102, 103, 104, 105, 106, 107, 108, 109, 110, 111, 112, 113, 114, 115, 116, 117, 118, 119, 120, 121, 122, 123, 124, 125, 126, 127, 128] rfl (by decide +kernel)
set_option maxRecDepth 20000 in
theorem gX8_run_X8_isInput : GoodIn wsX8_run (wsV RX8 228 RX8 yX8_isInput wsX8_isInput) := goodIn_app (goodIn_of _ (by decide +kernel)) ggX8_run_X8_isInput
set_option maxRecDepth 20000 in
theorem ggX8_run_X8_use : GoodIn wsX8_run wsX8_use := goodIn_r _ [31, 32, 33, 34, 35, 69, 70, 71, 72, 73, 74, 75, 76, 77, 78, 79, 80, 81, 82, 83, 84, 85, 86, 87, 88, 89, 90, 91, 92, 93, 94, 95, 96, 97, 98, 99, 100, 101, 102, 103, 104, 105, 106, 107, 108, 109, 110, 111, 112, 113, 114, 115, 116, 117, 118, 119, 120, 121, 122, 123, 124, 125, 126, 127, 128] rfl (by decide +kernel)
set_option maxRecDepth 20000 in
theorem gX8_run_X8_use : GoodIn wsX8_run (wsV RX8 282 RX8 yX8_use wsX8_use) := goodIn_app (goodIn_of _ (by decide +kernel)) ggX8_run_X8_use
set_option maxRecDepth 20000 in
theorem ggX8_run_X8_runOn : GoodIn wsX8_run wsX8_runOn := goodIn_r _ [39, 11, 13, 15, 18, 4, 5, 6, 7, 3, 8, 9, 40, 41, 42, 43, 44, 21, 45, 46, 47, 48, 49, 50, 51, 52, 53, 54, 55, 56, 57, 58, 59, 60, 33, 34, 61, 62, 63, 64, 65, 66, 67, 68, 17, 69, 70, 71, 72, 73, 74, 75, 76, 77, 78, 79, 80, 81, 82, 83, 84, 85, 86, 87, 88, 89, 90, 91, 92, 93, 94, 95, 96, 97, 98, 99, 100, 101, 102, 103, 104, 105, 106, 107, 108, 109, 110, 111, 112, 113, 114, 115, 116, 117, 118, 119, 120, 121, 122, 123, 124, 125, 126, 127, 128] rfl (by decide +kernel)
set_option maxRecDepth 20000 in
theorem gX8_run_X8_runOn : GoodIn wsX8_run (wsV RX8 285 RX8 yX8_runOn wsX8_runOn) := goodIn_app (goodIn_of _ (by decide +kernel)) ggX8_run_X8_runOn
set_option maxRecDepth 20000 in
theorem ggX8_lookAtHeaps_X8_use : GoodIn wsX8_lookAtHeaps wsX8_use := goodIn_r _ [15, 16, 17, 18, 19, 62, 63, 64, 65, 66, 67, 68, 69, 70, 71, 72, 73, 74, 75, 76, 77, 78, 79, 80, 81, 82, 83, 84, 85, 86, 87, 88, 89, 90, 91, 92, 93, 94, 95, 96, 97, 98, 99, 100, 101, 102, 103, 104, 105, 106, 107, 108, 109, 110, 111, 112, 113, 114, 115, 116, 117, 118, 119, 120, 121] rfl (by decide +kernel)
set_option maxRecDepth 20000 in
theorem gX8_lookAtHeaps_X8_use : GoodIn wsX8_lookAtHeaps (wsV RX8 282 RX8 yX8_use wsX8_use) := goodIn_app (goodIn_of _ (by decide +kernel)) ggX8_lookAtHeaps_X8_use
set_option maxRecDepth 20000 in
theorem ggX8_lookAtHeaps_X8_runOn : GoodIn wsX8_lookAtHeaps wsX8_runOn := goodIn_r _ [23, 24, 25, 26, 4, 6, 27, 8, 28, 29, 30, 31, 32, 33, 34, 35, 36, 14, 37, 38, 39, 40, 41, 42, 43, 44, 45, 46, 47, 48, 49, 50, 51, 52, 17, 18, 53, 54, 55, 56, 57, 58, 59, 60, 61, 62, 63, 64, 65, 66, 67, 68, 69, 70, 71, 72, 73, 74, 75, 76, 77, 78, 79, 80, 81, 82, 83, 84, 85, 86, 87, 88, 89, 90, 91, 92, 93, 94, 95, 96, 97, 98, 99, 100, 101, 102, 103, 104, 105, 106, 107, 108, 109, 110, 111, 112, 113, 114, 115, 116, 117, 118, 119, 120, 121] rfl (by decide +kernel)
set_option maxRecDepth 20000 in
theorem gX8_lookAtHeaps_X8_runOn : GoodIn wsX8_lookAtHeaps (wsV RX8 285 RX8 yX8_runOn wsX8_runOn) := goodIn_app (goodIn_of _ (by decide +kernel)) ggX8_lookAtHeaps_X8_runOn
set_option maxRecDepth 20000 in
theorem ggX8_heaps_X8_isShelf : GoodIn wsX8_heaps wsX8_isShelf := goodIn_r _ [5] rfl (by decide +kernel)
set_option maxRecDepth 20000 in
theorem gX8_heaps_X8_isShelf : GoodIn wsX8_heaps (va_wsS RX8 181 yX8_isShelf wsX8_isShelf) := goodIn_app (goodIn_of _ (by decide +kernel)) ggX8_heaps_X8_isShelf
set_option maxRecDepth 20000 in
theorem ggX8_heaps_X8_lookAtHeaps : GoodIn wsX8_heaps wsX8_lookAtHeaps := goodIn_r _ [9, 1, 10, 11, 12, 13, 14, 15, 16, 17, 18, 19, 20, 21, 4, 22, 23, 24, 25, 26, 27, 28, 29, 30, 31, 32, 33, 34, 35, 36, 37, 38, 39, 40, 41, 42, 43, 44, 45, 46, 47, 48, 49, 50, 51, 52, 53, 54, 55, 56, 57, 58, 59, 60, 61, 62, 63, 64, 65, 66, 67, 68, 69, 70, 71, 72, 73, 74, 75, 76, 77, 78, 79, 80, 81, 82, 83, 84, 85, 86, 87, 88, 89, 90, 91, 92, 93, 94, 95, 96, 97, 98, 99, 100, 101, 102, 103, 104, 105, 106, 107, 108, 109, 110, 111, 112, 113, 114, 115, 116, 117, 118, 119, 120, 121, 122, 123, 124, 125, 126, 127, 128] rfl (by decide +kernel)
set_option maxRecDepth 20000 in
theorem gX8_heaps_X8_lookAtHeaps : GoodIn wsX8_heaps (wsV RX8 295 RX8 yX8_lookAtHeaps wsX8_lookAtHeaps) := goodIn_app (goodIn_of _ (by decide +kernel)) ggX8_heaps_X8_lookAtHeaps
set_option maxRecDepth 20000 in
theorem ggX8_heap_X8_isShelf : GoodIn wsX8_heap wsX8_isShelf := goodIn_r _ [11] rfl (by decide +kernel)
set_option maxRecDepth 20000 in
theorem gX8_heap_X8_isShelf : GoodIn wsX8_heap (va_wsS RX8 181 yX8_isShelf wsX8_isShelf) := goodIn_app (goodIn_of _ (by decide +kernel)) ggX8_heap_X8_isShelf
set_option maxRecDepth 20000 in
theorem ggX8_heap_X8_lookAtHeaps : GoodIn wsX8_heap wsX8_lookAtHeaps := goodIn_r _ [15, 1, 2, 5, 16, 6, 17, 7, 18, 3, 4, 19, 20, 21, 10, 22, 23, 24, 25, 26, 27, 28, 29, 30, 31, 32, 33, 34, 35, 36, 37, 38, 39, 40, 41, 42, 43, 44, 45, 46, 47, 48, 49, 50, 51, 52, 53, 54, 55, 56, 57, 58, 59, 60, 61, 62, 63, 64, 65, 66, 67, 68, 69, 70, 71, 72, 73, 74, 75, 76, 77, 78, 79, 80, 81, 82, 83, 84, 85, 86, 87, 88, 89, 90, 91, 92, 93, 94, 95, 96, 97, 98, 99, 100, 101, 102, 103, 104, 105, 106, 107, 108, 109, 110, 111, 112, 113, 114, 115, 116, 117, 118, 119, 120, 121, 122, 123, 124, 125, 126, 127, 128] rfl (by decide +kernel)
set_option maxRecDepth 20000 in
theorem gX8_heap_X8_lookAtHeaps : GoodIn wsX8_heap (wsV RX8 295 RX8 yX8_lookAtHeaps wsX8_lookAtHeaps) := goodIn_app (goodIn_of _ (by decide +kernel)) ggX8_heap_X8_lookAtHeaps

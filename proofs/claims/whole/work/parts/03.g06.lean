set_option maxRecDepth 20000 in
theorem ggX8_heapOf_X8_isShelf : GoodIn wsX8_heapOf wsX8_isShelf := goodIn_r _ [5] rfl (by decide +kernel)
set_option maxRecDepth 20000 in
theorem gX8_heapOf_X8_isShelf : GoodIn wsX8_heapOf (va_wsS RX8 181 yX8_isShelf wsX8_isShelf) := goodIn_app (goodIn_of _ (by decide +kernel)) ggX8_heapOf_X8_isShelf
set_option maxRecDepth 20000 in
theorem ggX8_heapOf_X8_isInput : GoodIn wsX8_heapOf wsX8_isInput := goodIn_r _ [9, 10, 73, 74, 75, 76, 77, 78, 79, 80, 81, 82, 83, 84, 85, 86, 87, 88, 89, 90, 91, 92, 93, 94, 95, 96, 97, 98, 99, 100, 101, 102, 103, 104, 105, 106, 107, 108, 109, 110, 111, 112, 113, 114, 115, 116, 117, 118, 119, 120, 121, 122, 123, 124, 125, 126, 127, 128, 129, 130, 131, 132] rfl (by decide +kernel)
set_option maxRecDepth 20000 in
theorem gX8_heapOf_X8_isInput : GoodIn wsX8_heapOf (wsV RX8 228 RX8 yX8_isInput wsX8_isInput) := goodIn_app (goodIn_of _ (by decide +kernel)) ggX8_heapOf_X8_isInput
set_option maxRecDepth 20000 in
theorem ggX8_heapOf_X8_lookAtHeaps : GoodIn wsX8_heapOf wsX8_lookAtHeaps := goodIn_r _ [14, 15, 10, 16, 17, 18, 19, 20, 21, 1, 22, 23, 24, 25, 4, 26, 27, 28, 29, 30, 31, 32, 33, 34, 35, 36, 37, 38, 39, 40, 41, 42, 43, 44, 45, 46, 47, 48, 49, 50, 51, 52, 53, 54, 55, 56, 57, 58, 59, 60, 61, 62, 63, 64, 65, 66, 67, 68, 69, 70, 71, 72, 73, 74, 75, 76, 77, 78, 79, 80, 81, 82, 83, 84, 85, 86, 87, 88, 89, 90, 91, 92, 93, 94, 95, 96, 97, 98, 99, 100, 101, 102, 103, 104, 105, 106, 107, 108, 109, 110, 111, 112, 113, 114, 115, 116, 117, 118, 119, 120, 121, 122, 123, 124, 125, 126, 127, 128, 129, 130, 131, 132] rfl (by decide +kernel)
set_option maxRecDepth 20000 in
theorem gX8_heapOf_X8_lookAtHeaps : GoodIn wsX8_heapOf (wsV RX8 295 RX8 yX8_lookAtHeaps wsX8_lookAtHeaps) := goodIn_app (goodIn_of _ (by decide +kernel)) ggX8_heapOf_X8_lookAtHeaps
set_option maxRecDepth 20000 in
theorem ggX8_isWanted_X8_runOn : GoodIn wsX8_isWanted wsX8_runOn := goodIn_r _ [11, 12, 13, 14, 1, 3, 15, 5, 16, 17, 18, 19, 20, 21, 22, 23, 24, 10, 25, 26, 27, 28, 29, 30, 31, 32, 33, 34, 35, 36, 37, 38, 39, 40, 41, 42, 43, 44, 45, 46, 47, 48, 49, 50, 51, 52, 53, 54, 55, 56, 57, 58, 59, 60, 61, 62, 63, 64, 65, 66, 67, 68, 69, 70, 71, 72, 73, 74, 75, 76, 77, 78, 79, 80, 81, 82, 83, 84, 85, 86, 87, 88, 89, 90, 91, 92, 93, 94, 95, 96, 97, 98, 99, 100, 101, 102, 103, 104, 105, 106, 107, 108, 109, 110, 111] rfl (by decide +kernel)
set_option maxRecDepth 20000 in
theorem gX8_isWanted_X8_runOn : GoodIn wsX8_isWanted (wsV RX8 285 RX8 yX8_runOn wsX8_runOn) := goodIn_app (goodIn_of _ (by decide +kernel)) ggX8_isWanted_X8_runOn
set_option maxRecDepth 20000 in
theorem ggX8_leavesOut_X8_isWanted : GoodIn wsX8_leavesOut wsX8_isWanted := goodIn_r _ [7, 8, 9, 10, 11, 12, 13, 14, 15, 16, 6, 17, 18, 19, 20, 21, 22, 23, 24, 25, 26, 27, 28, 29, 30, 31, 32, 33, 34, 35, 36, 37, 38, 39, 40, 41, 42, 43, 44, 45, 46, 2, 1, 47, 48, 49, 50, 51, 52, 53, 54, 55, 56, 57, 58, 59, 60, 61, 62, 63, 64, 65, 66, 67, 68, 69, 70, 71, 72, 73, 74, 75, 76, 77, 78, 79, 80, 81, 82, 83, 84, 85, 86, 87, 88, 89, 90, 91, 92, 93, 94, 95, 96, 97, 98, 99, 100, 101, 102, 103, 104, 105, 106, 107, 108, 109, 110, 111, 112, 113, 114, 115] rfl (by decide +kernel)
set_option maxRecDepth 20000 in
theorem gX8_leavesOut_X8_isWanted : GoodIn wsX8_leavesOut (wsV RX8 307 RX8 yX8_isWanted wsX8_isWanted) := goodIn_app (goodIn_of _ (by decide +kernel)) ggX8_leavesOut_X8_isWanted
set_option maxRecDepth 20000 in
theorem ggX8_small_X8_isShelf : GoodIn wsX8_small wsX8_isShelf := goodIn_r _ [10] rfl (by decide +kernel)
set_option maxRecDepth 20000 in
theorem gX8_small_X8_isShelf : GoodIn wsX8_small (va_wsS RX8 181 yX8_isShelf wsX8_isShelf) := goodIn_app (goodIn_of _ (by decide +kernel)) ggX8_small_X8_isShelf
set_option maxRecDepth 20000 in
theorem ggX8_small_X8_isInput : GoodIn wsX8_small wsX8_isInput := goodIn_r _ [14, 15, 84, 85, 86, 87, 88, 89, 90, 91, 92, 93, 94, 95, 96, 97, 98, 99, 100, 101, 102, 103, 104, 105, 106, 107, 108, 109, 110, 111, 112, 113, 114, 115, 116, 117, 118, 119, 120, 121, 122, 123, 124, 125, 126, 127, 128, 129, 130, 131, 132, 133, 134, 135, 136, 137, 138, 139, 140, 141, 142, 143] rfl (by decide +kernel)
set_option maxRecDepth 20000 in
theorem gX8_small_X8_isInput : GoodIn wsX8_small (wsV RX8 228 RX8 yX8_isInput wsX8_isInput) := goodIn_app (goodIn_of _ (by decide +kernel)) ggX8_small_X8_isInput
set_option maxRecDepth 20000 in
theorem ggX8_small_X8_use : GoodIn wsX8_small wsX8_use := goodIn_r _ [19, 20, 2, 5, 21, 84, 85, 86, 87, 88, 89, 90, 91, 92, 93, 94, 95, 96, 97, 98, 99, 100, 101, 102, 103, 104, 105, 106, 107, 108, 109, 110, 111, 112, 113, 114, 115, 116, 117, 118, 119, 120, 121, 122, 123, 124, 125, 126, 127, 128, 129, 130, 131, 132, 133, 134, 135, 136, 137, 138, 139, 140, 141, 142, 143] rfl (by decide +kernel)
set_option maxRecDepth 20000 in
theorem gX8_small_X8_use : GoodIn wsX8_small (wsV RX8 282 RX8 yX8_use wsX8_use) := goodIn_app (goodIn_of _ (by decide +kernel)) ggX8_small_X8_use
set_option maxRecDepth 20000 in
theorem ggX8_small_X8_runOn : GoodIn wsX8_small wsX8_runOn := goodIn_r _ [25, 26, 27, 28, 1, 29, 30, 31, 32, 33, 34, 35, 36, 37, 38, 39, 40, 9, 41, 42, 43, 44, 45, 46, 47, 48, 49, 50, 51, 52, 53, 54, 55, 56, 2, 5, 57, 58, 59, 60, 61, 62, 63, 64, 65, 84, 85, 86, 87, 88, 89, 90, 91, 92, 93, 94, 95, 96, 97, 98, 99, 100, 101, 102, 103, 104, 105, 106, 107, 108, 109, 110, 111, 112, 113, 114, 115, 116, 117, 118, 119, 120, 121, 122, 123, 124, 125, 126, 127, 128, 129, 130, 131, 132, 133, 134, 135, 136, 137, 138, 139, 140, 141, 142, 143] rfl (by decide +kernel)
set_option maxRecDepth 20000 in
theorem gX8_small_X8_runOn : GoodIn wsX8_small (wsV RX8 285 RX8 yX8_runOn wsX8_runOn) := goodIn_app (goodIn_of _ (by decide +kernel)) ggX8_small_X8_runOn
set_option maxRecDepth 20000 in
theorem ggX8_small_X8_isFall : GoodIn wsX8_small wsX8_isFall := goodIn_r _ [68] rfl (by decide +kernel)
set_option maxRecDepth 20000 in
theorem gX8_small_X8_isFall : GoodIn wsX8_small (va_wsS RX8 310 yX8_isFall wsX8_isFall) := goodIn_app (goodIn_of _ (by decide +kernel)) ggX8_small_X8_isFall
set_option maxRecDepth 20000 in
theorem ggX8_small_X8_want : GoodIn wsX8_small wsX8_want := goodIn_r _ [72, 1, 73, 29, 74, 31, 75, 84, 85, 86, 87, 88, 89, 90, 91, 92, 93, 94, 95, 96, 97, 98, 99, 100, 101, 102, 103, 104, 105, 106, 107, 108, 109, 110, 111, 112, 113, 114, 115, 116, 117, 118, 119, 120, 121, 122, 123, 124, 125, 126, 127, 128, 129, 130, 131, 132, 133, 134, 135, 136, 137, 138, 139, 140, 141, 142, 143] rfl (by decide +kernel)
set_option maxRecDepth 20000 in
theorem gX8_small_X8_want : GoodIn wsX8_small (wsV RX8 313 RX8 yX8_want wsX8_want) := goodIn_app (goodIn_of _ (by decide +kernel)) ggX8_small_X8_want
set_option maxRecDepth 20000 in
theorem ggX8_small_X8_leavesOut : GoodIn wsX8_small wsX8_leavesOut := goodIn_r _ [79, 5, 2, 80, 81, 82, 9, 83, 1, 73, 29, 74, 31, 75, 22, 23, 24, 25, 26, 27, 28, 30, 32, 33, 34, 35, 36, 37, 38, 39, 40, 41, 42, 43, 44, 45, 46, 47, 48, 49, 50, 51, 52, 53, 54, 55, 56, 57, 58, 59, 60, 61, 62, 63, 64, 65, 84, 85, 86, 87, 88, 89, 90, 91, 92, 93, 94, 95, 96, 97, 98, 99, 100, 101, 102, 103, 104, 105, 106, 107, 108, 109, 110, 111, 112, 113, 114, 115, 116, 117, 118, 119, 120, 121, 122, 123, 124, 125, 126, 127, 128, 129, 130, 131, 132, 133, 134, 135, 136, 137, 138, 139, 140, 141, 142, 143] rfl (by decide +kernel)
set_option maxRecDepth 20000 in
theorem gX8_small_X8_leavesOut : GoodIn wsX8_small (wsV RX8 316 RX8 yX8_leavesOut wsX8_leavesOut) := goodIn_app (goodIn_of _ (by decide +kernel)) ggX8_small_X8_leavesOut
set_option maxRecDepth 20000 in
theorem ggX8_small_X8_isWanted : GoodIn wsX8_small wsX8_isWanted := goodIn_r _ [83, 1, 73, 29, 74, 31, 75, 22, 23, 24, 9, 25, 26, 27, 28, 30, 32, 33, 34, 35, 36, 37, 38, 39, 40, 41, 42, 43, 44, 45, 46, 47, 48, 49, 50, 51, 52, 53, 54, 55, 56, 2, 5, 57, 58, 59, 60, 61, 62, 63, 64, 65, 84, 85, 86, 87, 88, 89, 90, 91, 92, 93, 94, 95, 96, 97, 98, 99, 100, 101, 102, 103, 104, 105, 106, 107, 108, 109, 110, 111, 112, 113, 114, 115, 116, 117, 118, 119, 120, 121, 122, 123, 124, 125, 126, 127, 128, 129, 130, 131, 132, 133, 134, 135, 136, 137, 138, 139, 140, 141, 142, 143] rfl (by decide +kernel)
set_option maxRecDepth 20000 in
theorem gX8_small_X8_isWanted : GoodIn wsX8_small (wsV RX8 307 RX8 yX8_isWanted wsX8_isWanted) := goodIn_app (goodIn_of _ (by decide +kernel)) ggX8_small_X8_isWanted
set_option maxRecDepth 20000 in
theorem ggX8_ruled_X8_isShelf : GoodIn wsX8_ruled wsX8_isShelf := goodIn_r _ [11] rfl (by decide +kernel)
set_option maxRecDepth 20000 in
theorem gX8_ruled_X8_isShelf : GoodIn wsX8_ruled (va_wsS RX8 181 yX8_isShelf wsX8_isShelf) := goodIn_app (goodIn_of _ (by decide +kernel)) ggX8_ruled_X8_isShelf
set_option maxRecDepth 20000 in
theorem ggX8_ruled_X8_isInput : GoodIn wsX8_ruled wsX8_isInput := goodIn_r _ [15, 16, 73, 74, 75, 76, 77, 78, 79, 80, 81, 82, 83, 84, 85, 86, 87, 88, 89, 90, 91, 92, 93, 94, 95, 96, 97, 98, 99, 100, 101, 102, 103, 104, 105, 106, 107, 108, 109, 110, 111, 112, 113, 114, 115, 116, 117, 118, 119, 120, 121, 122, 123, 124, 125, 126, 127, 128, 129, 130, 131, 132] rfl (by decide +kernel)
set_option maxRecDepth 20000 in
theorem gX8_ruled_X8_isInput : GoodIn wsX8_ruled (wsV RX8 228 RX8 yX8_isInput wsX8_isInput) := goodIn_app (goodIn_of _ (by decide +kernel)) ggX8_ruled_X8_isInput
set_option maxRecDepth 20000 in
theorem ggX8_ruled_X8_use : GoodIn wsX8_ruled wsX8_use := goodIn_r _ [20, 21, 3, 4, 22, 73, 74, 75, 76, 77, 78, 79, 80, 81, 82, 83, 84, 85, 86, 87, 88, 89, 90, 91, 92, 93, 94, 95, 96, 97, 98, 99, 100, 101, 102, 103, 104, 105, 106, 107, 108, 109, 110, 111, 112, 113, 114, 115, 116, 117, 118, 119, 120, 121, 122, 123, 124, 125, 126, 127, 128, 129, 130, 131, 132] rfl (by decide +kernel)
set_option maxRecDepth 20000 in
theorem gX8_ruled_X8_use : GoodIn wsX8_ruled (wsV RX8 282 RX8 yX8_use wsX8_use) := goodIn_app (goodIn_of _ (by decide +kernel)) ggX8_ruled_X8_use
set_option maxRecDepth 20000 in
theorem ggX8_ruled_X8_runOn : GoodIn wsX8_ruled wsX8_runOn := goodIn_r _ [26, 27, 28, 29, 1, 6, 2, 30, 31, 32, 33, 34, 35, 36, 37, 38, 39, 10, 40, 41, 42, 43, 44, 45, 46, 47, 48, 49, 50, 51, 52, 53, 54, 55, 3, 4, 56, 57, 58, 59, 60, 61, 62, 63, 64, 73, 74, 75, 76, 77, 78, 79, 80, 81, 82, 83, 84, 85, 86, 87, 88, 89, 90, 91, 92, 93, 94, 95, 96, 97, 98, 99, 100, 101, 102, 103, 104, 105, 106, 107, 108, 109, 110, 111, 112, 113, 114, 115, 116, 117, 118, 119, 120, 121, 122, 123, 124, 125, 126, 127, 128, 129, 130, 131, 132] rfl (by decide +kernel)
set_option maxRecDepth 20000 in
theorem gX8_ruled_X8_runOn : GoodIn wsX8_ruled (wsV RX8 285 RX8 yX8_runOn wsX8_runOn) := goodIn_app (goodIn_of _ (by decide +kernel)) ggX8_ruled_X8_runOn
set_option maxRecDepth 20000 in
theorem ggX8_ruled_X8_isFall : GoodIn wsX8_ruled wsX8_isFall := goodIn_r _ [67] rfl (by decide +kernel)
set_option maxRecDepth 20000 in
theorem gX8_ruled_X8_isFall : GoodIn wsX8_ruled (va_wsS RX8 310 yX8_isFall wsX8_isFall) := goodIn_app (goodIn_of _ (by decide +kernel)) ggX8_ruled_X8_isFall
set_option maxRecDepth 20000 in
theorem ggX8_ruled_X8_want : GoodIn wsX8_ruled wsX8_want := goodIn_r _ [71, 1, 5, 6, 7, 30, 72, 73, 74, 75, 76, 77, 78, 79, 80, 81, 82, 83, 84, 85, 86, 87, 88, 89, 90, 91, 92, 93, 94, 95, 96, 97, 98, 99, 100, 101, 102, 103, 104, 105, 106, 107, 108, 109, 110, 111, 112, 113, 114, 115, 116, 117, 118, 119, 120, 121, 122, 123, 124, 125, 126, 127, 128, 129, 130, 131, 132] rfl (by decide +kernel)
set_option maxRecDepth 20000 in
theorem gX8_ruled_X8_want : GoodIn wsX8_ruled (wsV RX8 313 RX8 yX8_want wsX8_want) := goodIn_app (goodIn_of _ (by decide +kernel)) ggX8_ruled_X8_want
set_option maxRecDepth 20000 in
theorem ggX8_seek_X8_isShelf : GoodIn wsX8_seek wsX8_isShelf := goodIn_r _ [9] rfl (by decide +kernel)
set_option maxRecDepth 20000 in
theorem gX8_seek_X8_isShelf : GoodIn wsX8_seek (va_wsS RX8 181 yX8_isShelf wsX8_isShelf) := goodIn_app (goodIn_of _ (by decide +kernel)) ggX8_seek_X8_isShelf
set_option maxRecDepth 20000 in
theorem ggX8_seek_X8_isInput : GoodIn wsX8_seek wsX8_isInput := goodIn_r _ [13, 14, 65, 66, 67, 68, 69, 70, 71, 72, 73, 74, 75, 76, 77, 78, 79, 80, 81, 82, 83, 84, 85, 86, 87, 88, 89, 90, 91, 92, 93, 94, 95, 96, 97, 98, 99, 100, 101, 102, 103, 104, 105, 106, 107, 108, 109, 110, 111, 112, 113, 114, 115, 116, 117, 118, 119, 120, 121, 122, 123, 124] rfl (by decide +kernel)
set_option maxRecDepth 20000 in
theorem gX8_seek_X8_isInput : GoodIn wsX8_seek (wsV RX8 228 RX8 yX8_isInput wsX8_isInput) := goodIn_app (goodIn_of _ (by decide +kernel)) ggX8_seek_X8_isInput
set_option maxRecDepth 20000 in
theorem ggX8_seek_X8_use : GoodIn wsX8_seek wsX8_use := goodIn_r _ [18, 19, 4, 5, 20, 65, 66, 67, 68, 69, 70, 71, 72, 73, 74, 75, 76, 77, 78, 79, 80, 81, 82, 83, 84, 85, 86, 87, 88, 89, 90, 91, 92, 93, 94, 95, 96, 97, 98, 99, 100, 101, 102, 103, 104, 105, 106, 107, 108, 109, 110, 111, 112, 113, 114, 115, 116, 117, 118, 119, 120, 121, 122, 123, 124] rfl (by decide +kernel)
set_option maxRecDepth 20000 in
theorem gX8_seek_X8_use : GoodIn wsX8_seek (wsV RX8 282 RX8 yX8_use wsX8_use) := goodIn_app (goodIn_of _ (by decide +kernel)) ggX8_seek_X8_use
set_option maxRecDepth 20000 in
theorem ggX8_seek_X8_runOn : GoodIn wsX8_seek wsX8_runOn := goodIn_r _ [24, 25, 26, 27, 3, 28, 29, 30, 31, 32, 33, 34, 35, 36, 37, 38, 39, 8, 40, 41, 42, 43, 44, 45, 46, 47, 48, 49, 50, 51, 52, 53, 54, 55, 4, 5, 56, 57, 58, 59, 60, 61, 62, 63, 64, 65, 66, 67, 68, 69, 70, 71, 72, 73, 74, 75, 76, 77, 78, 79, 80, 81, 82, 83, 84, 85, 86, 87, 88, 89, 90, 91, 92, 93, 94, 95, 96, 97, 98, 99, 100, 101, 102, 103, 104, 105, 106, 107, 108, 109, 110, 111, 112, 113, 114, 115, 116, 117, 118, 119, 120, 121, 122, 123, 124] rfl (by decide +kernel)
set_option maxRecDepth 20000 in
theorem gX8_seek_X8_runOn : GoodIn wsX8_seek (wsV RX8 285 RX8 yX8_runOn wsX8_runOn) := goodIn_app (goodIn_of _ (by decide +kernel)) ggX8_seek_X8_runOn
set_option maxRecDepth 20000 in
theorem ggX8_nearest_X8_seek : GoodIn wsX8_nearest wsX8_seek := goodIn_r _ [6, 1, 7, 8, 9, 10, 11, 12, 5, 13, 14, 15, 16, 17, 18, 19, 20, 21, 22, 23, 24, 25, 26, 27, 28, 29, 30, 31, 32, 33, 34, 35, 36, 37, 38, 39, 40, 41, 42, 43, 44, 45, 46, 47, 48, 49, 50, 51, 52, 53, 54, 55, 56, 57, 58, 59, 60, 61, 62, 63, 64, 65, 66, 67, 68, 69, 70, 71, 72, 73, 74, 75, 76, 77, 78, 79, 80, 81, 82, 83, 84, 85, 86, 87, 88, 89, 90, 91, 92, 93, 94, 95, 96, 97, 98, 99, 100, 101, 102, 103, 104, 105, 106, 107, 108, 109, 110, 111, 112, 113, 114, 115, 116, 117, 118, 119, 120, 121, 122, 123, 124, 125, 126, 127, 128] rfl (by decide +kernel)
set_option maxRecDepth 20000 in
theorem gX8_nearest_X8_seek : GoodIn wsX8_nearest (wsV RX8 326 RX8 yX8_seek wsX8_seek) := goodIn_app (goodIn_of _ (by decide +kernel)) ggX8_nearest_X8_seek
set_option maxRecDepth 20000 in
theorem ggX8_nearestByte_X8_seek : GoodIn wsX8_nearestByte wsX8_seek := goodIn_r _ [6, 7, 1, 8, 9, 10, 11, 12, 5, 13, 14, 15, 16, 17, 18, 19, 20, 21, 22, 23, 24, 25, 26, 27, 28, 29, 30, 31, 32, 33, 34, 35, 36, 37, 38, 39, 40, 41, 42, 43, 44, 45, 46, 47, 48, 49, 50, 51, 52, 53, 54, 55, 56, 57, 58, 59, 60, 61, 62, 63, 64, 65, 66, 67, 68, 69, 70, 71, 72, 73, 74, 75, 76, 77, 78, 79, 80, 81, 82, 83, 84, 85, 86, 87, 88, 89, 90, 91, 92, 93, 94, 95, 96, 97, 98, 99, 100, 101, 102, 103, 104, 105, 106, 107, 108, 109, 110, 111, 112, 113, 114, 115, 116, 117, 118, 119, 120, 121, 122, 123, 124, 125, 126, 127, 128] rfl (by decide +kernel)
set_option maxRecDepth 20000 in
theorem gX8_nearestByte_X8_seek : GoodIn wsX8_nearestByte (wsV RX8 326 RX8 yX8_seek wsX8_seek) := goodIn_app (goodIn_of _ (by decide +kernel)) ggX8_nearestByte_X8_seek
set_option maxRecDepth 20000 in
theorem ggX8_held_X8_isShelf : GoodIn wsX8_held wsX8_isShelf := goodIn_r _ [8] rfl (by decide +kernel)
set_option maxRecDepth 20000 in
theorem gX8_held_X8_isShelf : GoodIn wsX8_held (va_wsS RX8 181 yX8_isShelf wsX8_isShelf) := goodIn_app (goodIn_of _ (by decide +kernel)) ggX8_held_X8_isShelf
set_option maxRecDepth 20000 in
theorem ggX8_held_X8_isInput : GoodIn wsX8_held wsX8_isInput := goodIn_r _ [12, 13, 68, 69, 70, 71, 72, 73, 74, 75, 76, 77, 78, 79, 80, 81, 82, 83, 84, 85, 86, 87, 88, 89, 90, 91, 92, 93, 94, 95, 96, 97, 98, 99, 100, 101, 102, 103, 104, 105, 106, 107, 108, 109, 110, 111, 112, 113, 114, 115, 116, 117, 118, 119, 120, 121, 122, 123, 124, 125, 126, 127] rfl (by decide +kernel)
set_option maxRecDepth 20000 in
theorem gX8_held_X8_isInput : GoodIn wsX8_held (wsV RX8 228 RX8 yX8_isInput wsX8_isInput) := goodIn_app (goodIn_of _ (by decide +kernel)) ggX8_held_X8_isInput
set_option maxRecDepth 20000 in
theorem ggX8_held_X8_use : GoodIn wsX8_held wsX8_use := goodIn_r _ [17, 18, 19, 20, 21, 68, 69, 70, 71, 72, 73, 74, 75, 76, 77, 78, 79, 80, 81, 82, 83, 84, 85, 86, 87, 88, 89, 90, 91, 92, 93, 94, 95, 96, 97, 98, 99, 100, 101, 102, 103, 104, 105, 106, 107, 108, 109, 110, 111, 112, 113, 114, 115, 116, 117, 118, 119, 120, 121, 122, 123, 124, 125, 126, 127] rfl (by decide +kernel)
set_option maxRecDepth 20000 in
theorem gX8_held_X8_use : GoodIn wsX8_held (wsV RX8 282 RX8 yX8_use wsX8_use) := goodIn_app (goodIn_of _ (by decide +kernel)) ggX8_held_X8_use
set_option maxRecDepth 20000 in
theorem ggX8_held_X8_runOn : GoodIn wsX8_held wsX8_runOn := goodIn_r _ [25, 26, 27, 28, 1, 29, 30, 31, 32, 33, 2, 34, 35, 36, 37, 38, 39, 7, 40, 41, 42, 43, 44, 45, 46, 47, 48, 49, 50, 51, 52, 53, 54, 55, 19, 20, 56, 57, 58, 59, 60, 61, 62, 63, 4, 68, 69, 70, 71, 72, 73, 74, 75, 76, 77, 78, 79, 80, 81, 82, 83, 84, 85, 86, 87, 88, 89, 90, 91, 92, 93, 94, 95, 96, 97, 98, 99, 100, 101, 102, 103, 104, 105, 106, 107, 108, 109, 110, 111, 112, 113, 114, 115, 116, 117, 118, 119, 120, 121, 122, 123, 124, 125, 126, 127] rfl (by decide +kernel)
set_option maxRecDepth 20000 in
theorem gX8_held_X8_runOn : GoodIn wsX8_held (wsV RX8 285 RX8 yX8_runOn wsX8_runOn) := goodIn_app (goodIn_of _ (by decide +kernel)) ggX8_held_X8_runOn
set_option maxRecDepth 20000 in
theorem ggX8_held_X8_areOutsAlike : GoodIn wsX8_held wsX8_areOutsAlike := goodIn_r _ [67, 2, 4, 3, 68, 69, 70, 71, 72, 73, 74, 75, 76, 77, 78, 79, 80, 81, 82, 83, 84, 85, 86, 87, 88, 89, 90, 91, 92, 93, 94, 95, 96, 97, 98, 99, 100, 101, 102, 103, 104, 105, 106, 107, 108, 109, 110, 111, 112, 113, 114, 115, 116, 117, 118, 119, 120, 121, 122, 123, 124, 125, 126, 127] rfl (by decide +kernel)
set_option maxRecDepth 20000 in
theorem gX8_held_X8_areOutsAlike : GoodIn wsX8_held (wsV RX8 329 RX8 yX8_areOutsAlike wsX8_areOutsAlike) := goodIn_app (goodIn_of _ (by decide +kernel)) ggX8_held_X8_areOutsAlike
set_option maxRecDepth 20000 in
theorem ggX8_heldAll_X8_isShelf : GoodIn wsX8_heldAll wsX8_isShelf := goodIn_r _ [5] rfl (by decide +kernel)
set_option maxRecDepth 20000 in
theorem gX8_heldAll_X8_isShelf : GoodIn wsX8_heldAll (va_wsS RX8 181 yX8_isShelf wsX8_isShelf) := goodIn_app (goodIn_of _ (by decide +kernel)) ggX8_heldAll_X8_isShelf
set_option maxRecDepth 20000 in
theorem ggX8_heldAll_X8_held : GoodIn wsX8_heldAll wsX8_held := goodIn_r _ [9, 10, 11, 12, 13, 2, 3, 4, 5, 14, 15, 16, 17, 1, 18, 19, 20, 21, 22, 23, 24, 25, 26, 27, 28, 29, 30, 31, 32, 33, 34, 35, 36, 37, 38, 39, 40, 41, 42, 43, 44, 45, 46, 47, 48, 49, 50, 51, 52, 53, 54, 55, 56, 57, 58, 59, 60, 61, 62, 63, 64, 65, 66, 67, 68, 69, 70, 71, 72, 73, 74, 75, 76, 77, 78, 79, 80, 81, 82, 83, 84, 85, 86, 87, 88, 89, 90, 91, 92, 93, 94, 95, 96, 97, 98, 99, 100, 101, 102, 103, 104, 105, 106, 107, 108, 109, 110, 111, 112, 113, 114, 115, 116, 117, 118, 119, 120, 121, 122, 123, 124, 125, 126, 127, 128, 129, 130, 131] rfl (by decide +kernel)
set_option maxRecDepth 20000 in
theorem gX8_heldAll_X8_held : GoodIn wsX8_heldAll (wsV RX8 332 RX8 yX8_held wsX8_held) := goodIn_app (goodIn_of _ (by decide +kernel)) ggX8_heldAll_X8_held
set_option maxRecDepth 20000 in
theorem ggX8_about_X8_isShelf : GoodIn wsX8_about wsX8_isShelf := goodIn_r _ [7] rfl (by decide +kernel)
set_option maxRecDepth 20000 in
theorem gX8_about_X8_isShelf : GoodIn wsX8_about (va_wsS RX8 181 yX8_isShelf wsX8_isShelf) := goodIn_app (goodIn_of _ (by decide +kernel)) ggX8_about_X8_isShelf

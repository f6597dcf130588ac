set_option maxRecDepth 20000 in
theorem ggX6_byteRules_X3_setByte : GoodIn wsX6_byteRules wsX3_setByte := goodIn_r _ [11, 12, 13, 119, 120] rfl (by decide +kernel)
set_option maxRecDepth 20000 in
theorem gX6_byteRules_X3_setByte : GoodIn wsX6_byteRules (wsV RX6 77 RX3 yX3_setByte wsX3_setByte) := goodIn_app (goodIn_of _ (by decide +kernel)) ggX6_byteRules_X3_setByte
set_option maxRecDepth 20000 in
theorem ggX6_byteRules_X0_runWhole : GoodIn wsX6_byteRules wsX0_runWhole := goodIn_r _ [18, 19, 20, 21, 22, 23, 24, 25, 17, 26, 27, 28, 29, 30, 31, 32, 33, 34, 35, 36, 37, 38, 39, 40, 41, 42, 43, 44, 45, 46, 47, 48, 49, 50, 51, 52, 53, 54, 55, 56, 57, 10, 58, 12, 13, 59, 60, 61, 62, 63, 64, 65, 66, 67, 68, 69, 70, 71, 72, 73, 74, 75, 76, 77, 78, 79, 80, 81, 82, 83, 84, 85, 86, 87, 88, 89, 90, 91, 92, 93, 94, 95, 96, 97, 98, 106, 107, 108, 109, 110, 111, 112, 113, 114, 115, 116, 117, 118, 121, 122, 123, 124, 125, 119, 120] rfl (by decide +kernel)
set_option maxRecDepth 20000 in
theorem gX6_byteRules_X0_runWhole : GoodIn wsX6_byteRules (wsV RX6 43 RX0 yX0_runWhole wsX0_runWhole) := goodIn_app (goodIn_of _ (by decide +kernel)) ggX6_byteRules_X0_runWhole
set_option maxRecDepth 20000 in
theorem ggX6_leastThatEndsWell_X3_setByte : GoodIn wsX6_leastThatEndsWell wsX3_setByte := goodIn_r _ [8, 9, 10, 116, 117] rfl (by decide +kernel)
set_option maxRecDepth 20000 in
theorem gX6_leastThatEndsWell_X3_setByte : GoodIn wsX6_leastThatEndsWell (wsV RX6 77 RX3 yX3_setByte wsX3_setByte) := goodIn_app (goodIn_of _ (by decide +kernel)) ggX6_leastThatEndsWell_X3_setByte
set_option maxRecDepth 20000 in
theorem ggX6_leastThatEndsWell_X0_runWhole : GoodIn wsX6_leastThatEndsWell wsX0_runWhole := goodIn_r _ [15, 16, 17, 18, 19, 20, 21, 22, 14, 23, 24, 25, 26, 27, 28, 29, 30, 31, 32, 33, 34, 35, 36, 37, 38, 39, 40, 41, 42, 43, 44, 45, 46, 47, 48, 49, 50, 51, 52, 53, 54, 7, 55, 9, 10, 56, 57, 58, 59, 60, 61, 62, 63, 64, 65, 66, 67, 68, 69, 70, 71, 72, 73, 74, 75, 76, 77, 78, 79, 80, 81, 82, 83, 84, 85, 86, 87, 88, 89, 90, 91, 92, 93, 94, 95, 103, 104, 105, 106, 107, 108, 109, 110, 111, 112, 113, 114, 115, 118, 119, 120, 121, 122, 116, 117] rfl (by decide +kernel)
set_option maxRecDepth 20000 in
theorem gX6_leastThatEndsWell_X0_runWhole : GoodIn wsX6_leastThatEndsWell (wsV RX6 43 RX0 yX0_runWhole wsX0_runWhole) := goodIn_app (goodIn_of _ (by decide +kernel)) ggX6_leastThatEndsWell_X0_runWhole
set_option maxRecDepth 20000 in
theorem ggX7_init_X3_init : GoodIn wsX7_init wsX3_init := goodIn_r _ [35, 36, 2, 3, 37, 38, 39, 40, 41, 42, 43, 171, 172] rfl (by decide +kernel)
set_option maxRecDepth 20000 in
theorem gX7_init_X3_init : GoodIn wsX7_init (wsX3_init) := ggX7_init_X3_init
set_option maxRecDepth 20000 in
theorem ggX7_init_X1_init : GoodIn wsX7_init wsX1_init := goodIn_r _ [46, 47, 2, 3, 48, 49, 50, 51, 52, 53, 54, 42, 55, 56, 57, 58, 59, 60, 31, 32, 61, 62, 63, 64, 65, 66, 67, 68, 69, 70, 71, 72, 73, 74, 75, 76, 77, 78, 79, 80, 81, 82, 83, 84, 85, 86, 87, 88, 89, 90, 91, 92, 93, 94, 95, 96, 97, 98, 99, 100, 101, 102, 103, 104, 105, 106, 107, 108, 109, 110, 111, 112, 113, 114, 115, 116, 117, 118, 119, 120, 121, 122, 123, 124, 125, 126, 127, 128, 129, 130, 131, 227, 228, 229, 230, 184, 185, 186, 187, 188, 189, 190, 191, 192, 193, 194, 222, 223, 224, 225, 226] rfl (by decide +kernel)
set_option maxRecDepth 20000 in
theorem gX7_init_X1_init : GoodIn wsX7_init (wsX1_init) := ggX7_init_X1_init
set_option maxRecDepth 20000 in
theorem ggX7_init_X0_init : GoodIn wsX7_init wsX0_init := goodIn_r _ [133, 134, 2, 3, 42, 135, 136, 137, 138, 139, 140, 141, 142, 143, 144, 145, 146, 147, 195, 196, 197, 198, 199, 200, 201, 202, 203, 204, 205, 206, 207] rfl (by decide +kernel)
set_option maxRecDepth 20000 in
theorem gX7_init_X0_init_n37 : GoodIn wsX7_init (wsX0_init) := ggX7_init_X0_init
set_option maxRecDepth 20000 in
theorem ggX7_init_X4_init : GoodIn wsX7_init wsX4_init := goodIn_r _ [149, 150, 2, 3, 42, 151, 152, 153, 154, 155, 156, 157, 208, 209, 210, 211, 212, 213, 214] rfl (by decide +kernel)
set_option maxRecDepth 20000 in
theorem gX7_init_X4_init_n50 : GoodIn wsX7_init (wsX4_init) := ggX7_init_X4_init
set_option maxRecDepth 20000 in
theorem ggX7_init_X6_init : GoodIn wsX7_init wsX6_init := goodIn_r _ [159, 160, 2, 3, 161, 5, 6, 162, 163, 164, 165, 166, 167, 16, 17, 168, 169, 170, 34, 35, 36, 37, 38, 39, 40, 41, 42, 43, 132, 133, 134, 135, 136, 137, 138, 139, 140, 141, 142, 143, 144, 145, 146, 147, 171, 172, 215, 216, 217, 218, 219, 220, 221, 195, 196, 197, 198, 199, 200, 201, 202, 203, 204, 205, 206, 207] rfl (by decide +kernel)
set_option maxRecDepth 20000 in
theorem gX7_init_X6_init_n57 : GoodIn wsX7_init (wsX6_init) := ggX7_init_X6_init
set_option maxRecDepth 20000 in
theorem ggX7_init_X2_init : GoodIn wsX7_init wsX2_init := goodIn_r _ [72, 73, 2, 3, 42, 74, 75, 76, 77, 78, 222, 223, 224, 225, 226] rfl (by decide +kernel)
set_option maxRecDepth 20000 in
theorem gX7_init_X2_init_n70 : GoodIn wsX7_init (wsX2_init) := ggX7_init_X2_init
set_option maxRecDepth 20000 in
theorem ggX7_feed_X7_addFour : GoodIn wsX7_feed wsX7_addFour := goodIn_r _ [7, 1, 8, 9, 10, 11, 12, 13, 14, 15, 16, 17, 18, 19, 20, 21, 22, 23, 24, 25, 26, 27] rfl (by decide +kernel)
set_option maxRecDepth 20000 in
theorem gX7_feed_X7_addFour : GoodIn wsX7_feed (wsV RX7 74 RX7 yX7_addFour wsX7_addFour) := goodIn_app (goodIn_of _ (by decide +kernel)) ggX7_feed_X7_addFour
set_option maxRecDepth 20000 in
theorem ggX7_program_X7_isShelf : GoodIn wsX7_program wsX7_isShelf := goodIn_r _ [10] rfl (by decide +kernel)
set_option maxRecDepth 20000 in
theorem gX7_program_X7_isShelf : GoodIn wsX7_program (va_wsS RX7 77 yX7_isShelf wsX7_isShelf) := goodIn_app (goodIn_of _ (by decide +kernel)) ggX7_program_X7_isShelf
set_option maxRecDepth 20000 in
theorem ggX7_program_X1_parse : GoodIn wsX7_program wsX1_parse := goodIn_r _ [15, 16, 17, 18, 19, 20, 21, 22, 23, 24, 25, 26, 27, 28, 29, 30, 31, 32, 33, 34, 35, 36, 37, 38, 39, 40, 41, 42, 43, 44, 45, 46, 47, 48, 49, 50, 51, 9, 52, 53, 54, 55, 56, 57, 58, 59, 60, 61, 62, 63, 64, 65, 66, 67, 68, 69, 14, 70, 71, 72, 73, 74, 75, 76, 77, 78, 79, 80, 81, 82, 83, 84, 85, 86, 87, 88, 89, 90, 91, 92, 93, 94, 95, 96, 97, 98, 99, 100, 101, 102, 103, 104, 105, 106, 107, 108, 109, 110, 111, 112, 113, 114, 115, 116, 117, 118, 119, 120, 121, 122, 123, 124, 125, 126, 127, 128, 129, 147, 148, 149, 150, 151, 152, 153, 154, 155, 156, 157, 158, 159, 160, 161, 162, 163, 164, 165, 166, 145, 146] rfl (by decide +kernel)
set_option maxRecDepth 20000 in
theorem gX7_program_X1_parse : GoodIn wsX7_program (wsV RX7 81 RX1 yX1_parse wsX1_parse) := goodIn_app (goodIn_of _ (by decide +kernel)) ggX7_program_X1_parse
set_option maxRecDepth 20000 in
theorem ggX7_program_X1_exchange : GoodIn wsX7_program wsX1_exchange := goodIn_r _ [133, 16, 147, 148, 149, 150, 151, 152, 153, 154, 155, 156, 157] rfl (by decide +kernel)
set_option maxRecDepth 20000 in
theorem gX7_program_X1_exchange : GoodIn wsX7_program (wsV RX7 88 RX1 yX1_exchange wsX1_exchange) := goodIn_app (goodIn_of _ (by decide +kernel)) ggX7_program_X1_exchange
set_option maxRecDepth 20000 in
theorem ggX7_act_X7_isShelf : GoodIn wsX7_act wsX7_isShelf := goodIn_r _ [11] rfl (by decide +kernel)
set_option maxRecDepth 20000 in
theorem gX7_act_X7_isShelf : GoodIn wsX7_act (va_wsS RX7 77 yX7_isShelf wsX7_isShelf) := goodIn_app (goodIn_of _ (by decide +kernel)) ggX7_act_X7_isShelf
set_option maxRecDepth 20000 in
theorem ggX7_input_X3_copyFrom : GoodIn wsX7_input wsX3_copyFrom := goodIn_r _ [9, 10, 11, 12, 13, 8, 14, 15, 16, 17, 18, 19, 31, 32] rfl (by decide +kernel)
set_option maxRecDepth 20000 in
theorem gX7_input_X3_copyFrom : GoodIn wsX7_input (wsV RX7 112 RX3 yX3_copyFrom wsX3_copyFrom) := goodIn_app (goodIn_of _ (by decide +kernel)) ggX7_input_X3_copyFrom
set_option maxRecDepth 20000 in
theorem ggX7_byteOf_X7_isInput : GoodIn wsX7_byteOf wsX7_isInput := goodIn_r _ [6, 7, 15, 16, 17, 18, 19, 20, 21, 22, 23, 24, 25] rfl (by decide +kernel)
set_option maxRecDepth 20000 in
theorem gX7_byteOf_X7_isInput : GoodIn wsX7_byteOf (wsV RX7 115 RX7 yX7_isInput wsX7_isInput) := goodIn_app (goodIn_of _ (by decide +kernel)) ggX7_byteOf_X7_isInput
set_option maxRecDepth 20000 in
theorem ggX7_byteOf_X3_byteAt : GoodIn wsX7_byteOf wsX3_byteAt := goodIn_r _ [12, 13, 14, 26, 27] rfl (by decide +kernel)
set_option maxRecDepth 20000 in
theorem gX7_byteOf_X3_byteAt : GoodIn wsX7_byteOf (wsV RX7 118 RX3 yX3_byteAt wsX3_byteAt) := goodIn_app (goodIn_of _ (by decide +kernel)) ggX7_byteOf_X3_byteAt
set_option maxRecDepth 20000 in
theorem ggX7_run_X7_isShelf : GoodIn wsX7_run wsX7_isShelf := goodIn_r _ [9] rfl (by decide +kernel)
set_option maxRecDepth 20000 in
theorem gX7_run_X7_isShelf : GoodIn wsX7_run (va_wsS RX7 77 yX7_isShelf wsX7_isShelf) := goodIn_app (goodIn_of _ (by decide +kernel)) ggX7_run_X7_isShelf
set_option maxRecDepth 20000 in
theorem ggX7_run_X7_isInput : GoodIn wsX7_run wsX7_isInput := goodIn_r _ [13, 14, 103, 104, 105, 106, 107, 108, 109, 110, 111, 112, 113] rfl (by decide +kernel)
set_option maxRecDepth 20000 in
theorem gX7_run_X7_isInput : GoodIn wsX7_run (wsV RX7 115 RX7 yX7_isInput wsX7_isInput) := goodIn_app (goodIn_of _ (by decide +kernel)) ggX7_run_X7_isInput
set_option maxRecDepth 20000 in
theorem ggX7_run_X0_runWhole : GoodIn wsX7_run wsX0_runWhole := goodIn_r _ [19, 20, 21, 22, 23, 24, 25, 26, 18, 27, 28, 29, 30, 31, 32, 33, 34, 35, 36, 37, 38, 39, 40, 41, 42, 43, 44, 45, 46, 47, 48, 49, 50, 51, 52, 53, 54, 55, 56, 57, 58, 59, 60, 61, 62, 63, 64, 65, 66, 67, 68, 69, 70, 71, 72, 73, 74, 75, 76, 77, 78, 79, 80, 81, 82, 83, 84, 85, 86, 87, 88, 89, 90, 91, 92, 93, 94, 95, 96, 97, 98, 99, 100, 101, 102, 114, 115, 116, 117, 118, 119, 120, 121, 122, 123, 124, 125, 126, 127, 128, 129, 130, 131, 132, 133] rfl (by decide +kernel)
set_option maxRecDepth 20000 in
theorem gX7_run_X0_runWhole : GoodIn wsX7_run (wsV RX7 122 RX0 yX0_runWhole wsX0_runWhole) := goodIn_app (goodIn_of _ (by decide +kernel)) ggX7_run_X0_runWhole
set_option maxRecDepth 20000 in
theorem ggX7_left_X7_isCell : GoodIn wsX7_left wsX7_isCell := goodIn_r _ [7] rfl (by decide +kernel)
set_option maxRecDepth 20000 in
theorem gX7_left_X7_isCell : GoodIn wsX7_left (va_wsS RX7 159 yX7_isCell wsX7_isCell) := goodIn_app (goodIn_of _ (by decide +kernel)) ggX7_left_X7_isCell
set_option maxRecDepth 20000 in
theorem ggX7_leftOf_X7_isCell : GoodIn wsX7_leftOf wsX7_isCell := goodIn_r _ [8] rfl (by decide +kernel)
set_option maxRecDepth 20000 in
theorem gX7_leftOf_X7_isCell : GoodIn wsX7_leftOf (va_wsS RX7 159 yX7_isCell wsX7_isCell) := goodIn_app (goodIn_of _ (by decide +kernel)) ggX7_leftOf_X7_isCell
set_option maxRecDepth 20000 in
theorem ggX7_heaps_X7_isShelf : GoodIn wsX7_heaps wsX7_isShelf := goodIn_r _ [6] rfl (by decide +kernel)
set_option maxRecDepth 20000 in
theorem gX7_heaps_X7_isShelf : GoodIn wsX7_heaps (va_wsS RX7 77 yX7_isShelf wsX7_isShelf) := goodIn_app (goodIn_of _ (by decide +kernel)) ggX7_heaps_X7_isShelf
set_option maxRecDepth 20000 in
theorem ggX7_heaps_X7_sortInputs : GoodIn wsX7_heaps wsX7_sortInputs := goodIn_r _ [10, 1, 2, 11, 12, 13, 14, 15, 16, 17, 18, 19, 20, 21, 22, 23, 24, 25, 26, 27, 28, 29, 30, 31, 32, 33, 34, 35, 36, 37, 38, 39, 40, 41, 42, 43, 44, 45, 46, 47, 48, 49, 50, 51, 52, 53, 54, 55, 56, 57, 58, 59, 60, 61, 62, 63, 64, 65, 66, 67, 68, 69, 70, 71, 72, 73, 74, 75, 76, 77, 78, 79, 80, 81, 82, 83, 84, 85, 86, 87, 88, 89, 90, 91, 92, 93, 94, 95, 96, 97, 98, 99, 100, 101, 102, 103, 104, 105, 106, 107, 108, 109, 110, 111, 112, 113, 114, 115, 116, 117, 118, 119, 120, 121, 122, 123, 124, 125, 126, 127, 128, 129, 130, 131, 132, 133, 134, 135, 136, 137, 138, 139, 140, 141, 142, 143, 144, 145, 146, 147, 148, 149, 150, 151, 152, 153, 154, 155, 156, 157, 158, 159, 160, 161, 162, 163] rfl (by decide +kernel)
set_option maxRecDepth 20000 in
theorem gX7_heaps_X7_sortInputs : GoodIn wsX7_heaps (wsV RX7 171 RX7 yX7_sortInputs wsX7_sortInputs) := goodIn_app (goodIn_of _ (by decide +kernel)) ggX7_heaps_X7_sortInputs
set_option maxRecDepth 20000 in
theorem ggX7_heap_X7_isShelf : GoodIn wsX7_heap wsX7_isShelf := goodIn_r _ [11] rfl (by decide +kernel)
set_option maxRecDepth 20000 in
theorem gX7_heap_X7_isShelf : GoodIn wsX7_heap (va_wsS RX7 77 yX7_isShelf wsX7_isShelf) := goodIn_app (goodIn_of _ (by decide +kernel)) ggX7_heap_X7_isShelf
set_option maxRecDepth 20000 in
theorem ggX7_heap_X7_sortInputs : GoodIn wsX7_heap wsX7_sortInputs := goodIn_r _ [15, 1, 2, 16, 17, 18, 19, 20, 21, 22, 23, 24, 25, 26, 27, 28, 29, 30, 31, 32, 33, 34, 35, 36, 37, 38, 39, 40, 41, 42, 43, 44, 45, 46, 47, 48, 49, 50, 51, 52, 53, 54, 55, 56, 57, 58, 59, 60, 61, 62, 63, 64, 65, 66, 67, 68, 69, 70, 71, 72, 73, 74, 75, 76, 77, 78, 79, 80, 81, 82, 83, 84, 85, 86, 87, 88, 89, 90, 91, 92, 93, 94, 95, 96, 97, 98, 99, 100, 101, 102, 103, 104, 105, 106, 107, 108, 109, 110, 111, 112, 113, 114, 115, 116, 117, 118, 119, 120, 121, 122, 123, 124, 125, 126, 127, 128, 129, 130, 131, 132, 133, 134, 135, 136, 137, 138, 139, 140, 141, 142, 143, 144, 145, 146, 147, 148, 149, 150, 151, 152, 153, 154, 155, 156, 157, 158, 159, 160, 161, 162, 163, 164, 165, 166, 167, 168] rfl (by decide +kernel)
set_option maxRecDepth 20000 in
theorem gX7_heap_X7_sortInputs : GoodIn wsX7_heap (wsV RX7 171 RX7 yX7_sortInputs wsX7_sortInputs) := goodIn_app (goodIn_of _ (by decide +kernel)) ggX7_heap_X7_sortInputs
set_option maxRecDepth 20000 in
theorem ggX7_heapOf_X7_isShelf : GoodIn wsX7_heapOf wsX7_isShelf := goodIn_r _ [6] rfl (by decide +kernel)
set_option maxRecDepth 20000 in
theorem gX7_heapOf_X7_isShelf : GoodIn wsX7_heapOf (va_wsS RX7 77 yX7_isShelf wsX7_isShelf) := goodIn_app (goodIn_of _ (by decide +kernel)) ggX7_heapOf_X7_isShelf
set_option maxRecDepth 20000 in
theorem ggX7_heapOf_X7_isInput : GoodIn wsX7_heapOf wsX7_isInput := goodIn_r _ [10, 11, 131, 132, 133, 134, 135, 136, 137, 138, 139, 140, 141] rfl (by decide +kernel)
set_option maxRecDepth 20000 in
theorem gX7_heapOf_X7_isInput : GoodIn wsX7_heapOf (wsV RX7 115 RX7 yX7_isInput wsX7_isInput) := goodIn_app (goodIn_of _ (by decide +kernel)) ggX7_heapOf_X7_isInput
set_option maxRecDepth 20000 in
theorem ggX7_heapOf_X7_sortInputs : GoodIn wsX7_heapOf wsX7_sortInputs := goodIn_r _ [15, 1, 16, 11, 17, 18, 19, 20, 21, 22, 23, 24, 25, 26, 27, 28, 29, 30, 31, 32, 33, 34, 35, 36, 37, 38, 39, 40, 41, 42, 43, 44, 45, 46, 47, 48, 49, 50, 51, 52, 53, 54, 55, 56, 57, 58, 59, 60, 61, 62, 63, 64, 65, 66, 67, 68, 69, 70, 71, 72, 73, 74, 75, 76, 77, 78, 79, 80, 81, 82, 83, 84, 85, 86, 87, 88, 89, 90, 91, 92, 93, 94, 95, 96, 97, 98, 99, 100, 101, 102, 103, 104, 105, 106, 107, 108, 109, 110, 111, 112, 113, 114, 115, 116, 117, 118, 119, 120, 121, 122, 123, 124, 125, 126, 127, 128, 129, 130, 131, 132, 133, 134, 135, 136, 137, 138, 139, 140, 141, 142, 143, 144, 145, 146, 147, 148, 149, 150, 151, 152, 153, 154, 155, 156, 157, 158, 159, 160, 161, 162, 163, 164, 165, 166, 167, 168] rfl (by decide +kernel)
set_option maxRecDepth 20000 in
theorem gX7_heapOf_X7_sortInputs : GoodIn wsX7_heapOf (wsV RX7 171 RX7 yX7_sortInputs wsX7_sortInputs) := goodIn_app (goodIn_of _ (by decide +kernel)) ggX7_heapOf_X7_sortInputs
set_option maxRecDepth 20000 in
theorem ggX7_small_X7_isShelf : GoodIn wsX7_small wsX7_isShelf := goodIn_r _ [9] rfl (by decide +kernel)
set_option maxRecDepth 20000 in
theorem gX7_small_X7_isShelf : GoodIn wsX7_small (va_wsS RX7 77 yX7_isShelf wsX7_isShelf) := goodIn_app (goodIn_of _ (by decide +kernel)) ggX7_small_X7_isShelf
set_option maxRecDepth 20000 in
theorem ggX7_small_X7_isInput : GoodIn wsX7_small wsX7_isInput := goodIn_r _ [13, 14, 145, 146, 147, 148, 149, 150, 151, 152, 153, 154, 155] rfl (by decide +kernel)
set_option maxRecDepth 20000 in
theorem gX7_small_X7_isInput : GoodIn wsX7_small (wsV RX7 115 RX7 yX7_isInput wsX7_isInput) := goodIn_app (goodIn_of _ (by decide +kernel)) ggX7_small_X7_isInput
set_option maxRecDepth 20000 in
theorem ggX7_small_X6_makeSmall : GoodIn wsX7_small wsX6_makeSmall := goodIn_r _ [19, 20, 21, 22, 23, 24, 25, 26, 27, 28, 29, 30, 31, 32, 33, 34, 35, 36, 37, 38, 39, 40, 41, 42, 43, 44, 45, 46, 47, 48, 49, 50, 51, 52, 53, 54, 55, 56, 57, 58, 59, 60, 61, 62, 63, 64, 65, 66, 67, 68, 69, 70, 71, 72, 73, 74, 75, 76, 77, 78, 79, 80, 81, 82, 83, 84, 85, 86, 87, 88, 89, 90, 91, 92, 93, 94, 95, 96, 97, 98, 99, 100, 101, 102, 103, 104, 105, 106, 107, 108, 109, 110, 111, 112, 113, 114, 115, 116, 117, 118, 119, 120, 121, 122, 123, 124, 18, 125, 126, 127, 128, 129, 130, 131, 132, 133, 134, 135, 136, 137, 138, 139, 140, 141, 142, 143, 144, 156, 157, 158, 159, 160, 161, 162, 163, 164, 165, 166, 167, 168, 169, 170, 171, 172, 173, 174, 175, 176, 177, 178, 179, 180, 181, 182] rfl (by decide +kernel)
set_option maxRecDepth 20000 in
theorem gX7_small_X6_makeSmall : GoodIn wsX7_small (wsV RX7 191 RX6 yX6_makeSmall wsX6_makeSmall) := goodIn_app (goodIn_of _ (by decide +kernel)) ggX7_small_X6_makeSmall
set_option maxRecDepth 20000 in
theorem ggX7_smallByte_X3_byteAt : GoodIn wsX7_smallByte wsX3_byteAt := goodIn_r _ [8, 9, 10, 29, 30] rfl (by decide +kernel)
set_option maxRecDepth 20000 in
theorem gX7_smallByte_X3_byteAt : GoodIn wsX7_smallByte (wsV RX7 118 RX3 yX3_byteAt wsX3_byteAt) := goodIn_app (goodIn_of _ (by decide +kernel)) ggX7_smallByte_X3_byteAt
set_option maxRecDepth 20000 in
theorem ggX7_ruled_X7_isShelf : GoodIn wsX7_ruled wsX7_isShelf := goodIn_r _ [7] rfl (by decide +kernel)
set_option maxRecDepth 20000 in
theorem gX7_ruled_X7_isShelf : GoodIn wsX7_ruled (va_wsS RX7 77 yX7_isShelf wsX7_isShelf) := goodIn_app (goodIn_of _ (by decide +kernel)) ggX7_ruled_X7_isShelf

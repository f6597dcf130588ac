set_option maxRecDepth 20000 in
theorem ggX5_isRegister_X3_byteAt : GoodIn wsX5_isRegister wsX3_byteAt := goodIn_r _ [6, 7, 8, 18, 19] rfl (by decide +kernel)
set_option maxRecDepth 20000 in
theorem gX5_isRegister_X3_byteAt : GoodIn wsX5_isRegister (wsV RX5 34 RX3 yX3_byteAt wsX3_byteAt) := goodIn_app (goodIn_of _ (by decide +kernel)) ggX5_isRegister_X3_byteAt
set_option maxRecDepth 20000 in
theorem ggX5_isRegister_X7_isLetter : GoodIn wsX5_isRegister wsX7_isLetter := goodIn_r _ [11] rfl (by decide +kernel)
set_option maxRecDepth 20000 in
theorem gX5_isRegister_X7_isLetter_n44 : GoodIn wsX5_isRegister (wsX7_isLetter) := ggX5_isRegister_X7_isLetter
set_option maxRecDepth 20000 in
theorem ggX5_isRegister_X7_isDigit : GoodIn wsX5_isRegister wsX7_isDigit := goodIn_r _ [13] rfl (by decide +kernel)
set_option maxRecDepth 20000 in
theorem gX5_isRegister_X7_isDigit_n51 : GoodIn wsX5_isRegister (wsX7_isDigit) := ggX5_isRegister_X7_isDigit
set_option maxRecDepth 20000 in
theorem ggX5_readWord_X3_byteAt : GoodIn wsX5_readWord wsX3_byteAt := goodIn_r _ [7, 8, 9, 20, 21] rfl (by decide +kernel)
set_option maxRecDepth 20000 in
theorem gX5_readWord_X3_byteAt : GoodIn wsX5_readWord (wsV RX5 34 RX3 yX3_byteAt wsX3_byteAt) := goodIn_app (goodIn_of _ (by decide +kernel)) ggX5_readWord_X3_byteAt
set_option maxRecDepth 20000 in
theorem ggX5_readWord_X7_isLetter : GoodIn wsX5_readWord wsX7_isLetter := goodIn_r _ [12] rfl (by decide +kernel)
set_option maxRecDepth 20000 in
theorem gX5_readWord_X7_isLetter_n44 : GoodIn wsX5_readWord (wsX7_isLetter) := ggX5_readWord_X7_isLetter
set_option maxRecDepth 20000 in
theorem ggX5_readWord_X7_withLetter : GoodIn wsX5_readWord wsX7_withLetter := goodIn_r _ [14, 15] rfl (by decide +kernel)
set_option maxRecDepth 20000 in
theorem gX5_readWord_X7_withLetter_n57 : GoodIn wsX5_readWord (wsX7_withLetter) := ggX5_readWord_X7_withLetter
set_option maxRecDepth 20000 in
theorem ggX5_readNumber_X3_byteAt : GoodIn wsX5_readNumber wsX3_byteAt := goodIn_r _ [8, 9, 10, 20, 21] rfl (by decide +kernel)
set_option maxRecDepth 20000 in
theorem gX5_readNumber_X3_byteAt : GoodIn wsX5_readNumber (wsV RX5 34 RX3 yX3_byteAt wsX3_byteAt) := goodIn_app (goodIn_of _ (by decide +kernel)) ggX5_readNumber_X3_byteAt
set_option maxRecDepth 20000 in
theorem ggX5_readNumber_X7_isDigit : GoodIn wsX5_readNumber wsX7_isDigit := goodIn_r _ [13] rfl (by decide +kernel)
set_option maxRecDepth 20000 in
theorem gX5_readNumber_X7_isDigit_n51 : GoodIn wsX5_readNumber (wsX7_isDigit) := ggX5_readNumber_X7_isDigit
set_option maxRecDepth 20000 in
theorem ggX5_readNumber_X7_isLetter : GoodIn wsX5_readNumber wsX7_isLetter := goodIn_r _ [15] rfl (by decide +kernel)
set_option maxRecDepth 20000 in
theorem gX5_readNumber_X7_isLetter_n44 : GoodIn wsX5_readNumber (wsX7_isLetter) := ggX5_readNumber_X7_isLetter
set_option maxRecDepth 20000 in
theorem ggX6_init_X3_init : GoodIn wsX6_init wsX3_init := goodIn_r _ [19, 20, 2, 3, 21, 22, 23, 24, 25, 26, 27, 44, 45] rfl (by decide +kernel)
set_option maxRecDepth 20000 in
theorem gX6_init_X3_init : GoodIn wsX6_init (wsX3_init) := ggX6_init_X3_init
set_option maxRecDepth 20000 in
theorem ggX6_init_X0_init : GoodIn wsX6_init wsX0_init := goodIn_r _ [29, 30, 2, 3, 26, 31, 32, 33, 34, 35, 36, 37, 38, 39, 40, 41, 42, 43, 53, 54, 55, 56, 57, 58, 59, 60, 61, 62, 63, 64, 65] rfl (by decide +kernel)
set_option maxRecDepth 20000 in
theorem gX6_init_X0_init_n35 : GoodIn wsX6_init (wsX0_init) := ggX6_init_X0_init
set_option maxRecDepth 20000 in
theorem ggX6_makeSmall_X0_runWhole : GoodIn wsX6_makeSmall wsX0_runWhole := goodIn_r _ [9, 10, 11, 12, 13, 14, 15, 16, 8, 17, 18, 19, 20, 21, 22, 23, 24, 25, 26, 27, 28, 29, 30, 31, 32, 33, 34, 35, 36, 37, 38, 39, 40, 41, 42, 43, 44, 45, 46, 47, 48, 49, 50, 51, 52, 53, 54, 55, 56, 57, 58, 59, 60, 61, 62, 63, 64, 65, 66, 67, 68, 69, 70, 71, 72, 73, 74, 75, 76, 77, 78, 79, 80, 81, 82, 83, 84, 85, 86, 87, 88, 89, 90, 91, 92, 136, 137, 138, 139, 140, 141, 142, 143, 144, 145, 146, 147, 148, 149, 150, 151, 152, 153, 134, 135] rfl (by decide +kernel)
set_option maxRecDepth 20000 in
theorem gX6_makeSmall_X0_runWhole : GoodIn wsX6_makeSmall (wsV RX6 43 RX0 yX0_runWhole wsX0_runWhole) := goodIn_app (goodIn_of _ (by decide +kernel)) ggX6_makeSmall_X0_runWhole
set_option maxRecDepth 20000 in
theorem ggX6_makeSmall_X0_endedAtAct : GoodIn wsX6_makeSmall wsX0_endedAtAct := goodIn_r _ [92, 23, 136, 137, 138, 139, 140, 141, 142, 143, 144, 145, 146, 147, 148] rfl (by decide +kernel)
set_option maxRecDepth 20000 in
theorem gX6_makeSmall_X0_endedAtAct : GoodIn wsX6_makeSmall (wsV RX6 47 RX0 yX0_endedAtAct wsX0_endedAtAct) := goodIn_app (goodIn_of _ (by decide +kernel)) ggX6_makeSmall_X0_endedAtAct
set_option maxRecDepth 20000 in
theorem ggX6_makeSmall_X3_copyFrom : GoodIn wsX6_makeSmall wsX3_copyFrom := goodIn_r _ [97, 51, 98, 47, 48, 49, 50, 52, 99, 100, 101, 102, 134, 135] rfl (by decide +kernel)
set_option maxRecDepth 20000 in
theorem gX6_makeSmall_X3_copyFrom : GoodIn wsX6_makeSmall (wsV RX6 51 RX3 yX3_copyFrom wsX3_copyFrom) := goodIn_app (goodIn_of _ (by decide +kernel)) ggX6_makeSmall_X3_copyFrom
set_option maxRecDepth 20000 in
theorem ggX6_makeSmall_X6_leaveOutOnce : GoodIn wsX6_makeSmall wsX6_leaveOutOnce := goodIn_r _ [107, 2, 4, 108, 109, 1, 110, 111, 112, 49, 113, 51, 98, 47, 48, 50, 52, 99, 100, 101, 102, 5, 6, 7, 8, 9, 10, 11, 12, 13, 14, 15, 16, 17, 18, 19, 20, 21, 22, 23, 24, 25, 26, 27, 28, 29, 30, 31, 32, 33, 34, 35, 36, 37, 38, 39, 40, 41, 42, 43, 44, 45, 46, 53, 54, 55, 56, 57, 58, 59, 60, 61, 62, 63, 64, 65, 66, 67, 68, 69, 70, 71, 72, 73, 74, 75, 76, 77, 78, 79, 80, 81, 82, 83, 84, 85, 86, 87, 88, 89, 90, 91, 92, 114, 115, 116, 117, 94, 95, 96, 97, 127, 128, 129, 130, 131, 132, 133, 134, 135, 136, 137, 138, 139, 140, 141, 142, 143, 144, 145, 146, 147, 148, 149, 150, 151, 152, 153] rfl (by decide +kernel)
set_option maxRecDepth 20000 in
theorem gX6_makeSmall_X6_leaveOutOnce : GoodIn wsX6_makeSmall (wsV RX6 55 RX6 yX6_leaveOutOnce wsX6_leaveOutOnce) := goodIn_app (goodIn_of _ (by decide +kernel)) ggX6_makeSmall_X6_leaveOutOnce
set_option maxRecDepth 20000 in
theorem ggX6_makeSmall_X6_lowerByte : GoodIn wsX6_makeSmall wsX6_lowerByte := goodIn_r _ [121, 3, 109, 1, 122, 47, 48, 49, 50, 51, 52, 123, 124, 125, 126, 5, 6, 7, 8, 9, 10, 11, 12, 13, 14, 15, 16, 17, 18, 19, 20, 21, 22, 23, 24, 25, 26, 27, 28, 29, 30, 31, 32, 33, 34, 35, 36, 37, 38, 39, 40, 41, 42, 43, 44, 45, 46, 53, 54, 55, 56, 57, 58, 59, 60, 61, 62, 63, 64, 65, 66, 67, 68, 69, 70, 71, 72, 73, 74, 75, 76, 77, 78, 79, 80, 81, 82, 83, 84, 85, 86, 87, 88, 89, 90, 91, 92, 114, 115, 116, 117, 127, 128, 129, 130, 131, 132, 133, 134, 135, 136, 137, 138, 139, 140, 141, 142, 143, 144, 145, 146, 147, 148, 149, 150, 151, 152, 153] rfl (by decide +kernel)
set_option maxRecDepth 20000 in
theorem gX6_makeSmall_X6_lowerByte : GoodIn wsX6_makeSmall (wsV RX6 62 RX6 yX6_lowerByte wsX6_lowerByte) := goodIn_app (goodIn_of _ (by decide +kernel)) ggX6_makeSmall_X6_lowerByte
set_option maxRecDepth 20000 in
theorem ggX6_rulingBytes_X0_runWhole : GoodIn wsX6_rulingBytes wsX0_runWhole := goodIn_r _ [8, 9, 10, 11, 12, 13, 14, 15, 7, 16, 17, 18, 19, 20, 21, 22, 23, 24, 25, 26, 27, 28, 29, 30, 31, 32, 33, 34, 35, 36, 37, 38, 39, 40, 41, 42, 43, 44, 45, 46, 47, 48, 49, 50, 51, 52, 53, 54, 55, 56, 57, 58, 59, 60, 61, 62, 63, 64, 65, 66, 67, 68, 69, 70, 71, 72, 73, 74, 75, 76, 77, 78, 79, 80, 81, 82, 83, 84, 85, 86, 87, 88, 89, 90, 91, 123, 124, 125, 126, 127, 128, 129, 130, 131, 132, 133, 134, 135, 136, 137, 138, 139, 140, 141, 142] rfl (by decide +kernel)
set_option maxRecDepth 20000 in
theorem gX6_rulingBytes_X0_runWhole : GoodIn wsX6_rulingBytes (wsV RX6 43 RX0 yX0_runWhole wsX0_runWhole) := goodIn_app (goodIn_of _ (by decide +kernel)) ggX6_rulingBytes_X0_runWhole
set_option maxRecDepth 20000 in
theorem ggX6_rulingBytes_X0_endedAtAct : GoodIn wsX6_rulingBytes wsX0_endedAtAct := goodIn_r _ [91, 22, 123, 124, 125, 126, 127, 128, 129, 130, 131, 132, 133, 134, 135] rfl (by decide +kernel)
set_option maxRecDepth 20000 in
theorem gX6_rulingBytes_X0_endedAtAct : GoodIn wsX6_rulingBytes (wsV RX6 47 RX0 yX0_endedAtAct wsX0_endedAtAct) := goodIn_app (goodIn_of _ (by decide +kernel)) ggX6_rulingBytes_X0_endedAtAct
set_option maxRecDepth 20000 in
theorem ggX6_rulingBytes_X3_copyFrom : GoodIn wsX6_rulingBytes wsX3_copyFrom := goodIn_r _ [96, 50, 97, 46, 47, 48, 49, 51, 98, 99, 100, 101, 141, 142] rfl (by decide +kernel)
set_option maxRecDepth 20000 in
theorem gX6_rulingBytes_X3_copyFrom : GoodIn wsX6_rulingBytes (wsV RX6 51 RX3 yX3_copyFrom wsX3_copyFrom) := goodIn_app (goodIn_of _ (by decide +kernel)) ggX6_rulingBytes_X3_copyFrom
set_option maxRecDepth 20000 in
theorem ggX6_rulingBytes_X6_byteRules : GoodIn wsX6_rulingBytes wsX6_byteRules := goodIn_r _ [106, 2, 107, 108, 1, 109, 110, 111, 112, 113, 48, 114, 50, 51, 4, 5, 6, 7, 8, 9, 10, 11, 12, 13, 14, 15, 16, 17, 18, 19, 20, 21, 22, 23, 24, 25, 26, 27, 28, 29, 30, 31, 32, 33, 34, 35, 36, 37, 38, 39, 40, 41, 42, 43, 44, 45, 46, 47, 49, 52, 53, 54, 55, 56, 57, 58, 59, 60, 61, 62, 63, 64, 65, 66, 67, 68, 69, 70, 71, 72, 73, 74, 75, 76, 77, 78, 79, 80, 81, 82, 83, 84, 85, 86, 87, 88, 89, 90, 91, 116, 117, 118, 119, 120, 121, 122, 123, 124, 125, 126, 127, 128, 129, 130, 131, 132, 133, 134, 135, 141, 142, 136, 137, 138, 139, 140] rfl (by decide +kernel)
set_option maxRecDepth 20000 in
theorem gX6_rulingBytes_X6_byteRules : GoodIn wsX6_rulingBytes (wsV RX6 69 RX6 yX6_byteRules wsX6_byteRules) := goodIn_app (goodIn_of _ (by decide +kernel)) ggX6_rulingBytes_X6_byteRules
set_option maxRecDepth 20000 in
theorem ggX6_rulingBytes_X3_byteAt : GoodIn wsX6_rulingBytes wsX3_byteAt := goodIn_r _ [49, 50, 51, 141, 142] rfl (by decide +kernel)
set_option maxRecDepth 20000 in
theorem gX6_rulingBytes_X3_byteAt : GoodIn wsX6_rulingBytes (wsV RX6 73 RX3 yX3_byteAt wsX3_byteAt) := goodIn_app (goodIn_of _ (by decide +kernel)) ggX6_rulingBytes_X3_byteAt
set_option maxRecDepth 20000 in
theorem ggX6_rulingBytes_X3_setByte : GoodIn wsX6_rulingBytes wsX3_setByte := goodIn_r _ [114, 50, 51, 141, 142] rfl (by decide +kernel)
set_option maxRecDepth 20000 in
theorem gX6_rulingBytes_X3_setByte : GoodIn wsX6_rulingBytes (wsV RX6 77 RX3 yX3_setByte wsX3_setByte) := goodIn_app (goodIn_of _ (by decide +kernel)) ggX6_rulingBytes_X3_setByte
set_option maxRecDepth 20000 in
theorem ggX6_findNearest_X0_runWhole : GoodIn wsX6_findNearest wsX0_runWhole := goodIn_r _ [11, 12, 13, 14, 15, 16, 17, 18, 10, 19, 20, 21, 22, 23, 24, 25, 26, 27, 28, 29, 30, 31, 32, 33, 34, 35, 36, 37, 38, 39, 40, 41, 42, 43, 44, 45, 46, 47, 48, 49, 50, 51, 52, 53, 54, 55, 56, 57, 58, 59, 60, 61, 62, 63, 64, 65, 66, 67, 68, 69, 70, 71, 72, 73, 74, 75, 76, 77, 78, 79, 80, 81, 82, 83, 84, 85, 86, 87, 88, 89, 90, 91, 92, 93, 94, 122, 123, 124, 125, 126, 127, 128, 129, 130, 131, 132, 133, 134, 135, 136, 137, 138, 139, 140, 141] rfl (by decide +kernel)
set_option maxRecDepth 20000 in
theorem gX6_findNearest_X0_runWhole : GoodIn wsX6_findNearest (wsV RX6 43 RX0 yX0_runWhole wsX0_runWhole) := goodIn_app (goodIn_of _ (by decide +kernel)) ggX6_findNearest_X0_runWhole
set_option maxRecDepth 20000 in
theorem ggX6_findNearest_X3_copyFrom : GoodIn wsX6_findNearest wsX3_copyFrom := goodIn_r _ [98, 53, 99, 49, 50, 51, 52, 54, 100, 101, 102, 103, 140, 141] rfl (by decide +kernel)
set_option maxRecDepth 20000 in
theorem gX6_findNearest_X3_copyFrom : GoodIn wsX6_findNearest (wsV RX6 51 RX3 yX3_copyFrom wsX3_copyFrom) := goodIn_app (goodIn_of _ (by decide +kernel)) ggX6_findNearest_X3_copyFrom
set_option maxRecDepth 20000 in
theorem ggX6_findNearest_X6_leastThatEndsWell : GoodIn wsX6_findNearest wsX6_leastThatEndsWell := goodIn_r _ [108, 5, 109, 4, 110, 111, 112, 51, 113, 53, 54, 7, 8, 9, 10, 11, 12, 13, 14, 15, 16, 17, 18, 19, 20, 21, 22, 23, 24, 25, 26, 27, 28, 29, 30, 31, 32, 33, 34, 35, 36, 37, 38, 39, 40, 41, 42, 43, 44, 45, 46, 47, 48, 49, 50, 52, 55, 56, 57, 58, 59, 60, 61, 62, 63, 64, 65, 66, 67, 68, 69, 70, 71, 72, 73, 74, 75, 76, 77, 78, 79, 80, 81, 82, 83, 84, 85, 86, 87, 88, 89, 90, 91, 92, 93, 94, 115, 116, 117, 118, 119, 120, 121, 122, 123, 124, 125, 126, 127, 128, 129, 130, 131, 132, 133, 134, 140, 141, 135, 136, 137, 138, 139] rfl (by decide +kernel)
set_option maxRecDepth 20000 in
theorem gX6_findNearest_X6_leastThatEndsWell : GoodIn wsX6_findNearest (wsV RX6 84 RX6 yX6_leastThatEndsWell wsX6_leastThatEndsWell) := goodIn_app (goodIn_of _ (by decide +kernel)) ggX6_findNearest_X6_leastThatEndsWell
set_option maxRecDepth 20000 in
theorem ggX6_findNearest_X3_byteAt : GoodIn wsX6_findNearest wsX3_byteAt := goodIn_r _ [52, 53, 54, 140, 141] rfl (by decide +kernel)
set_option maxRecDepth 20000 in
theorem gX6_findNearest_X3_byteAt : GoodIn wsX6_findNearest (wsV RX6 73 RX3 yX3_byteAt wsX3_byteAt) := goodIn_app (goodIn_of _ (by decide +kernel)) ggX6_findNearest_X3_byteAt
set_option maxRecDepth 20000 in
theorem ggX6_findNearest_X3_setByte : GoodIn wsX6_findNearest wsX3_setByte := goodIn_r _ [113, 53, 54, 140, 141] rfl (by decide +kernel)
set_option maxRecDepth 20000 in
theorem gX6_findNearest_X3_setByte : GoodIn wsX6_findNearest (wsV RX6 77 RX3 yX3_setByte wsX3_setByte) := goodIn_app (goodIn_of _ (by decide +kernel)) ggX6_findNearest_X3_setByte
set_option maxRecDepth 20000 in
theorem ggX6_leaveOutOnce_X3_copyWithout : GoodIn wsX6_leaveOutOnce wsX3_copyWithout := goodIn_r _ [10, 11, 12, 13, 14, 9, 15, 16, 17, 18, 19, 20, 118, 119] rfl (by decide +kernel)
set_option maxRecDepth 20000 in
theorem gX6_leaveOutOnce_X3_copyWithout : GoodIn wsX6_leaveOutOnce (wsV RX6 88 RX3 yX3_copyWithout wsX3_copyWithout) := goodIn_app (goodIn_of _ (by decide +kernel)) ggX6_leaveOutOnce_X3_copyWithout
set_option maxRecDepth 20000 in
theorem ggX6_leaveOutOnce_X0_runWhole : GoodIn wsX6_leaveOutOnce wsX0_runWhole := goodIn_r _ [25, 26, 27, 28, 29, 30, 31, 32, 24, 33, 34, 35, 36, 37, 38, 39, 40, 41, 42, 43, 44, 45, 46, 47, 48, 49, 50, 51, 52, 53, 54, 55, 56, 57, 58, 59, 60, 61, 62, 13, 14, 9, 15, 11, 16, 63, 64, 65, 66, 67, 68, 69, 70, 71, 72, 73, 74, 75, 76, 77, 78, 79, 80, 81, 82, 83, 84, 85, 86, 87, 88, 89, 90, 91, 92, 93, 94, 95, 96, 97, 98, 99, 100, 101, 102, 120, 121, 122, 123, 124, 125, 126, 127, 128, 129, 130, 131, 132, 133, 134, 135, 136, 137, 118, 119] rfl (by decide +kernel)
set_option maxRecDepth 20000 in
theorem gX6_leaveOutOnce_X0_runWhole : GoodIn wsX6_leaveOutOnce (wsV RX6 43 RX0 yX0_runWhole wsX0_runWhole) := goodIn_app (goodIn_of _ (by decide +kernel)) ggX6_leaveOutOnce_X0_runWhole
set_option maxRecDepth 20000 in
theorem ggX6_leaveOutOnce_X0_hasCauseOf : GoodIn wsX6_leaveOutOnce wsX0_hasCauseOf := goodIn_r _ [106, 26, 39, 41, 120, 121, 122, 123, 124, 125, 126, 127, 128, 129, 130, 131, 132] rfl (by decide +kernel)
set_option maxRecDepth 20000 in
theorem gX6_leaveOutOnce_X0_hasCauseOf : GoodIn wsX6_leaveOutOnce (wsV RX6 92 RX0 yX0_hasCauseOf wsX0_hasCauseOf) := goodIn_app (goodIn_of _ (by decide +kernel)) ggX6_leaveOutOnce_X0_hasCauseOf
set_option maxRecDepth 20000 in
theorem ggX6_leaveOutOnce_X3_copyFrom : GoodIn wsX6_leaveOutOnce wsX3_copyFrom := goodIn_r _ [110, 11, 12, 13, 14, 9, 15, 16, 17, 18, 19, 20, 118, 119] rfl (by decide +kernel)
set_option maxRecDepth 20000 in
theorem gX6_leaveOutOnce_X3_copyFrom : GoodIn wsX6_leaveOutOnce (wsV RX6 51 RX3 yX3_copyFrom wsX3_copyFrom) := goodIn_app (goodIn_of _ (by decide +kernel)) ggX6_leaveOutOnce_X3_copyFrom
set_option maxRecDepth 20000 in
theorem ggX6_lowerByte_X3_byteAt : GoodIn wsX6_lowerByte wsX3_byteAt := goodIn_r _ [8, 9, 10, 108, 109] rfl (by decide +kernel)
set_option maxRecDepth 20000 in
theorem gX6_lowerByte_X3_byteAt : GoodIn wsX6_lowerByte (wsV RX6 73 RX3 yX3_byteAt wsX3_byteAt) := goodIn_app (goodIn_of _ (by decide +kernel)) ggX6_lowerByte_X3_byteAt
set_option maxRecDepth 20000 in
theorem ggX6_lowerByte_X3_setByte : GoodIn wsX6_lowerByte wsX3_setByte := goodIn_r _ [14, 9, 10, 108, 109] rfl (by decide +kernel)
set_option maxRecDepth 20000 in
theorem gX6_lowerByte_X3_setByte : GoodIn wsX6_lowerByte (wsV RX6 77 RX3 yX3_setByte wsX3_setByte) := goodIn_app (goodIn_of _ (by decide +kernel)) ggX6_lowerByte_X3_setByte
set_option maxRecDepth 20000 in
theorem ggX6_lowerByte_X0_runWhole : GoodIn wsX6_lowerByte wsX0_runWhole := goodIn_r _ [19, 20, 21, 22, 23, 24, 25, 26, 18, 27, 28, 29, 30, 31, 32, 33, 34, 35, 36, 37, 38, 39, 40, 41, 42, 43, 44, 45, 46, 47, 48, 49, 50, 51, 52, 53, 54, 55, 56, 5, 6, 7, 8, 9, 10, 57, 58, 59, 60, 61, 62, 63, 64, 65, 66, 67, 68, 69, 70, 71, 72, 73, 74, 75, 76, 77, 78, 79, 80, 81, 82, 83, 84, 85, 86, 87, 88, 89, 90, 91, 92, 93, 94, 95, 96, 110, 111, 112, 113, 114, 115, 116, 117, 118, 119, 120, 121, 122, 123, 124, 125, 126, 127, 108, 109] rfl (by decide +kernel)
set_option maxRecDepth 20000 in
theorem gX6_lowerByte_X0_runWhole : GoodIn wsX6_lowerByte (wsV RX6 43 RX0 yX0_runWhole wsX0_runWhole) := goodIn_app (goodIn_of _ (by decide +kernel)) ggX6_lowerByte_X0_runWhole
set_option maxRecDepth 20000 in
theorem ggX6_lowerByte_X0_hasCauseOf : GoodIn wsX6_lowerByte wsX0_hasCauseOf := goodIn_r _ [100, 20, 33, 35, 110, 111, 112, 113, 114, 115, 116, 117, 118, 119, 120, 121, 122] rfl (by decide +kernel)
set_option maxRecDepth 20000 in
theorem gX6_lowerByte_X0_hasCauseOf : GoodIn wsX6_lowerByte (wsV RX6 92 RX0 yX0_hasCauseOf wsX0_hasCauseOf) := goodIn_app (goodIn_of _ (by decide +kernel)) ggX6_lowerByte_X0_hasCauseOf

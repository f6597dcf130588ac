set_option maxRecDepth 20000 in
theorem ggX1_readLabel_X1_setFault : GoodIn wsX1_readLabel wsX1_setFault := goodIn_r _ [13, 14, 2, 15, 4, 16, 30, 31, 32, 33, 34, 35, 36, 37, 38, 39, 40, 41, 42, 43, 44] rfl (by decide +kernel)
set_option maxRecDepth 20000 in
theorem gX1_readLabel_X1_setFault : GoodIn wsX1_readLabel (wsV RX1 101 RX1 yX1_setFault wsX1_setFault) := goodIn_app (goodIn_of _ (by decide +kernel)) ggX1_readLabel_X1_setFault
set_option maxRecDepth 20000 in
theorem ggX1_readLabel_X1_labelNumber : GoodIn wsX1_readLabel wsX1_labelNumber := goodIn_r _ [20, 1, 5, 30, 31, 32, 33, 34, 35, 36, 37, 38, 39, 40] rfl (by decide +kernel)
set_option maxRecDepth 20000 in
theorem gX1_readLabel_X1_labelNumber : GoodIn wsX1_readLabel (wsV RX1 108 RX1 yX1_labelNumber wsX1_labelNumber) := goodIn_app (goodIn_of _ (by decide +kernel)) ggX1_readLabel_X1_labelNumber
set_option maxRecDepth 20000 in
theorem ggX1_readLabel_X1_take : GoodIn wsX1_readLabel wsX1_take := goodIn_r _ [24, 14, 4, 25, 26, 27, 12, 28, 2, 29, 9, 10, 11, 13, 15, 16, 30, 31, 32, 33, 34, 35, 36, 37, 38, 39, 40, 41, 42, 43, 44] rfl (by decide +kernel)
set_option maxRecDepth 20000 in
theorem gX1_readLabel_X1_take : GoodIn wsX1_readLabel (wsV RX1 97 RX1 yX1_take wsX1_take) := goodIn_app (goodIn_of _ (by decide +kernel)) ggX1_readLabel_X1_take
set_option maxRecDepth 20000 in
theorem ggX1_readAct_X1_kindOfWord : GoodIn wsX1_readAct wsX1_kindOfWord := goodIn_r _ [14, 15, 49, 50, 51, 52, 53, 54, 55, 56, 57, 58, 59] rfl (by decide +kernel)
set_option maxRecDepth 20000 in
theorem gX1_readAct_X1_kindOfWord : GoodIn wsX1_readAct (wsV RX1 112 RX1 yX1_kindOfWord wsX1_kindOfWord) := goodIn_app (goodIn_of _ (by decide +kernel)) ggX1_readAct_X1_kindOfWord
set_option maxRecDepth 20000 in
theorem ggX1_readAct_X1_setFault : GoodIn wsX1_readAct wsX1_setFault := goodIn_r _ [19, 20, 1, 21, 3, 22, 49, 50, 51, 52, 53, 54, 55, 56, 57, 58, 59, 60, 61, 62, 63] rfl (by decide +kernel)
set_option maxRecDepth 20000 in
theorem gX1_readAct_X1_setFault : GoodIn wsX1_readAct (wsV RX1 101 RX1 yX1_setFault wsX1_setFault) := goodIn_app (goodIn_of _ (by decide +kernel)) ggX1_readAct_X1_setFault
set_option maxRecDepth 20000 in
theorem ggX1_readAct_X1_take : GoodIn wsX1_readAct wsX1_take := goodIn_r _ [26, 20, 3, 27, 28, 29, 13, 30, 1, 31, 16, 17, 18, 19, 21, 22, 49, 50, 51, 52, 53, 54, 55, 56, 57, 58, 59, 60, 61, 62, 63] rfl (by decide +kernel)
set_option maxRecDepth 20000 in
theorem gX1_readAct_X1_take : GoodIn wsX1_readAct (wsV RX1 97 RX1 yX1_take wsX1_take) := goodIn_app (goodIn_of _ (by decide +kernel)) ggX1_readAct_X1_take
set_option maxRecDepth 20000 in
theorem ggX1_readAct_X1_takeValue : GoodIn wsX1_readAct wsX1_takeValue := goodIn_r _ [35, 1, 2, 3, 23, 24, 25, 13, 26, 20, 27, 28, 29, 30, 31, 16, 17, 18, 19, 21, 22, 49, 50, 51, 52, 53, 54, 55, 56, 57, 58, 59, 60, 61, 62, 63] rfl (by decide +kernel)
set_option maxRecDepth 20000 in
theorem gX1_readAct_X1_takeValue : GoodIn wsX1_readAct (wsV RX1 124 RX1 yX1_takeValue wsX1_takeValue) := goodIn_app (goodIn_of _ (by decide +kernel)) ggX1_readAct_X1_takeValue
set_option maxRecDepth 20000 in
theorem ggX1_readAct_X1_goesToLabel : GoodIn wsX1_readAct wsX1_goesToLabel := goodIn_r _ [38] rfl (by decide +kernel)
set_option maxRecDepth 20000 in
theorem gX1_readAct_X1_goesToLabel : GoodIn wsX1_readAct (va_wsS RX1 134 yX1_goesToLabel wsX1_goesToLabel) := goodIn_app (goodIn_of _ (by decide +kernel)) ggX1_readAct_X1_goesToLabel
set_option maxRecDepth 20000 in
theorem ggX1_readAct_X1_takeWanted : GoodIn wsX1_readAct wsX1_takeWanted := goodIn_r _ [42, 43, 1, 2, 3, 44, 21, 20, 27, 28, 29, 13, 30, 31, 45, 46, 47, 48, 10, 11, 12, 14, 15, 16, 17, 18, 19, 22, 23, 24, 25, 26, 49, 50, 51, 52, 53, 54, 55, 56, 57, 58, 59, 60, 61, 62, 63] rfl (by decide +kernel)
set_option maxRecDepth 20000 in
theorem gX1_readAct_X1_takeWanted : GoodIn wsX1_readAct (wsV RX1 137 RX1 yX1_takeWanted wsX1_takeWanted) := goodIn_app (goodIn_of _ (by decide +kernel)) ggX1_readAct_X1_takeWanted
set_option maxRecDepth 20000 in
theorem ggX1_takeWanted_X1_kindOfToken : GoodIn wsX1_takeWanted wsX1_kindOfToken := goodIn_r _ [12, 2, 13, 4, 32, 33, 34, 35, 36, 37, 38, 39, 40, 41, 42, 43, 44, 45, 46] rfl (by decide +kernel)
set_option maxRecDepth 20000 in
theorem gX1_takeWanted_X1_kindOfToken : GoodIn wsX1_takeWanted (wsV RX1 91 RX1 yX1_kindOfToken wsX1_kindOfToken) := goodIn_app (goodIn_of _ (by decide +kernel)) ggX1_takeWanted_X1_kindOfToken
set_option maxRecDepth 20000 in
theorem ggX1_takeWanted_X1_labelIsNext : GoodIn wsX1_takeWanted wsX1_labelIsNext := goodIn_r _ [17, 2, 3, 4, 8, 9, 10, 11, 12, 13, 18, 19, 20, 21, 22, 32, 33, 34, 35, 36, 37, 38, 39, 40, 41, 42, 43, 44, 45, 46] rfl (by decide +kernel)
set_option maxRecDepth 20000 in
theorem gX1_takeWanted_X1_labelIsNext : GoodIn wsX1_takeWanted (wsV RX1 85 RX1 yX1_labelIsNext wsX1_labelIsNext) := goodIn_app (goodIn_of _ (by decide +kernel)) ggX1_takeWanted_X1_labelIsNext
set_option maxRecDepth 20000 in
theorem ggX1_takeWanted_X1_setFault : GoodIn wsX1_takeWanted wsX1_setFault := goodIn_r _ [26, 7, 2, 6, 4, 27, 32, 33, 34, 35, 36, 37, 38, 39, 40, 41, 42, 43, 44, 45, 46] rfl (by decide +kernel)
set_option maxRecDepth 20000 in
theorem gX1_takeWanted_X1_setFault : GoodIn wsX1_takeWanted (wsV RX1 101 RX1 yX1_setFault wsX1_setFault) := goodIn_app (goodIn_of _ (by decide +kernel)) ggX1_takeWanted_X1_setFault
set_option maxRecDepth 20000 in
theorem ggX1_takeWanted_X1_take : GoodIn wsX1_takeWanted wsX1_take := goodIn_r _ [31, 7, 4, 8, 9, 10, 11, 12, 2, 13, 23, 24, 25, 26, 6, 27, 32, 33, 34, 35, 36, 37, 38, 39, 40, 41, 42, 43, 44, 45, 46] rfl (by decide +kernel)
set_option maxRecDepth 20000 in
theorem gX1_takeWanted_X1_take : GoodIn wsX1_takeWanted (wsV RX1 97 RX1 yX1_take wsX1_take) := goodIn_app (goodIn_of _ (by decide +kernel)) ggX1_takeWanted_X1_take
set_option maxRecDepth 20000 in
theorem ggX1_takeValue_X1_take : GoodIn wsX1_takeValue wsX1_take := goodIn_r _ [8, 9, 3, 10, 11, 12, 7, 13, 1, 14, 15, 16, 17, 18, 19, 20, 21, 22, 23, 24, 25, 26, 27, 28, 29, 30, 31, 32, 33, 34, 35] rfl (by decide +kernel)
set_option maxRecDepth 20000 in
theorem gX1_takeValue_X1_take : GoodIn wsX1_takeValue (wsV RX1 97 RX1 yX1_take wsX1_take) := goodIn_app (goodIn_of _ (by decide +kernel)) ggX1_takeValue_X1_take
set_option maxRecDepth 20000 in
theorem ggX1_take_X1_kindOfToken : GoodIn wsX1_take wsX1_kindOfToken := goodIn_r _ [7, 8, 9, 2, 16, 17, 18, 19, 20, 21, 22, 23, 24, 25, 26, 27, 28, 29, 30] rfl (by decide +kernel)
set_option maxRecDepth 20000 in
theorem gX1_take_X1_kindOfToken : GoodIn wsX1_take (wsV RX1 91 RX1 yX1_kindOfToken wsX1_kindOfToken) := goodIn_app (goodIn_of _ (by decide +kernel)) ggX1_take_X1_kindOfToken
set_option maxRecDepth 20000 in
theorem ggX1_take_X1_setFault : GoodIn wsX1_take wsX1_setFault := goodIn_r _ [13, 1, 8, 14, 2, 15, 16, 17, 18, 19, 20, 21, 22, 23, 24, 25, 26, 27, 28, 29, 30] rfl (by decide +kernel)
set_option maxRecDepth 20000 in
theorem gX1_take_X1_setFault : GoodIn wsX1_take (wsV RX1 101 RX1 yX1_setFault wsX1_setFault) := goodIn_app (goodIn_of _ (by decide +kernel)) ggX1_take_X1_setFault
set_option maxRecDepth 20000 in
theorem ggX1_findWanted_X1_goesToLabel : GoodIn wsX1_findWanted wsX1_goesToLabel := goodIn_r _ [13] rfl (by decide +kernel)
set_option maxRecDepth 20000 in
theorem gX1_findWanted_X1_goesToLabel : GoodIn wsX1_findWanted (va_wsS RX1 134 yX1_goesToLabel wsX1_goesToLabel) := goodIn_app (goodIn_of _ (by decide +kernel)) ggX1_findWanted_X1_goesToLabel
set_option maxRecDepth 20000 in
theorem ggX1_findWanted_X1_labelNumber : GoodIn wsX1_findWanted wsX1_labelNumber := goodIn_r _ [17, 18, 19, 20, 21, 22, 23, 24, 25, 26, 27, 28, 29, 30] rfl (by decide +kernel)
set_option maxRecDepth 20000 in
theorem gX1_findWanted_X1_labelNumber : GoodIn wsX1_findWanted (wsV RX1 108 RX1 yX1_labelNumber wsX1_labelNumber) := goodIn_app (goodIn_of _ (by decide +kernel)) ggX1_findWanted_X1_labelNumber
set_option maxRecDepth 20000 in
theorem ggX1_labelIsNext_X1_kindOfToken : GoodIn wsX1_labelIsNext wsX1_kindOfToken := goodIn_r _ [8, 1, 9, 3, 15, 16, 17, 18, 19, 20, 21, 22, 23, 24, 25, 26, 27, 28, 29] rfl (by decide +kernel)
set_option maxRecDepth 20000 in
theorem gX1_labelIsNext_X1_kindOfToken : GoodIn wsX1_labelIsNext (wsV RX1 91 RX1 yX1_kindOfToken wsX1_kindOfToken) := goodIn_app (goodIn_of _ (by decide +kernel)) ggX1_labelIsNext_X1_kindOfToken
set_option maxRecDepth 20000 in
theorem ggX1_labelIsNext_X1_kindOfWord : GoodIn wsX1_labelIsNext wsX1_kindOfWord := goodIn_r _ [13, 14, 15, 16, 17, 18, 19, 20, 21, 22, 23, 24, 25] rfl (by decide +kernel)
set_option maxRecDepth 20000 in
theorem gX1_labelIsNext_X1_kindOfWord : GoodIn wsX1_labelIsNext (wsV RX1 112 RX1 yX1_kindOfWord wsX1_kindOfWord) := goodIn_app (goodIn_of _ (by decide +kernel)) ggX1_labelIsNext_X1_kindOfWord
set_option maxRecDepth 20000 in
theorem ggX3_copyFrom_X3_byteAt : GoodIn wsX3_copyFrom wsX3_byteAt := goodIn_r _ [6, 1, 7, 12, 13] rfl (by decide +kernel)
set_option maxRecDepth 20000 in
theorem gX3_copyFrom_X3_byteAt : GoodIn wsX3_copyFrom (wsV RX3 25 RX3 yX3_byteAt wsX3_byteAt) := goodIn_app (goodIn_of _ (by decide +kernel)) ggX3_copyFrom_X3_byteAt
set_option maxRecDepth 20000 in
theorem ggX3_copyFrom_X3_add : GoodIn wsX3_copyFrom wsX3_add := goodIn_r _ [11, 1, 7, 12, 13] rfl (by decide +kernel)
set_option maxRecDepth 20000 in
theorem gX3_copyFrom_X3_add : GoodIn wsX3_copyFrom (wsV RX3 29 RX3 yX3_add wsX3_add) := goodIn_app (goodIn_of _ (by decide +kernel)) ggX3_copyFrom_X3_add
set_option maxRecDepth 20000 in
theorem ggX3_copyWithout_X3_byteAt : GoodIn wsX3_copyWithout wsX3_byteAt := goodIn_r _ [6, 1, 7, 12, 13] rfl (by decide +kernel)
set_option maxRecDepth 20000 in
theorem gX3_copyWithout_X3_byteAt : GoodIn wsX3_copyWithout (wsV RX3 25 RX3 yX3_byteAt wsX3_byteAt) := goodIn_app (goodIn_of _ (by decide +kernel)) ggX3_copyWithout_X3_byteAt
set_option maxRecDepth 20000 in
theorem ggX3_copyWithout_X3_add : GoodIn wsX3_copyWithout wsX3_add := goodIn_r _ [11, 1, 7, 12, 13] rfl (by decide +kernel)
set_option maxRecDepth 20000 in
theorem gX3_copyWithout_X3_add : GoodIn wsX3_copyWithout (wsV RX3 29 RX3 yX3_add wsX3_add) := goodIn_app (goodIn_of _ (by decide +kernel)) ggX3_copyWithout_X3_add
set_option maxRecDepth 20000 in
theorem ggX4_sortIn_X4_heapLike : GoodIn wsX4_sortIn wsX4_heapLike := goodIn_r _ [8, 9, 10, 2, 11, 12, 13, 14, 20, 21, 22, 23, 24, 25, 26, 27, 28, 29, 30, 31, 32, 33, 34, 35, 36, 37, 38, 39] rfl (by decide +kernel)
set_option maxRecDepth 20000 in
theorem gX4_sortIn_X4_heapLike : GoodIn wsX4_sortIn (wsV RX4 39 RX4 yX4_heapLike wsX4_heapLike) := goodIn_app (goodIn_of _ (by decide +kernel)) ggX4_sortIn_X4_heapLike
set_option maxRecDepth 20000 in
theorem ggX4_sortIn_X4_newHeap : GoodIn wsX4_sortIn wsX4_newHeap := goodIn_r _ [18, 9, 19, 3, 10, 2, 11, 12, 13, 14, 20, 21, 22, 23, 24, 25, 26, 27, 28, 29, 30, 31, 32, 33, 34, 35, 36, 37, 38, 39] rfl (by decide +kernel)
set_option maxRecDepth 20000 in
theorem gX4_sortIn_X4_newHeap : GoodIn wsX4_sortIn (wsV RX4 43 RX4 yX4_newHeap wsX4_newHeap) := goodIn_app (goodIn_of _ (by decide +kernel)) ggX4_sortIn_X4_newHeap
set_option maxRecDepth 20000 in
theorem ggX5_readFrom_X5_skipBlanks : GoodIn wsX5_readFrom wsX5_skipBlanks := goodIn_r _ [8, 1, 9, 10, 11, 12, 13, 14, 15, 42, 43, 44, 45, 46, 47] rfl (by decide +kernel)
set_option maxRecDepth 20000 in
theorem gX5_readFrom_X5_skipBlanks : GoodIn wsX5_readFrom (wsV RX5 26 RX5 yX5_skipBlanks wsX5_skipBlanks) := goodIn_app (goodIn_of _ (by decide +kernel)) ggX5_readFrom_X5_skipBlanks
set_option maxRecDepth 20000 in
theorem ggX5_readFrom_X5_readKind : GoodIn wsX5_readFrom wsX5_readKind := goodIn_r _ [19, 1, 20, 9, 10, 11, 12, 13, 14, 15, 21, 22, 23, 7, 24, 25, 26, 27, 28, 29, 30, 31, 32, 33, 34, 35, 36, 37, 38, 39, 40, 41, 42, 43, 44, 45, 46, 47] rfl (by decide +kernel)
set_option maxRecDepth 20000 in
theorem gX5_readFrom_X5_readKind : GoodIn wsX5_readFrom (wsV RX5 30 RX5 yX5_readKind wsX5_readKind) := goodIn_app (goodIn_of _ (by decide +kernel)) ggX5_readFrom_X5_readKind
set_option maxRecDepth 20000 in
theorem ggX5_skipBlanks_X3_byteAt : GoodIn wsX5_skipBlanks wsX3_byteAt := goodIn_r _ [6, 7, 8, 13, 14] rfl (by decide +kernel)
set_option maxRecDepth 20000 in
theorem gX5_skipBlanks_X3_byteAt : GoodIn wsX5_skipBlanks (wsV RX5 34 RX3 yX3_byteAt wsX3_byteAt) := goodIn_app (goodIn_of _ (by decide +kernel)) ggX5_skipBlanks_X3_byteAt
set_option maxRecDepth 20000 in
theorem ggX5_readKind_X3_byteAt : GoodIn wsX5_readKind wsX3_byteAt := goodIn_r _ [7, 8, 9, 36, 37] rfl (by decide +kernel)
set_option maxRecDepth 20000 in
theorem gX5_readKind_X3_byteAt : GoodIn wsX5_readKind (wsV RX5 34 RX3 yX3_byteAt wsX3_byteAt) := goodIn_app (goodIn_of _ (by decide +kernel)) ggX5_readKind_X3_byteAt
set_option maxRecDepth 20000 in
theorem ggX5_readKind_X5_isRegister : GoodIn wsX5_readKind wsX5_isRegister := goodIn_r _ [14, 1, 3, 4, 5, 6, 7, 8, 9, 15, 16, 17, 18, 19, 32, 33, 34, 35, 36, 37] rfl (by decide +kernel)
set_option maxRecDepth 20000 in
theorem gX5_readKind_X5_isRegister : GoodIn wsX5_readKind (wsV RX5 40 RX5 yX5_isRegister wsX5_isRegister) := goodIn_app (goodIn_of _ (by decide +kernel)) ggX5_readKind_X5_isRegister
set_option maxRecDepth 20000 in
theorem ggX5_readKind_X7_isLetter : GoodIn wsX5_readKind wsX7_isLetter := goodIn_r _ [17] rfl (by decide +kernel)
set_option maxRecDepth 20000 in
theorem gX5_readKind_X7_isLetter_n44 : GoodIn wsX5_readKind (wsX7_isLetter) := ggX5_readKind_X7_isLetter
set_option maxRecDepth 20000 in
theorem ggX5_readKind_X5_readWord : GoodIn wsX5_readKind wsX5_readWord := goodIn_r _ [23, 1, 2, 3, 4, 5, 6, 7, 8, 9, 15, 16, 17, 24, 25, 26, 32, 33, 34, 35, 36, 37] rfl (by decide +kernel)
set_option maxRecDepth 20000 in
theorem gX5_readKind_X5_readWord : GoodIn wsX5_readKind (wsV RX5 48 RX5 yX5_readWord wsX5_readWord) := goodIn_app (goodIn_of _ (by decide +kernel)) ggX5_readKind_X5_readWord
set_option maxRecDepth 20000 in
theorem ggX5_readKind_X7_isDigit : GoodIn wsX5_readKind wsX7_isDigit := goodIn_r _ [19] rfl (by decide +kernel)
set_option maxRecDepth 20000 in
theorem gX5_readKind_X7_isDigit_n51 : GoodIn wsX5_readKind (wsX7_isDigit) := ggX5_readKind_X7_isDigit
set_option maxRecDepth 20000 in
theorem ggX5_readKind_X5_readNumber : GoodIn wsX5_readKind wsX5_readNumber := goodIn_r _ [30, 1, 31, 2, 3, 4, 5, 6, 7, 8, 9, 18, 16, 19, 15, 17, 32, 33, 34, 35, 36, 37] rfl (by decide +kernel)
set_option maxRecDepth 20000 in
theorem gX5_readKind_X5_readNumber : GoodIn wsX5_readKind (wsV RX5 54 RX5 yX5_readNumber wsX5_readNumber) := goodIn_app (goodIn_of _ (by decide +kernel)) ggX5_readKind_X5_readNumber

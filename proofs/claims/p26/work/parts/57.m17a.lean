set_option maxRecDepth 20000 in
theorem ggX1_init_X6_init : GoodIn wsX1_init wsX6_init := goodIn_r _ [11, 12, 2, 3, 13, 14, 15, 16, 17, 18, 19, 20, 21, 22, 23, 24, 25, 26, 27, 28, 29] (by decide +kernel) (by decide +kernel)
set_option maxRecDepth 20000 in
theorem gX1_init_X6_init : GoodIn wsX1_init (wsX6_init) := ggX1_init_X6_init
set_option maxRecDepth 20000 in
theorem ggX1_merge_X6_beginWithNothingBound : GoodIn wsX1_merge wsX6_beginWithNothingBound := goodIn_r _ [7, 8, 9, 10, 6, 11, 12, 13, 14, 15, 16, 17, 18, 19, 20, 21, 22, 23, 24, 25, 26, 27, 176, 177, 178, 179, 180, 181] (by decide +kernel) (by decide +kernel)
set_option maxRecDepth 20000 in
theorem gX1_merge_X6_beginWithNothingBound : GoodIn wsX1_merge (wsV RX1 23 RX6 yX6_beginWithNothingBound wsX6_beginWithNothingBound) := goodIn_app (goodIn_of _ (by decide +kernel)) ggX1_merge_X6_beginWithNothingBound
set_option maxRecDepth 20000 in
theorem ggX1_merge_X3_size : GoodIn wsX1_merge wsX3_size := goodIn_r _ [32, 33, 182, 183, 184, 185] (by decide +kernel) (by decide +kernel)
set_option maxRecDepth 20000 in
theorem gX1_merge_X3_size : GoodIn wsX1_merge (wsV RX1 26 RX3 yX3_size wsX3_size) := goodIn_app (goodIn_of _ (by decide +kernel)) ggX1_merge_X3_size
set_option maxRecDepth 20000 in
theorem ggX1_merge_X3_inJoinOrder : GoodIn wsX1_merge wsX3_inJoinOrder := goodIn_r _ [37, 33, 38, 39, 40, 31, 41, 42, 43, 44, 45, 46, 21, 47, 48, 49, 50, 51, 52, 53, 54, 55, 56, 57, 58, 59, 60, 61, 62, 63, 64, 65, 66, 67, 68, 69, 182, 183, 184, 185, 186, 187, 188, 189] (by decide +kernel) (by decide +kernel)
set_option maxRecDepth 20000 in
theorem gX1_merge_X3_inJoinOrder : GoodIn wsX1_merge (wsV RX1 32 RX3 yX3_inJoinOrder wsX3_inJoinOrder) := goodIn_app (goodIn_of _ (by decide +kernel)) ggX1_merge_X3_inJoinOrder
set_option maxRecDepth 20000 in
theorem ggX1_merge_X3_pattern : GoodIn wsX1_merge wsX3_pattern := goodIn_r _ [55, 56, 57, 58, 182, 183, 184, 185] (by decide +kernel) (by decide +kernel)
set_option maxRecDepth 20000 in
theorem gX1_merge_X3_pattern : GoodIn wsX1_merge (wsV RX1 36 RX3 yX3_pattern wsX3_pattern) := goodIn_app (goodIn_of _ (by decide +kernel)) ggX1_merge_X3_pattern
set_option maxRecDepth 20000 in
theorem ggX1_merge_X2_variableBits : GoodIn wsX1_merge wsX2_variableBits := goodIn_r _ [63, 64, 186, 187, 188, 189] (by decide +kernel) (by decide +kernel)
set_option maxRecDepth 20000 in
theorem gX1_merge_X2_variableBits : GoodIn wsX1_merge (wsV RX1 40 RX2 yX2_variableBits wsX2_variableBits) := goodIn_app (goodIn_of _ (by decide +kernel)) ggX1_merge_X2_variableBits
set_option maxRecDepth 20000 in
theorem ggX1_merge_X1_gather : GoodIn wsX1_merge wsX1_gather := goodIn_r _ [76, 2, 77, 78, 79, 62, 80, 81, 82, 21, 83, 46, 47, 84, 85, 86, 87, 88, 89, 90, 91, 92, 93, 94, 95, 96, 97, 98, 99, 100, 101, 102, 103, 104, 105, 106, 107, 108, 109, 110, 111, 112, 113, 114, 115, 116, 117, 118, 119, 120, 121, 122, 123, 124, 125, 9, 10, 6, 11, 12, 13, 14, 126, 127, 128, 129, 130, 131, 132, 133, 134, 135, 136, 137, 138, 139, 140, 141, 142, 143, 144, 16, 17, 18, 19, 20, 22, 145, 24, 25, 26, 27, 174, 175, 186, 187, 188, 189, 190, 191, 192, 193, 194, 176, 177, 178, 179, 180, 181] (by decide +kernel) (by decide +kernel)
set_option maxRecDepth 20000 in
theorem gX1_merge_X1_gather : GoodIn wsX1_merge (wsV RX1 45 RX1 yX1_gather wsX1_gather) := goodIn_app (goodIn_of _ (by decide +kernel)) ggX1_merge_X1_gather
set_option maxRecDepth 20000 in
theorem ggX1_merge_X6_sort : GoodIn wsX1_merge wsX6_sort := goodIn_r _ [149, 46, 21, 47, 150, 151, 152, 6, 153, 154, 12, 27, 19, 13, 20, 22, 82, 83, 91, 92, 93, 94, 95, 23, 24, 25, 26, 176, 177, 178, 179, 180, 181] (by decide +kernel) (by decide +kernel)
set_option maxRecDepth 20000 in
theorem gX1_merge_X6_sort : GoodIn wsX1_merge (wsV RX1 49 RX6 yX6_sort wsX6_sort) := goodIn_app (goodIn_of _ (by decide +kernel)) ggX1_merge_X6_sort
set_option maxRecDepth 20000 in
theorem ggX1_merge_X7_rowMask : GoodIn wsX1_merge wsX7_rowMask := goodIn_r _ [156, 157, 46, 21, 47, 93, 94, 95] (by decide +kernel) (by decide +kernel)
set_option maxRecDepth 20000 in
theorem gX1_merge_X7_rowMask_n52 : GoodIn wsX1_merge (wsX7_rowMask) := ggX1_merge_X7_rowMask
set_option maxRecDepth 20000 in
theorem ggX1_merge_X1_mergeSide : GoodIn wsX1_merge wsX1_mergeSide := goodIn_r _ [161, 1, 2, 162, 163, 164, 6, 165, 12, 166, 167, 168, 169, 14, 170, 171, 172, 173, 27, 82, 21, 83, 144, 16, 17, 18, 13, 19, 20, 22, 145, 24, 25, 26, 174, 175, 176, 177, 178, 179, 180, 181] (by decide +kernel) (by decide +kernel)
set_option maxRecDepth 20000 in
theorem gX1_merge_X1_mergeSide : GoodIn wsX1_merge (wsV RX1 55 RX1 yX1_mergeSide wsX1_mergeSide) := goodIn_app (goodIn_of _ (by decide +kernel)) ggX1_merge_X1_mergeSide
set_option maxRecDepth 20000 in
theorem ggX1_mergeSide_X6_size : GoodIn wsX1_mergeSide wsX6_size := goodIn_r _ [7, 8, 36, 37, 38, 39, 40, 41] (by decide +kernel) (by decide +kernel)
set_option maxRecDepth 20000 in
theorem gX1_mergeSide_X6_size : GoodIn wsX1_mergeSide (wsV RX1 58 RX6 yX6_size wsX6_size) := goodIn_app (goodIn_of _ (by decide +kernel)) ggX1_mergeSide_X6_size
set_option maxRecDepth 20000 in
theorem ggX1_mergeSide_X6_isOver : GoodIn wsX1_mergeSide wsX6_isOver := goodIn_r _ [12, 13, 36, 37, 38, 39, 40, 41] (by decide +kernel) (by decide +kernel)
set_option maxRecDepth 20000 in
theorem gX1_mergeSide_X6_isOver : GoodIn wsX1_mergeSide (wsV RX1 59 RX6 yX6_isOver wsX6_isOver) := goodIn_app (goodIn_of _ (by decide +kernel)) ggX1_mergeSide_X6_isOver
set_option maxRecDepth 20000 in
theorem ggX1_mergeSide_X6_row : GoodIn wsX1_mergeSide wsX6_row := goodIn_r _ [17, 18, 19, 20, 21, 36, 37, 38, 39, 40, 41] (by decide +kernel) (by decide +kernel)
set_option maxRecDepth 20000 in
theorem gX1_mergeSide_X6_row : GoodIn wsX1_mergeSide (wsV RX1 63 RX6 yX6_row wsX6_row) := goodIn_app (goodIn_of _ (by decide +kernel)) ggX1_mergeSide_X6_row
set_option maxRecDepth 20000 in
theorem ggX1_mergeSide_X6_add : GoodIn wsX1_mergeSide wsX6_add := goodIn_r _ [25, 26, 27, 13, 28, 20, 29, 36, 37, 38, 39, 40, 41] (by decide +kernel) (by decide +kernel)
set_option maxRecDepth 20000 in
theorem gX1_mergeSide_X6_add : GoodIn wsX1_mergeSide (wsV RX1 66 RX6 yX6_add wsX6_add) := goodIn_app (goodIn_of _ (by decide +kernel)) ggX1_mergeSide_X6_add
set_option maxRecDepth 20000 in
theorem ggX1_mergeSide_X6_turn : GoodIn wsX1_mergeSide wsX6_turn := goodIn_r _ [33, 18, 27, 26, 8, 36, 37, 38, 39, 40, 41] (by decide +kernel) (by decide +kernel)
set_option maxRecDepth 20000 in
theorem gX1_mergeSide_X6_turn : GoodIn wsX1_mergeSide (wsV RX1 69 RX6 yX6_turn wsX6_turn) := goodIn_app (goodIn_of _ (by decide +kernel)) ggX1_mergeSide_X6_turn
set_option maxRecDepth 20000 in
theorem ggX1_gather_X2_maskWith : GoodIn wsX1_gather wsX2_maskWith := goodIn_r _ [6, 7, 8, 9, 10, 11, 12, 13, 14, 94, 95, 96, 97] (by decide +kernel) (by decide +kernel)
set_option maxRecDepth 20000 in
theorem gX1_gather_X2_maskWith : GoodIn wsX1_gather (wsV RX1 72 RX2 yX2_maskWith wsX2_maskWith) := goodIn_app (goodIn_of _ (by decide +kernel)) ggX1_gather_X2_maskWith
set_option maxRecDepth 20000 in
theorem ggX1_gather_X2_valueWith : GoodIn wsX1_gather wsX2_valueWith := goodIn_r _ [18, 7, 19, 8, 9, 10, 13, 14, 11, 12, 20, 21, 22, 23, 24, 94, 95, 96, 97] (by decide +kernel) (by decide +kernel)
set_option maxRecDepth 20000 in
theorem gX1_gather_X2_valueWith : GoodIn wsX1_gather (wsV RX1 75 RX2 yX2_valueWith wsX2_valueWith) := goodIn_app (goodIn_of _ (by decide +kernel)) ggX1_gather_X2_valueWith
set_option maxRecDepth 20000 in
theorem ggX1_gather_X7_orderOf : GoodIn wsX1_gather wsX7_orderOf := goodIn_r _ [26, 27, 28, 9, 29, 30, 13, 14] (by decide +kernel) (by decide +kernel)
set_option maxRecDepth 20000 in
theorem gX1_gather_X7_orderOf_n79 : GoodIn wsX1_gather (wsX7_orderOf) := ggX1_gather_X7_orderOf
set_option maxRecDepth 20000 in
theorem ggX1_gather_X5_end : GoodIn wsX1_gather wsX5_end := goodIn_r _ [35, 36, 37, 38, 39, 34, 40, 41, 42, 43, 44, 9, 45, 46, 47, 48, 49, 50, 51, 52, 53, 8, 10, 98, 99, 100, 101, 102] (by decide +kernel) (by decide +kernel)
set_option maxRecDepth 20000 in
theorem gX1_gather_X5_end : GoodIn wsX1_gather (wsV RX1 82 RX5 yX5_end wsX5_end) := goodIn_app (goodIn_of _ (by decide +kernel)) ggX1_gather_X5_end
set_option maxRecDepth 20000 in
theorem ggX1_gather_X6_beginEmpty : GoodIn wsX1_gather wsX6_beginEmpty := goodIn_r _ [58, 59, 60, 61, 103, 104, 105, 106, 107, 108] (by decide +kernel) (by decide +kernel)
set_option maxRecDepth 20000 in
theorem gX1_gather_X6_beginEmpty : GoodIn wsX1_gather (wsV RX1 88 RX6 yX6_beginEmpty wsX6_beginEmpty) := goodIn_app (goodIn_of _ (by decide +kernel)) ggX1_gather_X6_beginEmpty
set_option maxRecDepth 20000 in
theorem ggX1_gather_X5_begin : GoodIn wsX1_gather wsX5_begin := goodIn_r _ [65, 37, 38, 39, 34, 40, 41, 42, 43, 44, 9, 45, 46, 47, 48, 49, 50, 51, 52, 53, 8, 10, 98, 99, 100, 101, 102] (by decide +kernel) (by decide +kernel)
set_option maxRecDepth 20000 in
theorem gX1_gather_X5_begin : GoodIn wsX1_gather (wsV RX1 91 RX5 yX5_begin wsX5_begin) := goodIn_app (goodIn_of _ (by decide +kernel)) ggX1_gather_X5_begin
set_option maxRecDepth 20000 in
theorem ggX1_gather_X5_triple : GoodIn wsX1_gather wsX5_triple := goodIn_r _ [69, 37, 38, 39, 34, 40, 41, 42, 43, 70, 71, 72, 50, 73, 53, 8, 9, 10, 74, 75, 46, 98, 99, 100, 101, 102] (by decide +kernel) (by decide +kernel)
set_option maxRecDepth 20000 in
theorem gX1_gather_X5_triple : GoodIn wsX1_gather (wsV RX1 94 RX5 yX5_triple wsX5_triple) := goodIn_app (goodIn_of _ (by decide +kernel)) ggX1_gather_X5_triple
set_option maxRecDepth 20000 in
theorem ggX1_gather_X2_widen : GoodIn wsX1_gather wsX2_widen := goodIn_r _ [79, 7, 8, 9, 10, 28, 29, 30, 13, 14, 11, 12, 23, 24, 20, 21, 22, 94, 95, 96, 97] (by decide +kernel) (by decide +kernel)
set_option maxRecDepth 20000 in
theorem gX1_gather_X2_widen : GoodIn wsX1_gather (wsV RX1 97 RX2 yX2_widen wsX2_widen) := goodIn_app (goodIn_of _ (by decide +kernel)) ggX1_gather_X2_widen
set_option maxRecDepth 20000 in
theorem ggX1_gather_X6_add : GoodIn wsX1_gather wsX6_add := goodIn_r _ [83, 60, 84, 61, 85, 9, 86, 103, 104, 105, 106, 107, 108] (by decide +kernel) (by decide +kernel)
set_option maxRecDepth 20000 in
theorem gX1_gather_X6_add : GoodIn wsX1_gather (wsV RX1 66 RX6 yX6_add wsX6_add) := goodIn_app (goodIn_of _ (by decide +kernel)) ggX1_gather_X6_add
set_option maxRecDepth 20000 in
theorem ggX1_gather_X6_turn : GoodIn wsX1_gather wsX6_turn := goodIn_r _ [90, 91, 84, 60, 59, 103, 104, 105, 106, 107, 108] (by decide +kernel) (by decide +kernel)
set_option maxRecDepth 20000 in
theorem gX1_gather_X6_turn : GoodIn wsX1_gather (wsV RX1 69 RX6 yX6_turn wsX6_turn) := goodIn_app (goodIn_of _ (by decide +kernel)) ggX1_gather_X6_turn
set_option maxRecDepth 20000 in
theorem ggX1_goByVariables_X6_beginWithNothingBound : GoodIn wsX1_goByVariables wsX6_beginWithNothingBound := goodIn_r _ [6, 7, 8, 9, 5, 10, 11, 12, 13, 14, 15, 16, 17, 18, 19, 20, 21, 22, 23, 24, 25, 26, 177, 178, 179, 180, 181, 182] (by decide +kernel) (by decide +kernel)
set_option maxRecDepth 20000 in
theorem gX1_goByVariables_X6_beginWithNothingBound : GoodIn wsX1_goByVariables (wsV RX1 23 RX6 yX6_beginWithNothingBound wsX6_beginWithNothingBound) := goodIn_app (goodIn_of _ (by decide +kernel)) ggX1_goByVariables_X6_beginWithNothingBound
set_option maxRecDepth 20000 in
theorem ggX1_goByVariables_X3_hasPatternWithoutMatch : GoodIn wsX1_goByVariables wsX3_hasPatternWithoutMatch := goodIn_r _ [31, 32, 33, 34, 35, 30, 36, 37, 38, 39, 40, 41, 42, 43, 44, 45, 183, 184, 185, 186, 187, 188, 189, 190] (by decide +kernel) (by decide +kernel)
set_option maxRecDepth 20000 in
theorem gX1_goByVariables_X3_hasPatternWithoutMatch : GoodIn wsX1_goByVariables (wsV RX1 100 RX3 yX3_hasPatternWithoutMatch wsX3_hasPatternWithoutMatch) := goodIn_app (goodIn_of _ (by decide +kernel)) ggX1_goByVariables_X3_hasPatternWithoutMatch
set_option maxRecDepth 20000 in
theorem ggX1_goByVariables_X6_beginEmpty : GoodIn wsX1_goByVariables wsX6_beginEmpty := goodIn_r _ [10, 11, 12, 13, 177, 178, 179, 180, 181, 182] (by decide +kernel) (by decide +kernel)
set_option maxRecDepth 20000 in
theorem gX1_goByVariables_X6_beginEmpty : GoodIn wsX1_goByVariables (wsV RX1 88 RX6 yX6_beginEmpty wsX6_beginEmpty) := goodIn_app (goodIn_of _ (by decide +kernel)) ggX1_goByVariables_X6_beginEmpty
set_option maxRecDepth 20000 in
theorem ggX1_goByVariables_X3_size : GoodIn wsX1_goByVariables wsX3_size := goodIn_r _ [50, 32, 183, 184, 185, 186] (by decide +kernel) (by decide +kernel)
set_option maxRecDepth 20000 in
theorem gX1_goByVariables_X3_size : GoodIn wsX1_goByVariables (wsV RX1 26 RX3 yX3_size wsX3_size) := goodIn_app (goodIn_of _ (by decide +kernel)) ggX1_goByVariables_X3_size
set_option maxRecDepth 20000 in
theorem ggX1_goByVariables_X3_inJoinOrder : GoodIn wsX1_goByVariables wsX3_inJoinOrder := goodIn_r _ [54, 32, 55, 56, 57, 30, 58, 59, 60, 61, 62, 63, 20, 64, 65, 66, 67, 68, 33, 34, 35, 36, 37, 38, 39, 69, 70, 71, 43, 72, 73, 40, 41, 42, 44, 45, 183, 184, 185, 186, 187, 188, 189, 190] (by decide +kernel) (by decide +kernel)
set_option maxRecDepth 20000 in
theorem gX1_goByVariables_X3_inJoinOrder : GoodIn wsX1_goByVariables (wsV RX1 32 RX3 yX3_inJoinOrder wsX3_inJoinOrder) := goodIn_app (goodIn_of _ (by decide +kernel)) ggX1_goByVariables_X3_inJoinOrder
set_option maxRecDepth 20000 in
theorem ggX1_goByVariables_X3_pattern : GoodIn wsX1_goByVariables wsX3_pattern := goodIn_r _ [36, 37, 38, 39, 183, 184, 185, 186] (by decide +kernel) (by decide +kernel)
set_option maxRecDepth 20000 in
theorem gX1_goByVariables_X3_pattern : GoodIn wsX1_goByVariables (wsV RX1 36 RX3 yX3_pattern wsX3_pattern) := goodIn_app (goodIn_of _ (by decide +kernel)) ggX1_goByVariables_X3_pattern
set_option maxRecDepth 20000 in
theorem ggX1_goByVariables_X2_variableBits : GoodIn wsX1_goByVariables wsX2_variableBits := goodIn_r _ [72, 73, 187, 188, 189, 190] (by decide +kernel) (by decide +kernel)
set_option maxRecDepth 20000 in
theorem gX1_goByVariables_X2_variableBits : GoodIn wsX1_goByVariables (wsV RX1 40 RX2 yX2_variableBits wsX2_variableBits) := goodIn_app (goodIn_of _ (by decide +kernel)) ggX1_goByVariables_X2_variableBits
set_option maxRecDepth 20000 in
theorem ggX1_goByVariables_X7_hasBit : GoodIn wsX1_goByVariables wsX7_hasBit := goodIn_r _ [64] (by decide +kernel) (by decide +kernel)
set_option maxRecDepth 20000 in
theorem gX1_goByVariables_X7_hasBit_n103 : GoodIn wsX1_goByVariables (wsX7_hasBit) := ggX1_goByVariables_X7_hasBit
set_option maxRecDepth 20000 in
theorem ggX1_goByVariables_X1_takeVariable : GoodIn wsX1_goByVariables wsX1_takeVariable := goodIn_r _ [80, 1, 81, 82, 83, 84, 5, 85, 11, 86, 87, 88, 89, 13, 90, 91, 92, 93, 26, 94, 20, 95, 47, 48, 49, 30, 50, 32, 74, 34, 35, 36, 37, 38, 39, 75, 70, 71, 43, 72, 73, 63, 64, 96, 97, 98, 79, 99, 100, 101, 102, 103, 104, 105, 106, 107, 108, 109, 110, 111, 112, 113, 114, 115, 116, 117, 118, 119, 120, 121, 122, 123, 124, 125, 126, 127, 128, 129, 130, 131, 132, 133, 134, 135, 136, 137, 138, 139, 140, 141, 142, 143, 144, 145, 146, 46, 8, 9, 10, 12, 147, 148, 149, 150, 151, 152, 153, 154, 155, 156, 157, 158, 159, 160, 161, 162, 163, 164, 165, 15, 16, 17, 18, 19, 21, 166, 23, 24, 25, 167, 168, 169, 170, 171, 172, 173, 174, 175, 176, 177, 178, 179, 180, 181, 182, 183, 184, 185, 186, 187, 188, 189, 190, 191, 192, 193, 194, 195] (by decide +kernel) (by decide +kernel)
set_option maxRecDepth 20000 in
theorem gX1_goByVariables_X1_takeVariable : GoodIn wsX1_goByVariables (wsV RX1 107 RX1 yX1_takeVariable wsX1_takeVariable) := goodIn_app (goodIn_of _ (by decide +kernel)) ggX1_goByVariables_X1_takeVariable
set_option maxRecDepth 20000 in
theorem ggX1_takeVariable_X6_size : GoodIn wsX1_takeVariable wsX6_size := goodIn_r _ [7, 8, 139, 140, 141, 142, 143, 144] (by decide +kernel) (by decide +kernel)
set_option maxRecDepth 20000 in
theorem gX1_takeVariable_X6_size : GoodIn wsX1_takeVariable (wsV RX1 58 RX6 yX6_size wsX6_size) := goodIn_app (goodIn_of _ (by decide +kernel)) ggX1_takeVariable_X6_size
set_option maxRecDepth 20000 in
theorem ggX1_takeVariable_X6_isOver : GoodIn wsX1_takeVariable wsX6_isOver := goodIn_r _ [12, 13, 139, 140, 141, 142, 143, 144] (by decide +kernel) (by decide +kernel)
set_option maxRecDepth 20000 in
theorem gX1_takeVariable_X6_isOver : GoodIn wsX1_takeVariable (wsV RX1 59 RX6 yX6_isOver wsX6_isOver) := goodIn_app (goodIn_of _ (by decide +kernel)) ggX1_takeVariable_X6_isOver
set_option maxRecDepth 20000 in
theorem ggX1_takeVariable_X6_row : GoodIn wsX1_takeVariable wsX6_row := goodIn_r _ [17, 18, 19, 20, 21, 139, 140, 141, 142, 143, 144] (by decide +kernel) (by decide +kernel)
set_option maxRecDepth 20000 in
theorem gX1_takeVariable_X6_row : GoodIn wsX1_takeVariable (wsV RX1 63 RX6 yX6_row wsX6_row) := goodIn_app (goodIn_of _ (by decide +kernel)) ggX1_takeVariable_X6_row
set_option maxRecDepth 20000 in
theorem ggX1_takeVariable_X3_size : GoodIn wsX1_takeVariable wsX3_size := goodIn_r _ [26, 27, 145, 146, 147, 148] (by decide +kernel) (by decide +kernel)
set_option maxRecDepth 20000 in
theorem gX1_takeVariable_X3_size : GoodIn wsX1_takeVariable (wsV RX1 26 RX3 yX3_size wsX3_size) := goodIn_app (goodIn_of _ (by decide +kernel)) ggX1_takeVariable_X3_size
set_option maxRecDepth 20000 in
theorem ggX1_takeVariable_X3_pattern : GoodIn wsX1_takeVariable wsX3_pattern := goodIn_r _ [31, 32, 33, 34, 145, 146, 147, 148] (by decide +kernel) (by decide +kernel)
set_option maxRecDepth 20000 in
theorem gX1_takeVariable_X3_pattern : GoodIn wsX1_takeVariable (wsV RX1 36 RX3 yX3_pattern wsX3_pattern) := goodIn_app (goodIn_of _ (by decide +kernel)) ggX1_takeVariable_X3_pattern
set_option maxRecDepth 20000 in
theorem ggX1_takeVariable_X2_variableBits : GoodIn wsX1_takeVariable wsX2_variableBits := goodIn_r _ [39, 40, 149, 150, 151, 152] (by decide +kernel) (by decide +kernel)
set_option maxRecDepth 20000 in
theorem gX1_takeVariable_X2_variableBits : GoodIn wsX1_takeVariable (wsV RX1 40 RX2 yX2_variableBits wsX2_variableBits) := goodIn_app (goodIn_of _ (by decide +kernel)) ggX1_takeVariable_X2_variableBits
set_option maxRecDepth 20000 in
theorem ggX1_takeVariable_X7_hasBit : GoodIn wsX1_takeVariable wsX7_hasBit := goodIn_r _ [42] (by decide +kernel) (by decide +kernel)
set_option maxRecDepth 20000 in
theorem gX1_takeVariable_X7_hasBit_n103 : GoodIn wsX1_takeVariable (wsX7_hasBit) := ggX1_takeVariable_X7_hasBit
set_option maxRecDepth 20000 in
theorem ggX1_takeVariable_X1_gather : GoodIn wsX1_takeVariable wsX1_gather := goodIn_r _ [47, 48, 49, 50, 51, 38, 52, 53, 19, 20, 21, 41, 42, 54, 55, 56, 57, 58, 59, 60, 61, 62, 63, 64, 65, 66, 67, 68, 69, 70, 71, 72, 73, 74, 75, 76, 77, 78, 79, 80, 81, 82, 83, 84, 85, 86, 87, 88, 89, 90, 91, 92, 93, 94, 95, 96, 97, 6, 98, 8, 99, 13, 100, 101, 102, 103, 104, 105, 106, 107, 108, 109, 110, 111, 112, 113, 114, 115, 116, 117, 118, 119, 120, 121, 122, 123, 124, 125, 126, 127, 128, 18, 137, 138, 149, 150, 151, 152, 153, 154, 155, 156, 157, 139, 140, 141, 142, 143, 144] (by decide +kernel) (by decide +kernel)
set_option maxRecDepth 20000 in
theorem gX1_takeVariable_X1_gather : GoodIn wsX1_takeVariable (wsV RX1 45 RX1 yX1_gather wsX1_gather) := goodIn_app (goodIn_of _ (by decide +kernel)) ggX1_takeVariable_X1_gather
set_option maxRecDepth 20000 in
theorem ggX1_takeVariable_X1_numbersAside : GoodIn wsX1_takeVariable wsX1_numbersAside := goodIn_r _ [132, 48, 3, 4, 5, 6, 7, 8, 14, 15, 16, 17, 18, 19, 20, 21, 61, 62, 63, 64, 65, 137, 138, 139, 140, 141, 142, 143, 144] (by decide +kernel) (by decide +kernel)
set_option maxRecDepth 20000 in
theorem gX1_takeVariable_X1_numbersAside : GoodIn wsX1_takeVariable (wsV RX1 113 RX1 yX1_numbersAside wsX1_numbersAside) := goodIn_app (goodIn_of _ (by decide +kernel)) ggX1_takeVariable_X1_numbersAside
set_option maxRecDepth 20000 in
theorem ggX1_takeVariable_X1_addEach : GoodIn wsX1_takeVariable wsX1_addEach := goodIn_r _ [136, 1, 64, 20, 65, 118, 119, 120, 6, 121, 99, 122, 13, 123, 124, 137, 138, 139, 140, 141, 142, 143, 144] (by decide +kernel) (by decide +kernel)
set_option maxRecDepth 20000 in
theorem gX1_takeVariable_X1_addEach : GoodIn wsX1_takeVariable (wsV RX1 117 RX1 yX1_addEach wsX1_addEach) := goodIn_app (goodIn_of _ (by decide +kernel)) ggX1_takeVariable_X1_addEach
set_option maxRecDepth 20000 in
theorem ggX1_takeVariable_X6_turn : GoodIn wsX1_takeVariable wsX6_turn := goodIn_r _ [128, 18, 122, 99, 8, 139, 140, 141, 142, 143, 144] (by decide +kernel) (by decide +kernel)
set_option maxRecDepth 20000 in
theorem gX1_takeVariable_X6_turn : GoodIn wsX1_takeVariable (wsV RX1 69 RX6 yX6_turn wsX6_turn) := goodIn_app (goodIn_of _ (by decide +kernel)) ggX1_takeVariable_X6_turn
set_option maxRecDepth 20000 in
theorem ggX1_addEach_X7_cellShift : GoodIn wsX1_addEach wsX7_cellShift := goodIn_r _ [4] (by decide +kernel) (by decide +kernel)
set_option maxRecDepth 20000 in
theorem gX1_addEach_X7_cellShift_n121 : GoodIn wsX1_addEach (wsX7_cellShift) := ggX1_addEach_X7_cellShift
set_option maxRecDepth 20000 in
theorem ggX1_addEach_X6_add : GoodIn wsX1_addEach wsX6_add := goodIn_r _ [9, 10, 11, 12, 13, 3, 14, 17, 18, 19, 20, 21, 22] (by decide +kernel) (by decide +kernel)
set_option maxRecDepth 20000 in
theorem gX1_addEach_X6_add : GoodIn wsX1_addEach (wsV RX1 66 RX6 yX6_add wsX6_add) := goodIn_app (goodIn_of _ (by decide +kernel)) ggX1_addEach_X6_add
set_option maxRecDepth 20000 in
theorem ggX1_numbersAside_X6_size : GoodIn wsX1_numbersAside wsX6_size := goodIn_r _ [6, 7, 23, 24, 25, 26, 27, 28] (by decide +kernel) (by decide +kernel)
set_option maxRecDepth 20000 in
theorem gX1_numbersAside_X6_size : GoodIn wsX1_numbersAside (wsV RX1 58 RX6 yX6_size wsX6_size) := goodIn_app (goodIn_of _ (by decide +kernel)) ggX1_numbersAside_X6_size
set_option maxRecDepth 20000 in
theorem ggX1_numbersAside_X6_row : GoodIn wsX1_numbersAside wsX6_row := goodIn_r _ [11, 12, 13, 14, 15, 23, 24, 25, 26, 27, 28] (by decide +kernel) (by decide +kernel)
set_option maxRecDepth 20000 in
theorem gX1_numbersAside_X6_row : GoodIn wsX1_numbersAside (wsV RX1 63 RX6 yX6_row wsX6_row) := goodIn_app (goodIn_of _ (by decide +kernel)) ggX1_numbersAside_X6_row
set_option maxRecDepth 20000 in
theorem ggX1_numbersAside_X7_cellOf : GoodIn wsX1_numbersAside wsX7_cellOf := goodIn_r _ [17, 18, 19, 14, 20] (by decide +kernel) (by decide +kernel)
set_option maxRecDepth 20000 in
theorem gX1_numbersAside_X7_cellOf_n124 : GoodIn wsX1_numbersAside (wsX7_cellOf) := ggX1_numbersAside_X7_cellOf
set_option maxRecDepth 20000 in
theorem ggX1_loop_X6_beginWithNothingBound : GoodIn wsX1_loop wsX6_beginWithNothingBound := goodIn_r _ [6, 7, 8, 9, 5, 10, 11, 12, 13, 14, 15, 16, 17, 18, 19, 20, 21, 22, 23, 24, 25, 26, 112, 113, 114, 115, 116, 117] (by decide +kernel) (by decide +kernel)
set_option maxRecDepth 20000 in
theorem gX1_loop_X6_beginWithNothingBound : GoodIn wsX1_loop (wsV RX1 23 RX6 yX6_beginWithNothingBound wsX6_beginWithNothingBound) := goodIn_app (goodIn_of _ (by decide +kernel)) ggX1_loop_X6_beginWithNothingBound
set_option maxRecDepth 20000 in
theorem ggX1_loop_X3_size : GoodIn wsX1_loop wsX3_size := goodIn_r _ [31, 32, 118, 119, 120, 121] (by decide +kernel) (by decide +kernel)
set_option maxRecDepth 20000 in
theorem gX1_loop_X3_size : GoodIn wsX1_loop (wsV RX1 26 RX3 yX3_size wsX3_size) := goodIn_app (goodIn_of _ (by decide +kernel)) ggX1_loop_X3_size
set_option maxRecDepth 20000 in
theorem ggX1_loop_X3_pattern : GoodIn wsX1_loop wsX3_pattern := goodIn_r _ [36, 37, 38, 39, 118, 119, 120, 121] (by decide +kernel) (by decide +kernel)
set_option maxRecDepth 20000 in
theorem gX1_loop_X3_pattern : GoodIn wsX1_loop (wsV RX1 36 RX3 yX3_pattern wsX3_pattern) := goodIn_app (goodIn_of _ (by decide +kernel)) ggX1_loop_X3_pattern
set_option maxRecDepth 20000 in
theorem ggX1_loop_X6_size : GoodIn wsX1_loop wsX6_size := goodIn_r _ [43, 11, 112, 113, 114, 115, 116, 117] (by decide +kernel) (by decide +kernel)
set_option maxRecDepth 20000 in
theorem gX1_loop_X6_size : GoodIn wsX1_loop (wsV RX1 58 RX6 yX6_size wsX6_size) := goodIn_app (goodIn_of _ (by decide +kernel)) ggX1_loop_X6_size
set_option maxRecDepth 20000 in
theorem ggX1_loop_X6_isOver : GoodIn wsX1_loop wsX6_isOver := goodIn_r _ [47, 13, 112, 113, 114, 115, 116, 117] (by decide +kernel) (by decide +kernel)
set_option maxRecDepth 20000 in
theorem gX1_loop_X6_isOver : GoodIn wsX1_loop (wsV RX1 59 RX6 yX6_isOver wsX6_isOver) := goodIn_app (goodIn_of _ (by decide +kernel)) ggX1_loop_X6_isOver
set_option maxRecDepth 20000 in
theorem ggX1_loop_X6_row : GoodIn wsX1_loop wsX6_row := goodIn_r _ [51, 26, 52, 20, 53, 112, 113, 114, 115, 116, 117] (by decide +kernel) (by decide +kernel)
set_option maxRecDepth 20000 in
theorem gX1_loop_X6_row : GoodIn wsX1_loop (wsV RX1 63 RX6 yX6_row wsX6_row) := goodIn_app (goodIn_of _ (by decide +kernel)) ggX1_loop_X6_row
set_option maxRecDepth 20000 in
theorem ggX1_loop_X1_tryAllTriples : GoodIn wsX1_loop wsX1_tryAllTriples := goodIn_r _ [58, 1, 59, 60, 61, 62, 63, 64, 52, 20, 53, 65, 66, 67, 68, 69, 70, 71, 72, 73, 74, 75, 76, 77, 78, 79, 80, 81, 82, 83, 84, 85, 86, 87, 88, 89, 90, 91, 92, 93, 94, 95, 96, 97, 98, 99, 100, 101, 102, 103, 15, 16, 5, 17, 12, 18, 13, 19, 21, 110, 111, 122, 123, 124, 125, 126, 127, 128, 129, 130, 112, 113, 114, 115, 116, 117] (by decide +kernel) (by decide +kernel)
set_option maxRecDepth 20000 in
theorem gX1_loop_X1_tryAllTriples : GoodIn wsX1_loop (wsV RX1 127 RX1 yX1_tryAllTriples wsX1_tryAllTriples) := goodIn_app (goodIn_of _ (by decide +kernel)) ggX1_loop_X1_tryAllTriples
set_option maxRecDepth 20000 in
theorem ggX1_loop_X6_turn : GoodIn wsX1_loop wsX6_turn := goodIn_r _ [25, 26, 18, 12, 11, 112, 113, 114, 115, 116, 117] (by decide +kernel) (by decide +kernel)
set_option maxRecDepth 20000 in
theorem gX1_loop_X6_turn : GoodIn wsX1_loop (wsV RX1 69 RX6 yX6_turn wsX6_turn) := goodIn_app (goodIn_of _ (by decide +kernel)) ggX1_loop_X6_turn
set_option maxRecDepth 20000 in
theorem ggX1_loop_X2_variableBits : GoodIn wsX1_loop wsX2_variableBits := goodIn_r _ [108, 109, 122, 123, 124, 125] (by decide +kernel) (by decide +kernel)
set_option maxRecDepth 20000 in
theorem gX1_loop_X2_variableBits : GoodIn wsX1_loop (wsV RX1 40 RX2 yX2_variableBits wsX2_variableBits) := goodIn_app (goodIn_of _ (by decide +kernel)) ggX1_loop_X2_variableBits
set_option maxRecDepth 20000 in
theorem ggX1_tryAllTriples_X2_maskWith : GoodIn wsX1_tryAllTriples wsX2_maskWith := goodIn_r _ [6, 7, 8, 9, 10, 11, 12, 13, 14, 61, 62, 63, 64] (by decide +kernel) (by decide +kernel)
set_option maxRecDepth 20000 in
theorem gX1_tryAllTriples_X2_maskWith : GoodIn wsX1_tryAllTriples (wsV RX1 72 RX2 yX2_maskWith wsX2_maskWith) := goodIn_app (goodIn_of _ (by decide +kernel)) ggX1_tryAllTriples_X2_maskWith
set_option maxRecDepth 20000 in
theorem ggX1_tryAllTriples_X2_valueWith : GoodIn wsX1_tryAllTriples wsX2_valueWith := goodIn_r _ [18, 7, 19, 8, 9, 10, 13, 14, 11, 12, 20, 21, 22, 23, 24, 61, 62, 63, 64] (by decide +kernel) (by decide +kernel)
set_option maxRecDepth 20000 in
theorem gX1_tryAllTriples_X2_valueWith : GoodIn wsX1_tryAllTriples (wsV RX1 75 RX2 yX2_valueWith wsX2_valueWith) := goodIn_app (goodIn_of _ (by decide +kernel)) ggX1_tryAllTriples_X2_valueWith
set_option maxRecDepth 20000 in
theorem ggX1_tryAllTriples_X5_all : GoodIn wsX1_tryAllTriples wsX5_all := goodIn_r _ [29, 30, 65, 66, 67] (by decide +kernel) (by decide +kernel)
set_option maxRecDepth 20000 in
theorem gX1_tryAllTriples_X5_all : GoodIn wsX1_tryAllTriples (wsV RX1 130 RX5 yX5_all wsX5_all) := goodIn_app (goodIn_of _ (by decide +kernel)) ggX1_tryAllTriples_X5_all
set_option maxRecDepth 20000 in
theorem ggX1_tryAllTriples_X4_size : GoodIn wsX1_tryAllTriples wsX4_size := goodIn_r _ [35, 36, 68, 69] (by decide +kernel) (by decide +kernel)
set_option maxRecDepth 20000 in
theorem gX1_tryAllTriples_X4_size : GoodIn wsX1_tryAllTriples (wsV RX1 134 RX4 yX4_size wsX4_size) := goodIn_app (goodIn_of _ (by decide +kernel)) ggX1_tryAllTriples_X4_size
set_option maxRecDepth 20000 in
theorem ggX1_tryAllTriples_X4_key : GoodIn wsX1_tryAllTriples wsX4_key := goodIn_r _ [40, 41, 8, 9, 10, 68, 69] (by decide +kernel) (by decide +kernel)
set_option maxRecDepth 20000 in
theorem gX1_tryAllTriples_X4_key : GoodIn wsX1_tryAllTriples (wsV RX1 137 RX4 yX4_key wsX4_key) := goodIn_app (goodIn_of _ (by decide +kernel)) ggX1_tryAllTriples_X4_key
set_option maxRecDepth 20000 in
theorem ggX1_tryAllTriples_X2_widen : GoodIn wsX1_tryAllTriples wsX2_widen := goodIn_r _ [45, 7, 8, 9, 10, 46, 47, 48, 13, 14, 11, 12, 23, 24, 20, 21, 22, 61, 62, 63, 64] (by decide +kernel) (by decide +kernel)
set_option maxRecDepth 20000 in
theorem gX1_tryAllTriples_X2_widen : GoodIn wsX1_tryAllTriples (wsV RX1 97 RX2 yX2_widen wsX2_widen) := goodIn_app (goodIn_of _ (by decide +kernel)) ggX1_tryAllTriples_X2_widen
set_option maxRecDepth 20000 in
theorem ggX1_tryAllTriples_X6_add : GoodIn wsX1_tryAllTriples wsX6_add := goodIn_r _ [53, 54, 55, 56, 57, 9, 58, 70, 71, 72, 73, 74, 75] (by decide +kernel) (by decide +kernel)
set_option maxRecDepth 20000 in
theorem gX1_tryAllTriples_X6_add : GoodIn wsX1_tryAllTriples (wsV RX1 66 RX6 yX6_add wsX6_add) := goodIn_app (goodIn_of _ (by decide +kernel)) ggX1_tryAllTriples_X6_add

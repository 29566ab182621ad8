set_option maxRecDepth 20000 in
theorem ggX0_knows_X7_at : GoodIn wsX0_knows wsX7_at := goodIn_r _ [4] (by decide +kernel) (by decide +kernel)
set_option maxRecDepth 20000 in
theorem gX0_knows_X7_at_n22 : GoodIn wsX0_knows (wsX7_at) := ggX0_knows_X7_at
set_option maxRecDepth 20000 in
theorem ggX0_number_X0_knows : GoodIn wsX0_number wsX0_knows := goodIn_r _ [6, 1, 7, 8, 9, 10, 11, 12] (by decide +kernel) (by decide +kernel)
set_option maxRecDepth 20000 in
theorem gX0_number_X0_knows : GoodIn wsX0_number (wsV RX0 26 RX0 yX0_knows wsX0_knows) := goodIn_app (goodIn_of _ (by decide +kernel)) ggX0_number_X0_knows
set_option maxRecDepth 20000 in
theorem ggX0_number_X7_at : GoodIn wsX0_number wsX7_at := goodIn_r _ [9] (by decide +kernel) (by decide +kernel)
set_option maxRecDepth 20000 in
theorem gX0_number_X7_at_n22 : GoodIn wsX0_number (wsX7_at) := ggX0_number_X7_at
set_option maxRecDepth 20000 in
theorem ggX0_term_X7_at : GoodIn wsX0_term wsX7_at := goodIn_r _ [4] (by decide +kernel) (by decide +kernel)
set_option maxRecDepth 20000 in
theorem gX0_term_X7_at_n22 : GoodIn wsX0_term (wsX7_at) := ggX0_term_X7_at
set_option maxRecDepth 20000 in
theorem ggX0_pack_X0_number : GoodIn wsX0_pack wsX0_number := goodIn_r _ [5, 6, 7, 8, 9, 4, 10, 11, 12, 13, 16, 17, 18] (by decide +kernel) (by decide +kernel)
set_option maxRecDepth 20000 in
theorem gX0_pack_X0_number : GoodIn wsX0_pack (wsV RX0 30 RX0 yX0_number wsX0_number) := goodIn_app (goodIn_of _ (by decide +kernel)) ggX0_pack_X0_number
set_option maxRecDepth 20000 in
theorem ggX0_pack_X7_partShift : GoodIn wsX0_pack wsX7_partShift := goodIn_r _ [15] (by decide +kernel) (by decide +kernel)
set_option maxRecDepth 20000 in
theorem gX0_pack_X7_partShift_n34 : GoodIn wsX0_pack (wsX7_partShift) := ggX0_pack_X7_partShift
set_option maxRecDepth 20000 in
theorem ggX0_sizeWith_X0_knows : GoodIn wsX0_sizeWith wsX0_knows := goodIn_r _ [6, 7, 8, 9, 10, 11, 12, 13] (by decide +kernel) (by decide +kernel)
set_option maxRecDepth 20000 in
theorem gX0_sizeWith_X0_knows : GoodIn wsX0_sizeWith (wsV RX0 26 RX0 yX0_knows wsX0_knows) := goodIn_app (goodIn_of _ (by decide +kernel)) ggX0_sizeWith_X0_knows
set_option maxRecDepth 20000 in
theorem ggX0_learn_X0_knows : GoodIn wsX0_learn wsX0_knows := goodIn_r _ [8, 3, 9, 10, 11, 14, 15, 16] (by decide +kernel) (by decide +kernel)
set_option maxRecDepth 20000 in
theorem gX0_learn_X0_knows : GoodIn wsX0_learn (wsV RX0 26 RX0 yX0_knows wsX0_knows) := goodIn_app (goodIn_of _ (by decide +kernel)) ggX0_learn_X0_knows
set_option maxRecDepth 20000 in
theorem ggX0_learn_X7_put : GoodIn wsX0_learn wsX7_put := goodIn_r _ [13] (by decide +kernel) (by decide +kernel)
set_option maxRecDepth 20000 in
theorem gX0_learn_X7_put_n37 : GoodIn wsX0_learn (wsX7_put) := ggX0_learn_X7_put
set_option maxRecDepth 20000 in
theorem ggX1_init_X6_init : GoodIn wsX1_init wsX6_init := goodIn_r _ [11, 12, 2, 3, 13, 14, 15, 16, 17, 18, 19, 20, 21, 22, 23, 24, 25, 26, 27, 28, 29] (by decide +kernel) (by decide +kernel)
set_option maxRecDepth 20000 in
theorem gX1_init_X6_init : GoodIn wsX1_init (wsX6_init) := ggX1_init_X6_init
set_option maxRecDepth 20000 in
theorem ggX1_merge_X6_beginWithNothingBound : GoodIn wsX1_merge wsX6_beginWithNothingBound := goodIn_r _ [7, 8, 9, 10, 6, 11, 12, 13, 14, 15, 16, 17, 18, 19, 20, 21, 22, 23, 24, 25, 26, 27, 176, 177, 178, 179, 180, 181] (by decide +kernel) (by decide +kernel)
set_option maxRecDepth 20000 in
theorem gX1_merge_X6_beginWithNothingBound : GoodIn wsX1_merge (wsV RX1 23 RX6 yX6_beginWithNothingBound wsX6_beginWithNothingBound) := goodIn_app (goodIn_of _ (by decide +kernel)) ggX1_merge_X6_beginWithNothingBound
set_option maxRecDepth 20000 in
theorem ggX1_merge_X3_size : GoodIn wsX1_merge wsX3_size := goodIn_r _ [32, 33, 182, 183, 184, 185] (by decide +kernel) (by decide +kernel)
set_option maxRecDepth 20000 in
theorem gX1_merge_X3_size : GoodIn wsX1_merge (wsV RX1 26 RX3 yX3_size wsX3_size) := goodIn_app (goodIn_of _ (by decide +kernel)) ggX1_merge_X3_size
set_option maxRecDepth 20000 in
theorem ggX1_merge_X3_inJoinOrder : GoodIn wsX1_merge wsX3_inJoinOrder := goodIn_r _ [37, 33, 38, 39, 40, 31, 41, 42, 43, 44, 45, 46, 21, 47, 48, 49, 50, 51, 52, 53, 54, 55, 56, 57, 58, 59, 60, 61, 62, 63, 64, 65, 66, 67, 68, 69, 182, 183, 184, 185, 186, 187, 188, 189] (by decide +kernel) (by decide +kernel)
set_option maxRecDepth 20000 in
theorem gX1_merge_X3_inJoinOrder : GoodIn wsX1_merge (wsV RX1 32 RX3 yX3_inJoinOrder wsX3_inJoinOrder) := goodIn_app (goodIn_of _ (by decide +kernel)) ggX1_merge_X3_inJoinOrder
set_option maxRecDepth 20000 in
theorem ggX1_merge_X3_pattern : GoodIn wsX1_merge wsX3_pattern := goodIn_r _ [55, 56, 57, 58, 182, 183, 184, 185] (by decide +kernel) (by decide +kernel)
set_option maxRecDepth 20000 in
theorem gX1_merge_X3_pattern : GoodIn wsX1_merge (wsV RX1 36 RX3 yX3_pattern wsX3_pattern) := goodIn_app (goodIn_of _ (by decide +kernel)) ggX1_merge_X3_pattern
set_option maxRecDepth 20000 in
theorem ggX1_merge_X2_variableBits : GoodIn wsX1_merge wsX2_variableBits := goodIn_r _ [63, 64, 186, 187, 188, 189] (by decide +kernel) (by decide +kernel)
set_option maxRecDepth 20000 in
theorem gX1_merge_X2_variableBits : GoodIn wsX1_merge (wsV RX1 40 RX2 yX2_variableBits wsX2_variableBits) := goodIn_app (goodIn_of _ (by decide +kernel)) ggX1_merge_X2_variableBits
set_option maxRecDepth 20000 in
theorem ggX1_merge_X1_gather : GoodIn wsX1_merge wsX1_gather := goodIn_r _ [76, 2, 77, 78, 79, 62, 80, 81, 82, 21, 83, 46, 47, 84, 85, 86, 87, 88, 89, 90, 91, 92, 93, 94, 95, 96, 97, 98, 99, 100, 101, 102, 103, 104, 105, 106, 107, 108, 109, 110, 111, 112, 113, 114, 115, 116, 117, 118, 119, 120, 121, 122, 123, 124, 125, 9, 10, 6, 11, 12, 13, 14, 126, 127, 128, 129, 130, 131, 132, 133, 134, 135, 136, 137, 138, 139, 140, 141, 142, 143, 144, 16, 17, 18, 19, 20, 22, 145, 24, 25, 26, 27, 174, 175, 186, 187, 188, 189, 190, 191, 192, 193, 194, 176, 177, 178, 179, 180, 181] (by decide +kernel) (by decide +kernel)
set_option maxRecDepth 20000 in
theorem gX1_merge_X1_gather : GoodIn wsX1_merge (wsV RX1 45 RX1 yX1_gather wsX1_gather) := goodIn_app (goodIn_of _ (by decide +kernel)) ggX1_merge_X1_gather
set_option maxRecDepth 20000 in
theorem ggX1_merge_X6_sort : GoodIn wsX1_merge wsX6_sort := goodIn_r _ [149, 46, 21, 47, 150, 151, 152, 6, 153, 154, 12, 27, 19, 13, 20, 22, 82, 83, 91, 92, 93, 94, 95, 23, 24, 25, 26, 176, 177, 178, 179, 180, 181] (by decide +kernel) (by decide +kernel)
set_option maxRecDepth 20000 in
theorem gX1_merge_X6_sort : GoodIn wsX1_merge (wsV RX1 49 RX6 yX6_sort wsX6_sort) := goodIn_app (goodIn_of _ (by decide +kernel)) ggX1_merge_X6_sort
set_option maxRecDepth 20000 in
theorem ggX1_merge_X7_rowMask : GoodIn wsX1_merge wsX7_rowMask := goodIn_r _ [156, 157, 46, 21, 47, 93, 94, 95] (by decide +kernel) (by decide +kernel)
set_option maxRecDepth 20000 in
theorem gX1_merge_X7_rowMask_n52 : GoodIn wsX1_merge (wsX7_rowMask) := ggX1_merge_X7_rowMask
set_option maxRecDepth 20000 in
theorem ggX1_merge_X1_mergeSide : GoodIn wsX1_merge wsX1_mergeSide := goodIn_r _ [161, 1, 2, 162, 163, 164, 6, 165, 12, 166, 167, 168, 169, 14, 170, 171, 172, 173, 27, 82, 21, 83, 144, 16, 17, 18, 13, 19, 20, 22, 145, 24, 25, 26, 174, 175, 176, 177, 178, 179, 180, 181] (by decide +kernel) (by decide +kernel)
set_option maxRecDepth 20000 in
theorem gX1_merge_X1_mergeSide : GoodIn wsX1_merge (wsV RX1 55 RX1 yX1_mergeSide wsX1_mergeSide) := goodIn_app (goodIn_of _ (by decide +kernel)) ggX1_merge_X1_mergeSide
set_option maxRecDepth 20000 in
theorem ggX1_mergeSide_X6_size : GoodIn wsX1_mergeSide wsX6_size := goodIn_r _ [7, 8, 36, 37, 38, 39, 40, 41] (by decide +kernel) (by decide +kernel)
set_option maxRecDepth 20000 in
theorem gX1_mergeSide_X6_size : GoodIn wsX1_mergeSide (wsV RX1 58 RX6 yX6_size wsX6_size) := goodIn_app (goodIn_of _ (by decide +kernel)) ggX1_mergeSide_X6_size
set_option maxRecDepth 20000 in
theorem ggX1_mergeSide_X6_isOver : GoodIn wsX1_mergeSide wsX6_isOver := goodIn_r _ [12, 13, 36, 37, 38, 39, 40, 41] (by decide +kernel) (by decide +kernel)
set_option maxRecDepth 20000 in
theorem gX1_mergeSide_X6_isOver : GoodIn wsX1_mergeSide (wsV RX1 59 RX6 yX6_isOver wsX6_isOver) := goodIn_app (goodIn_of _ (by decide +kernel)) ggX1_mergeSide_X6_isOver
set_option maxRecDepth 20000 in
theorem ggX1_mergeSide_X6_row : GoodIn wsX1_mergeSide wsX6_row := goodIn_r _ [17, 18, 19, 20, 21, 36, 37, 38, 39, 40, 41] (by decide +kernel) (by decide +kernel)
set_option maxRecDepth 20000 in
theorem gX1_mergeSide_X6_row : GoodIn wsX1_mergeSide (wsV RX1 63 RX6 yX6_row wsX6_row) := goodIn_app (goodIn_of _ (by decide +kernel)) ggX1_mergeSide_X6_row
set_option maxRecDepth 20000 in
theorem ggX1_mergeSide_X6_add : GoodIn wsX1_mergeSide wsX6_add := goodIn_r _ [25, 26, 27, 13, 28, 20, 29, 36, 37, 38, 39, 40, 41] (by decide +kernel) (by decide +kernel)
set_option maxRecDepth 20000 in
theorem gX1_mergeSide_X6_add : GoodIn wsX1_mergeSide (wsV RX1 66 RX6 yX6_add wsX6_add) := goodIn_app (goodIn_of _ (by decide +kernel)) ggX1_mergeSide_X6_add
set_option maxRecDepth 20000 in
theorem ggX1_mergeSide_X6_turn : GoodIn wsX1_mergeSide wsX6_turn := goodIn_r _ [33, 18, 27, 26, 8, 36, 37, 38, 39, 40, 41] (by decide +kernel) (by decide +kernel)
set_option maxRecDepth 20000 in
theorem gX1_mergeSide_X6_turn : GoodIn wsX1_mergeSide (wsV RX1 69 RX6 yX6_turn wsX6_turn) := goodIn_app (goodIn_of _ (by decide +kernel)) ggX1_mergeSide_X6_turn
set_option maxRecDepth 20000 in
theorem ggX1_gather_X2_maskWith : GoodIn wsX1_gather wsX2_maskWith := goodIn_r _ [6, 7, 8, 9, 10, 11, 12, 13, 14, 94, 95, 96, 97] (by decide +kernel) (by decide +kernel)
set_option maxRecDepth 20000 in
theorem gX1_gather_X2_maskWith : GoodIn wsX1_gather (wsV RX1 72 RX2 yX2_maskWith wsX2_maskWith) := goodIn_app (goodIn_of _ (by decide +kernel)) ggX1_gather_X2_maskWith
set_option maxRecDepth 20000 in
theorem ggX1_gather_X2_valueWith : GoodIn wsX1_gather wsX2_valueWith := goodIn_r _ [18, 7, 19, 8, 9, 10, 13, 14, 11, 12, 20, 21, 22, 23, 24, 94, 95, 96, 97] (by decide +kernel) (by decide +kernel)
set_option maxRecDepth 20000 in
theorem gX1_gather_X2_valueWith : GoodIn wsX1_gather (wsV RX1 75 RX2 yX2_valueWith wsX2_valueWith) := goodIn_app (goodIn_of _ (by decide +kernel)) ggX1_gather_X2_valueWith
set_option maxRecDepth 20000 in
theorem ggX1_gather_X7_orderOf : GoodIn wsX1_gather wsX7_orderOf := goodIn_r _ [26, 27, 28, 9, 29, 30, 13, 14] (by decide +kernel) (by decide +kernel)
set_option maxRecDepth 20000 in
theorem gX1_gather_X7_orderOf_n79 : GoodIn wsX1_gather (wsX7_orderOf) := ggX1_gather_X7_orderOf
set_option maxRecDepth 20000 in
theorem ggX1_gather_X5_end : GoodIn wsX1_gather wsX5_end := goodIn_r _ [35, 36, 37, 38, 39, 34, 40, 41, 42, 43, 44, 9, 45, 46, 47, 48, 49, 50, 51, 52, 53, 8, 10, 98, 99, 100, 101, 102] (by decide +kernel) (by decide +kernel)
set_option maxRecDepth 20000 in
theorem gX1_gather_X5_end : GoodIn wsX1_gather (wsV RX1 82 RX5 yX5_end wsX5_end) := goodIn_app (goodIn_of _ (by decide +kernel)) ggX1_gather_X5_end
set_option maxRecDepth 20000 in
theorem ggX1_gather_X6_beginEmpty : GoodIn wsX1_gather wsX6_beginEmpty := goodIn_r _ [58, 59, 60, 61, 103, 104, 105, 106, 107, 108] (by decide +kernel) (by decide +kernel)
set_option maxRecDepth 20000 in
theorem gX1_gather_X6_beginEmpty : GoodIn wsX1_gather (wsV RX1 88 RX6 yX6_beginEmpty wsX6_beginEmpty) := goodIn_app (goodIn_of _ (by decide +kernel)) ggX1_gather_X6_beginEmpty
set_option maxRecDepth 20000 in
theorem ggX1_gather_X5_begin : GoodIn wsX1_gather wsX5_begin := goodIn_r _ [65, 37, 38, 39, 34, 40, 41, 42, 43, 44, 9, 45, 46, 47, 48, 49, 50, 51, 52, 53, 8, 10, 98, 99, 100, 101, 102] (by decide +kernel) (by decide +kernel)
set_option maxRecDepth 20000 in
theorem gX1_gather_X5_begin : GoodIn wsX1_gather (wsV RX1 91 RX5 yX5_begin wsX5_begin) := goodIn_app (goodIn_of _ (by decide +kernel)) ggX1_gather_X5_begin
set_option maxRecDepth 20000 in
theorem ggX1_gather_X5_triple : GoodIn wsX1_gather wsX5_triple := goodIn_r _ [69, 37, 38, 39, 34, 40, 41, 42, 43, 70, 71, 72, 50, 73, 53, 8, 9, 10, 74, 75, 46, 98, 99, 100, 101, 102] (by decide +kernel) (by decide +kernel)
set_option maxRecDepth 20000 in
theorem gX1_gather_X5_triple : GoodIn wsX1_gather (wsV RX1 94 RX5 yX5_triple wsX5_triple) := goodIn_app (goodIn_of _ (by decide +kernel)) ggX1_gather_X5_triple
set_option maxRecDepth 20000 in
theorem ggX1_gather_X2_widen : GoodIn wsX1_gather wsX2_widen := goodIn_r _ [79, 7, 8, 9, 10, 28, 29, 30, 13, 14, 11, 12, 23, 24, 20, 21, 22, 94, 95, 96, 97] (by decide +kernel) (by decide +kernel)
set_option maxRecDepth 20000 in
theorem gX1_gather_X2_widen : GoodIn wsX1_gather (wsV RX1 97 RX2 yX2_widen wsX2_widen) := goodIn_app (goodIn_of _ (by decide +kernel)) ggX1_gather_X2_widen
set_option maxRecDepth 20000 in
theorem ggX1_gather_X6_add : GoodIn wsX1_gather wsX6_add := goodIn_r _ [83, 60, 84, 61, 85, 9, 86, 103, 104, 105, 106, 107, 108] (by decide +kernel) (by decide +kernel)
set_option maxRecDepth 20000 in
theorem gX1_gather_X6_add : GoodIn wsX1_gather (wsV RX1 66 RX6 yX6_add wsX6_add) := goodIn_app (goodIn_of _ (by decide +kernel)) ggX1_gather_X6_add
set_option maxRecDepth 20000 in
theorem ggX1_gather_X6_turn : GoodIn wsX1_gather wsX6_turn := goodIn_r _ [90, 91, 84, 60, 59, 103, 104, 105, 106, 107, 108] (by decide +kernel) (by decide +kernel)
set_option maxRecDepth 20000 in
theorem gX1_gather_X6_turn : GoodIn wsX1_gather (wsV RX1 69 RX6 yX6_turn wsX6_turn) := goodIn_app (goodIn_of _ (by decide +kernel)) ggX1_gather_X6_turn
set_option maxRecDepth 20000 in
theorem ggX1_goByVariables_X6_beginWithNothingBound : GoodIn wsX1_goByVariables wsX6_beginWithNothingBound := goodIn_r _ [6, 7, 8, 9, 5, 10, 11, 12, 13, 14, 15, 16, 17, 18, 19, 20, 21, 22, 23, 24, 25, 26, 177, 178, 179, 180, 181, 182] (by decide +kernel) (by decide +kernel)
set_option maxRecDepth 20000 in
theorem gX1_goByVariables_X6_beginWithNothingBound : GoodIn wsX1_goByVariables (wsV RX1 23 RX6 yX6_beginWithNothingBound wsX6_beginWithNothingBound) := goodIn_app (goodIn_of _ (by decide +kernel)) ggX1_goByVariables_X6_beginWithNothingBound
set_option maxRecDepth 20000 in
theorem ggX1_goByVariables_X3_hasPatternWithoutMatch : GoodIn wsX1_goByVariables wsX3_hasPatternWithoutMatch := goodIn_r _ [31, 32, 33, 34, 35, 30, 36, 37, 38, 39, 40, 41, 42, 43, 44, 45, 183, 184, 185, 186, 187, 188, 189, 190] (by decide +kernel) (by decide +kernel)
set_option maxRecDepth 20000 in
theorem gX1_goByVariables_X3_hasPatternWithoutMatch : GoodIn wsX1_goByVariables (wsV RX1 100 RX3 yX3_hasPatternWithoutMatch wsX3_hasPatternWithoutMatch) := goodIn_app (goodIn_of _ (by decide +kernel)) ggX1_goByVariables_X3_hasPatternWithoutMatch
set_option maxRecDepth 20000 in
theorem ggX1_goByVariables_X6_beginEmpty : GoodIn wsX1_goByVariables wsX6_beginEmpty := goodIn_r _ [10, 11, 12, 13, 177, 178, 179, 180, 181, 182] (by decide +kernel) (by decide +kernel)
set_option maxRecDepth 20000 in
theorem gX1_goByVariables_X6_beginEmpty : GoodIn wsX1_goByVariables (wsV RX1 88 RX6 yX6_beginEmpty wsX6_beginEmpty) := goodIn_app (goodIn_of _ (by decide +kernel)) ggX1_goByVariables_X6_beginEmpty
set_option maxRecDepth 20000 in
theorem ggX1_goByVariables_X3_size : GoodIn wsX1_goByVariables wsX3_size := goodIn_r _ [50, 32, 183, 184, 185, 186] (by decide +kernel) (by decide +kernel)
set_option maxRecDepth 20000 in
theorem gX1_goByVariables_X3_size : GoodIn wsX1_goByVariables (wsV RX1 26 RX3 yX3_size wsX3_size) := goodIn_app (goodIn_of _ (by decide +kernel)) ggX1_goByVariables_X3_size
set_option maxRecDepth 20000 in
theorem ggX1_goByVariables_X3_inJoinOrder : GoodIn wsX1_goByVariables wsX3_inJoinOrder := goodIn_r _ [54, 32, 55, 56, 57, 30, 58, 59, 60, 61, 62, 63, 20, 64, 65, 66, 67, 68, 33, 34, 35, 36, 37, 38, 39, 69, 70, 71, 43, 72, 73, 40, 41, 42, 44, 45, 183, 184, 185, 186, 187, 188, 189, 190] (by decide +kernel) (by decide +kernel)
set_option maxRecDepth 20000 in
theorem gX1_goByVariables_X3_inJoinOrder : GoodIn wsX1_goByVariables (wsV RX1 32 RX3 yX3_inJoinOrder wsX3_inJoinOrder) := goodIn_app (goodIn_of _ (by decide +kernel)) ggX1_goByVariables_X3_inJoinOrder
set_option maxRecDepth 20000 in
theorem ggX1_goByVariables_X3_pattern : GoodIn wsX1_goByVariables wsX3_pattern := goodIn_r _ [36, 37, 38, 39, 183, 184, 185, 186] (by decide +kernel) (by decide +kernel)
set_option maxRecDepth 20000 in
theorem gX1_goByVariables_X3_pattern : GoodIn wsX1_goByVariables (wsV RX1 36 RX3 yX3_pattern wsX3_pattern) := goodIn_app (goodIn_of _ (by decide +kernel)) ggX1_goByVariables_X3_pattern
set_option maxRecDepth 20000 in
theorem ggX1_goByVariables_X2_variableBits : GoodIn wsX1_goByVariables wsX2_variableBits := goodIn_r _ [72, 73, 187, 188, 189, 190] (by decide +kernel) (by decide +kernel)
set_option maxRecDepth 20000 in
theorem gX1_goByVariables_X2_variableBits : GoodIn wsX1_goByVariables (wsV RX1 40 RX2 yX2_variableBits wsX2_variableBits) := goodIn_app (goodIn_of _ (by decide +kernel)) ggX1_goByVariables_X2_variableBits
set_option maxRecDepth 20000 in
theorem ggX1_goByVariables_X7_hasBit : GoodIn wsX1_goByVariables wsX7_hasBit := goodIn_r _ [64] (by decide +kernel) (by decide +kernel)
set_option maxRecDepth 20000 in
theorem gX1_goByVariables_X7_hasBit_n103 : GoodIn wsX1_goByVariables (wsX7_hasBit) := ggX1_goByVariables_X7_hasBit
set_option maxRecDepth 20000 in
theorem ggX1_goByVariables_X1_takeVariable : GoodIn wsX1_goByVariables wsX1_takeVariable := goodIn_r _ [80, 1, 81, 82, 83, 84, 5, 85, 11, 86, 87, 88, 89, 13, 90, 91, 92, 93, 26, 94, 20, 95, 47, 48, 49, 30, 50, 32, 74, 34, 35, 36, 37, 38, 39, 75, 70, 71, 43, 72, 73, 63, 64, 96, 97, 98, 79, 99, 100, 101, 102, 103, 104, 105, 106, 107, 108, 109, 110, 111, 112, 113, 114, 115, 116, 117, 118, 119, 120, 121, 122, 123, 124, 125, 126, 127, 128, 129, 130, 131, 132, 133, 134, 135, 136, 137, 138, 139, 140, 141, 142, 143, 144, 145, 146, 46, 8, 9, 10, 12, 147, 148, 149, 150, 151, 152, 153, 154, 155, 156, 157, 158, 159, 160, 161, 162, 163, 164, 165, 15, 16, 17, 18, 19, 21, 166, 23, 24, 25, 167, 168, 169, 170, 171, 172, 173, 174, 175, 176, 177, 178, 179, 180, 181, 182, 183, 184, 185, 186, 187, 188, 189, 190, 191, 192, 193, 194, 195] (by decide +kernel) (by decide +kernel)
set_option maxRecDepth 20000 in
theorem gX1_goByVariables_X1_takeVariable : GoodIn wsX1_goByVariables (wsV RX1 107 RX1 yX1_takeVariable wsX1_takeVariable) := goodIn_app (goodIn_of _ (by decide +kernel)) ggX1_goByVariables_X1_takeVariable
set_option maxRecDepth 20000 in
theorem ggX1_takeVariable_X6_size : GoodIn wsX1_takeVariable wsX6_size := goodIn_r _ [7, 8, 139, 140, 141, 142, 143, 144] (by decide +kernel) (by decide +kernel)
set_option maxRecDepth 20000 in
theorem gX1_takeVariable_X6_size : GoodIn wsX1_takeVariable (wsV RX1 58 RX6 yX6_size wsX6_size) := goodIn_app (goodIn_of _ (by decide +kernel)) ggX1_takeVariable_X6_size
set_option maxRecDepth 20000 in
theorem ggX1_takeVariable_X6_isOver : GoodIn wsX1_takeVariable wsX6_isOver := goodIn_r _ [12, 13, 139, 140, 141, 142, 143, 144] (by decide +kernel) (by decide +kernel)
set_option maxRecDepth 20000 in
theorem gX1_takeVariable_X6_isOver : GoodIn wsX1_takeVariable (wsV RX1 59 RX6 yX6_isOver wsX6_isOver) := goodIn_app (goodIn_of _ (by decide +kernel)) ggX1_takeVariable_X6_isOver
set_option maxRecDepth 20000 in
theorem ggX1_takeVariable_X6_row : GoodIn wsX1_takeVariable wsX6_row := goodIn_r _ [17, 18, 19, 20, 21, 139, 140, 141, 142, 143, 144] (by decide +kernel) (by decide +kernel)
set_option maxRecDepth 20000 in
theorem gX1_takeVariable_X6_row : GoodIn wsX1_takeVariable (wsV RX1 63 RX6 yX6_row wsX6_row) := goodIn_app (goodIn_of _ (by decide +kernel)) ggX1_takeVariable_X6_row
set_option maxRecDepth 20000 in
theorem ggX1_takeVariable_X3_size : GoodIn wsX1_takeVariable wsX3_size := goodIn_r _ [26, 27, 145, 146, 147, 148] (by decide +kernel) (by decide +kernel)
set_option maxRecDepth 20000 in
theorem gX1_takeVariable_X3_size : GoodIn wsX1_takeVariable (wsV RX1 26 RX3 yX3_size wsX3_size) := goodIn_app (goodIn_of _ (by decide +kernel)) ggX1_takeVariable_X3_size
set_option maxRecDepth 20000 in
theorem ggX1_takeVariable_X3_pattern : GoodIn wsX1_takeVariable wsX3_pattern := goodIn_r _ [31, 32, 33, 34, 145, 146, 147, 148] (by decide +kernel) (by decide +kernel)
set_option maxRecDepth 20000 in
theorem gX1_takeVariable_X3_pattern : GoodIn wsX1_takeVariable (wsV RX1 36 RX3 yX3_pattern wsX3_pattern) := goodIn_app (goodIn_of _ (by decide +kernel)) ggX1_takeVariable_X3_pattern
set_option maxRecDepth 20000 in
theorem ggX1_takeVariable_X2_variableBits : GoodIn wsX1_takeVariable wsX2_variableBits := goodIn_r _ [39, 40, 149, 150, 151, 152] (by decide +kernel) (by decide +kernel)
set_option maxRecDepth 20000 in
theorem gX1_takeVariable_X2_variableBits : GoodIn wsX1_takeVariable (wsV RX1 40 RX2 yX2_variableBits wsX2_variableBits) := goodIn_app (goodIn_of _ (by decide +kernel)) ggX1_takeVariable_X2_variableBits
set_option maxRecDepth 20000 in
theorem ggX1_takeVariable_X7_hasBit : GoodIn wsX1_takeVariable wsX7_hasBit := goodIn_r _ [42] (by decide +kernel) (by decide +kernel)
set_option maxRecDepth 20000 in
theorem gX1_takeVariable_X7_hasBit_n103 : GoodIn wsX1_takeVariable (wsX7_hasBit) := ggX1_takeVariable_X7_hasBit
set_option maxRecDepth 20000 in
theorem ggX1_takeVariable_X1_gather : GoodIn wsX1_takeVariable wsX1_gather := goodIn_r _ [47, 48, 49, 50, 51, 38, 52, 53, 19, 20, 21, 41, 42, 54, 55, 56, 57, 58, 59, 60, 61, 62, 63, 64, 65, 66, 67, 68, 69, 70, 71, 72, 73, 74, 75, 76, 77, 78, 79, 80, 81, 82, 83, 84, 85, 86, 87, 88, 89, 90, 91, 92, 93, 94, 95, 96, 97, 6, 98, 8, 99, 13, 100, 101, 102, 103, 104, 105, 106, 107, 108, 109, 110, 111, 112, 113, 114, 115, 116, 117, 118, 119, 120, 121, 122, 123, 124, 125, 126, 127, 128, 18, 137, 138, 149, 150, 151, 152, 153, 154, 155, 156, 157, 139, 140, 141, 142, 143, 144] (by decide +kernel) (by decide +kernel)
set_option maxRecDepth 20000 in
theorem gX1_takeVariable_X1_gather : GoodIn wsX1_takeVariable (wsV RX1 45 RX1 yX1_gather wsX1_gather) := goodIn_app (goodIn_of _ (by decide +kernel)) ggX1_takeVariable_X1_gather
set_option maxRecDepth 20000 in
theorem ggX1_takeVariable_X1_numbersAside : GoodIn wsX1_takeVariable wsX1_numbersAside := goodIn_r _ [132, 48, 3, 4, 5, 6, 7, 8, 14, 15, 16, 17, 18, 19, 20, 21, 61, 62, 63, 64, 65, 137, 138, 139, 140, 141, 142, 143, 144] (by decide +kernel) (by decide +kernel)
set_option maxRecDepth 20000 in
theorem gX1_takeVariable_X1_numbersAside : GoodIn wsX1_takeVariable (wsV RX1 113 RX1 yX1_numbersAside wsX1_numbersAside) := goodIn_app (goodIn_of _ (by decide +kernel)) ggX1_takeVariable_X1_numbersAside
set_option maxRecDepth 20000 in
theorem ggX1_takeVariable_X1_addEach : GoodIn wsX1_takeVariable wsX1_addEach := goodIn_r _ [136, 1, 64, 20, 65, 118, 119, 120, 6, 121, 99, 122, 13, 123, 124, 137, 138, 139, 140, 141, 142, 143, 144] (by decide +kernel) (by decide +kernel)
set_option maxRecDepth 20000 in
theorem gX1_takeVariable_X1_addEach : GoodIn wsX1_takeVariable (wsV RX1 117 RX1 yX1_addEach wsX1_addEach) := goodIn_app (goodIn_of _ (by decide +kernel)) ggX1_takeVariable_X1_addEach
set_option maxRecDepth 20000 in
theorem ggX1_takeVariable_X6_turn : GoodIn wsX1_takeVariable wsX6_turn := goodIn_r _ [128, 18, 122, 99, 8, 139, 140, 141, 142, 143, 144] (by decide +kernel) (by decide +kernel)
set_option maxRecDepth 20000 in
theorem gX1_takeVariable_X6_turn : GoodIn wsX1_takeVariable (wsV RX1 69 RX6 yX6_turn wsX6_turn) := goodIn_app (goodIn_of _ (by decide +kernel)) ggX1_takeVariable_X6_turn
set_option maxRecDepth 20000 in
theorem ggX1_addEach_X7_cellShift : GoodIn wsX1_addEach wsX7_cellShift := goodIn_r _ [4] (by decide +kernel) (by decide +kernel)
set_option maxRecDepth 20000 in
theorem gX1_addEach_X7_cellShift_n121 : GoodIn wsX1_addEach (wsX7_cellShift) := ggX1_addEach_X7_cellShift
set_option maxRecDepth 20000 in
theorem ggX1_addEach_X6_add : GoodIn wsX1_addEach wsX6_add := goodIn_r _ [9, 10, 11, 12, 13, 3, 14, 17, 18, 19, 20, 21, 22] (by decide +kernel) (by decide +kernel)
set_option maxRecDepth 20000 in
theorem gX1_addEach_X6_add : GoodIn wsX1_addEach (wsV RX1 66 RX6 yX6_add wsX6_add) := goodIn_app (goodIn_of _ (by decide +kernel)) ggX1_addEach_X6_add
set_option maxRecDepth 20000 in
theorem ggX1_numbersAside_X6_size : GoodIn wsX1_numbersAside wsX6_size := goodIn_r _ [6, 7, 23, 24, 25, 26, 27, 28] (by decide +kernel) (by decide +kernel)
set_option maxRecDepth 20000 in
theorem gX1_numbersAside_X6_size : GoodIn wsX1_numbersAside (wsV RX1 58 RX6 yX6_size wsX6_size) := goodIn_app (goodIn_of _ (by decide +kernel)) ggX1_numbersAside_X6_size
set_option maxRecDepth 20000 in
theorem ggX1_numbersAside_X6_row : GoodIn wsX1_numbersAside wsX6_row := goodIn_r _ [11, 12, 13, 14, 15, 23, 24, 25, 26, 27, 28] (by decide +kernel) (by decide +kernel)
set_option maxRecDepth 20000 in
theorem gX1_numbersAside_X6_row : GoodIn wsX1_numbersAside (wsV RX1 63 RX6 yX6_row wsX6_row) := goodIn_app (goodIn_of _ (by decide +kernel)) ggX1_numbersAside_X6_row
set_option maxRecDepth 20000 in
theorem ggX1_numbersAside_X7_cellOf : GoodIn wsX1_numbersAside wsX7_cellOf := goodIn_r _ [17, 18, 19, 14, 20] (by decide +kernel) (by decide +kernel)
set_option maxRecDepth 20000 in
theorem gX1_numbersAside_X7_cellOf_n124 : GoodIn wsX1_numbersAside (wsX7_cellOf) := ggX1_numbersAside_X7_cellOf
set_option maxRecDepth 20000 in
theorem ggX1_loop_X6_beginWithNothingBound : GoodIn wsX1_loop wsX6_beginWithNothingBound := goodIn_r _ [6, 7, 8, 9, 5, 10, 11, 12, 13, 14, 15, 16, 17, 18, 19, 20, 21, 22, 23, 24, 25, 26, 112, 113, 114, 115, 116, 117] (by decide +kernel) (by decide +kernel)
set_option maxRecDepth 20000 in
theorem gX1_loop_X6_beginWithNothingBound : GoodIn wsX1_loop (wsV RX1 23 RX6 yX6_beginWithNothingBound wsX6_beginWithNothingBound) := goodIn_app (goodIn_of _ (by decide +kernel)) ggX1_loop_X6_beginWithNothingBound
set_option maxRecDepth 20000 in
theorem ggX1_loop_X3_size : GoodIn wsX1_loop wsX3_size := goodIn_r _ [31, 32, 118, 119, 120, 121] (by decide +kernel) (by decide +kernel)
set_option maxRecDepth 20000 in
theorem gX1_loop_X3_size : GoodIn wsX1_loop (wsV RX1 26 RX3 yX3_size wsX3_size) := goodIn_app (goodIn_of _ (by decide +kernel)) ggX1_loop_X3_size
set_option maxRecDepth 20000 in
theorem ggX1_loop_X3_pattern : GoodIn wsX1_loop wsX3_pattern := goodIn_r _ [36, 37, 38, 39, 118, 119, 120, 121] (by decide +kernel) (by decide +kernel)
set_option maxRecDepth 20000 in
theorem gX1_loop_X3_pattern : GoodIn wsX1_loop (wsV RX1 36 RX3 yX3_pattern wsX3_pattern) := goodIn_app (goodIn_of _ (by decide +kernel)) ggX1_loop_X3_pattern
set_option maxRecDepth 20000 in
theorem ggX1_loop_X6_size : GoodIn wsX1_loop wsX6_size := goodIn_r _ [43, 11, 112, 113, 114, 115, 116, 117] (by decide +kernel) (by decide +kernel)
set_option maxRecDepth 20000 in
theorem gX1_loop_X6_size : GoodIn wsX1_loop (wsV RX1 58 RX6 yX6_size wsX6_size) := goodIn_app (goodIn_of _ (by decide +kernel)) ggX1_loop_X6_size
set_option maxRecDepth 20000 in
theorem ggX1_loop_X6_isOver : GoodIn wsX1_loop wsX6_isOver := goodIn_r _ [47, 13, 112, 113, 114, 115, 116, 117] (by decide +kernel) (by decide +kernel)
set_option maxRecDepth 20000 in
theorem gX1_loop_X6_isOver : GoodIn wsX1_loop (wsV RX1 59 RX6 yX6_isOver wsX6_isOver) := goodIn_app (goodIn_of _ (by decide +kernel)) ggX1_loop_X6_isOver
set_option maxRecDepth 20000 in
theorem ggX1_loop_X6_row : GoodIn wsX1_loop wsX6_row := goodIn_r _ [51, 26, 52, 20, 53, 112, 113, 114, 115, 116, 117] (by decide +kernel) (by decide +kernel)
set_option maxRecDepth 20000 in
theorem gX1_loop_X6_row : GoodIn wsX1_loop (wsV RX1 63 RX6 yX6_row wsX6_row) := goodIn_app (goodIn_of _ (by decide +kernel)) ggX1_loop_X6_row
set_option maxRecDepth 20000 in
theorem ggX1_loop_X1_tryAllTriples : GoodIn wsX1_loop wsX1_tryAllTriples := goodIn_r _ [58, 1, 59, 60, 61, 62, 63, 64, 52, 20, 53, 65, 66, 67, 68, 69, 70, 71, 72, 73, 74, 75, 76, 77, 78, 79, 80, 81, 82, 83, 84, 85, 86, 87, 88, 89, 90, 91, 92, 93, 94, 95, 96, 97, 98, 99, 100, 101, 102, 103, 15, 16, 5, 17, 12, 18, 13, 19, 21, 110, 111, 122, 123, 124, 125, 126, 127, 128, 129, 130, 112, 113, 114, 115, 116, 117] (by decide +kernel) (by decide +kernel)
set_option maxRecDepth 20000 in
theorem gX1_loop_X1_tryAllTriples : GoodIn wsX1_loop (wsV RX1 127 RX1 yX1_tryAllTriples wsX1_tryAllTriples) := goodIn_app (goodIn_of _ (by decide +kernel)) ggX1_loop_X1_tryAllTriples
set_option maxRecDepth 20000 in
theorem ggX1_loop_X6_turn : GoodIn wsX1_loop wsX6_turn := goodIn_r _ [25, 26, 18, 12, 11, 112, 113, 114, 115, 116, 117] (by decide +kernel) (by decide +kernel)
set_option maxRecDepth 20000 in
theorem gX1_loop_X6_turn : GoodIn wsX1_loop (wsV RX1 69 RX6 yX6_turn wsX6_turn) := goodIn_app (goodIn_of _ (by decide +kernel)) ggX1_loop_X6_turn
set_option maxRecDepth 20000 in
theorem ggX1_loop_X2_variableBits : GoodIn wsX1_loop wsX2_variableBits := goodIn_r _ [108, 109, 122, 123, 124, 125] (by decide +kernel) (by decide +kernel)
set_option maxRecDepth 20000 in
theorem gX1_loop_X2_variableBits : GoodIn wsX1_loop (wsV RX1 40 RX2 yX2_variableBits wsX2_variableBits) := goodIn_app (goodIn_of _ (by decide +kernel)) ggX1_loop_X2_variableBits
set_option maxRecDepth 20000 in
theorem ggX1_tryAllTriples_X2_maskWith : GoodIn wsX1_tryAllTriples wsX2_maskWith := goodIn_r _ [6, 7, 8, 9, 10, 11, 12, 13, 14, 61, 62, 63, 64] (by decide +kernel) (by decide +kernel)
set_option maxRecDepth 20000 in
theorem gX1_tryAllTriples_X2_maskWith : GoodIn wsX1_tryAllTriples (wsV RX1 72 RX2 yX2_maskWith wsX2_maskWith) := goodIn_app (goodIn_of _ (by decide +kernel)) ggX1_tryAllTriples_X2_maskWith
set_option maxRecDepth 20000 in
theorem ggX1_tryAllTriples_X2_valueWith : GoodIn wsX1_tryAllTriples wsX2_valueWith := goodIn_r _ [18, 7, 19, 8, 9, 10, 13, 14, 11, 12, 20, 21, 22, 23, 24, 61, 62, 63, 64] (by decide +kernel) (by decide +kernel)
set_option maxRecDepth 20000 in
theorem gX1_tryAllTriples_X2_valueWith : GoodIn wsX1_tryAllTriples (wsV RX1 75 RX2 yX2_valueWith wsX2_valueWith) := goodIn_app (goodIn_of _ (by decide +kernel)) ggX1_tryAllTriples_X2_valueWith
set_option maxRecDepth 20000 in
theorem ggX1_tryAllTriples_X5_all : GoodIn wsX1_tryAllTriples wsX5_all := goodIn_r _ [29, 30, 65, 66, 67] (by decide +kernel) (by decide +kernel)
set_option maxRecDepth 20000 in
theorem gX1_tryAllTriples_X5_all : GoodIn wsX1_tryAllTriples (wsV RX1 130 RX5 yX5_all wsX5_all) := goodIn_app (goodIn_of _ (by decide +kernel)) ggX1_tryAllTriples_X5_all
set_option maxRecDepth 20000 in
theorem ggX1_tryAllTriples_X4_size : GoodIn wsX1_tryAllTriples wsX4_size := goodIn_r _ [35, 36, 68, 69] (by decide +kernel) (by decide +kernel)
set_option maxRecDepth 20000 in
theorem gX1_tryAllTriples_X4_size : GoodIn wsX1_tryAllTriples (wsV RX1 134 RX4 yX4_size wsX4_size) := goodIn_app (goodIn_of _ (by decide +kernel)) ggX1_tryAllTriples_X4_size
set_option maxRecDepth 20000 in
theorem ggX1_tryAllTriples_X4_key : GoodIn wsX1_tryAllTriples wsX4_key := goodIn_r _ [40, 41, 8, 9, 10, 68, 69] (by decide +kernel) (by decide +kernel)
set_option maxRecDepth 20000 in
theorem gX1_tryAllTriples_X4_key : GoodIn wsX1_tryAllTriples (wsV RX1 137 RX4 yX4_key wsX4_key) := goodIn_app (goodIn_of _ (by decide +kernel)) ggX1_tryAllTriples_X4_key
set_option maxRecDepth 20000 in
theorem ggX1_tryAllTriples_X2_widen : GoodIn wsX1_tryAllTriples wsX2_widen := goodIn_r _ [45, 7, 8, 9, 10, 46, 47, 48, 13, 14, 11, 12, 23, 24, 20, 21, 22, 61, 62, 63, 64] (by decide +kernel) (by decide +kernel)
set_option maxRecDepth 20000 in
theorem gX1_tryAllTriples_X2_widen : GoodIn wsX1_tryAllTriples (wsV RX1 97 RX2 yX2_widen wsX2_widen) := goodIn_app (goodIn_of _ (by decide +kernel)) ggX1_tryAllTriples_X2_widen
set_option maxRecDepth 20000 in
theorem ggX1_tryAllTriples_X6_add : GoodIn wsX1_tryAllTriples wsX6_add := goodIn_r _ [53, 54, 55, 56, 57, 9, 58, 70, 71, 72, 73, 74, 75] (by decide +kernel) (by decide +kernel)
set_option maxRecDepth 20000 in
theorem gX1_tryAllTriples_X6_add : GoodIn wsX1_tryAllTriples (wsV RX1 66 RX6 yX6_add wsX6_add) := goodIn_app (goodIn_of _ (by decide +kernel)) ggX1_tryAllTriples_X6_add
set_option maxRecDepth 20000 in
theorem ggX2_tell_X7_put : GoodIn wsX2_tell wsX7_put := goodIn_r _ [5] (by decide +kernel) (by decide +kernel)
set_option maxRecDepth 20000 in
theorem gX2_tell_X7_put_n25 : GoodIn wsX2_tell (wsX7_put) := ggX2_tell_X7_put
set_option maxRecDepth 20000 in
theorem ggX2_tell_X2_bitOf : GoodIn wsX2_tell wsX2_bitOf := goodIn_r _ [10] (by decide +kernel) (by decide +kernel)
set_option maxRecDepth 20000 in
theorem gX2_tell_X2_bitOf : GoodIn wsX2_tell (wsV RX2 29 RX2 yX2_bitOf wsX2_bitOf) := goodIn_app (goodIn_of _ (by decide +kernel)) ggX2_tell_X2_bitOf
set_option maxRecDepth 20000 in
theorem ggX2_part_X7_at : GoodIn wsX2_part wsX7_at := goodIn_r _ [4] (by decide +kernel) (by decide +kernel)
set_option maxRecDepth 20000 in
theorem gX2_part_X7_at_n33 : GoodIn wsX2_part (wsX7_at) := ggX2_part_X7_at
set_option maxRecDepth 20000 in
theorem ggX2_look_X7_at : GoodIn wsX2_look wsX7_at := goodIn_r _ [6] (by decide +kernel) (by decide +kernel)
set_option maxRecDepth 20000 in
theorem gX2_look_X7_at_n33 : GoodIn wsX2_look (wsX7_at) := ggX2_look_X7_at
set_option maxRecDepth 20000 in
theorem ggX2_look_X0_number : GoodIn wsX2_look wsX0_number := goodIn_r _ [11, 12, 13, 14, 15, 10, 16, 4, 5, 6, 88, 89, 90] (by decide +kernel) (by decide +kernel)
set_option maxRecDepth 20000 in
theorem gX2_look_X0_number : GoodIn wsX2_look (wsV RX2 37 RX0 yX0_number wsX0_number) := goodIn_app (goodIn_of _ (by decide +kernel)) ggX2_look_X0_number
set_option maxRecDepth 20000 in
theorem ggX2_look_X7_put : GoodIn wsX2_look wsX7_put := goodIn_r _ [18] (by decide +kernel) (by decide +kernel)
set_option maxRecDepth 20000 in
theorem gX2_look_X7_put_n25 : GoodIn wsX2_look (wsX7_put) := ggX2_look_X7_put
set_option maxRecDepth 20000 in
theorem ggX2_look_X2_maskWith : GoodIn wsX2_look wsX2_maskWith := goodIn_r _ [23, 2, 4, 5, 6, 24, 25, 26, 27, 84, 85, 86, 87] (by decide +kernel) (by decide +kernel)
set_option maxRecDepth 20000 in
theorem gX2_look_X2_maskWith : GoodIn wsX2_look (wsV RX2 42 RX2 yX2_maskWith wsX2_maskWith) := goodIn_app (goodIn_of _ (by decide +kernel)) ggX2_look_X2_maskWith
set_option maxRecDepth 20000 in
theorem ggX2_look_X2_valueWith : GoodIn wsX2_look wsX2_valueWith := goodIn_r _ [31, 2, 1, 4, 5, 6, 26, 27, 24, 25, 32, 33, 34, 35, 36, 84, 85, 86, 87] (by decide +kernel) (by decide +kernel)
set_option maxRecDepth 20000 in
theorem gX2_look_X2_valueWith : GoodIn wsX2_look (wsV RX2 45 RX2 yX2_valueWith wsX2_valueWith) := goodIn_app (goodIn_of _ (by decide +kernel)) ggX2_look_X2_valueWith
set_option maxRecDepth 20000 in
theorem ggX2_look_X7_orderOf : GoodIn wsX2_look wsX7_orderOf := goodIn_r _ [38, 39, 40, 5, 41, 42, 26, 27] (by decide +kernel) (by decide +kernel)
set_option maxRecDepth 20000 in
theorem gX2_look_X7_orderOf_n49 : GoodIn wsX2_look (wsX7_orderOf) := ggX2_look_X7_orderOf
set_option maxRecDepth 20000 in
theorem ggX2_look_X5_end : GoodIn wsX2_look wsX5_end := goodIn_r _ [47, 48, 49, 50, 51, 46, 52, 53, 54, 55, 56, 5, 57, 58, 59, 60, 61, 62, 63, 64, 65, 4, 6, 91, 92, 93, 94, 95] (by decide +kernel) (by decide +kernel)
set_option maxRecDepth 20000 in
theorem gX2_look_X5_end : GoodIn wsX2_look (wsV RX2 52 RX5 yX5_end wsX5_end) := goodIn_app (goodIn_of _ (by decide +kernel)) ggX2_look_X5_end
set_option maxRecDepth 20000 in
theorem ggX2_look_X5_begin : GoodIn wsX2_look wsX5_begin := goodIn_r _ [69, 49, 50, 51, 46, 52, 53, 54, 55, 56, 5, 57, 58, 59, 60, 61, 62, 63, 64, 65, 4, 6, 91, 92, 93, 94, 95] (by decide +kernel) (by decide +kernel)
set_option maxRecDepth 20000 in
theorem gX2_look_X5_begin : GoodIn wsX2_look (wsV RX2 58 RX5 yX5_begin wsX5_begin) := goodIn_app (goodIn_of _ (by decide +kernel)) ggX2_look_X5_begin
set_option maxRecDepth 20000 in
theorem ggX2_look_X5_triple : GoodIn wsX2_look wsX5_triple := goodIn_r _ [73, 49, 50, 51, 46, 52, 53, 54, 55, 74, 75, 76, 62, 77, 65, 4, 5, 6, 78, 79, 58, 91, 92, 93, 94, 95] (by decide +kernel) (by decide +kernel)
set_option maxRecDepth 20000 in
theorem gX2_look_X5_triple : GoodIn wsX2_look (wsV RX2 61 RX5 yX5_triple wsX5_triple) := goodIn_app (goodIn_of _ (by decide +kernel)) ggX2_look_X5_triple
set_option maxRecDepth 20000 in
theorem ggX2_look_X2_widen : GoodIn wsX2_look wsX2_widen := goodIn_r _ [83, 2, 4, 5, 6, 40, 41, 42, 26, 27, 24, 25, 35, 36, 32, 33, 34, 84, 85, 86, 87] (by decide +kernel) (by decide +kernel)
set_option maxRecDepth 20000 in
theorem gX2_look_X2_widen : GoodIn wsX2_look (wsV RX2 64 RX2 yX2_widen wsX2_widen) := goodIn_app (goodIn_of _ (by decide +kernel)) ggX2_look_X2_widen
set_option maxRecDepth 20000 in
theorem ggX2_maskWith_X7_at : GoodIn wsX2_maskWith wsX7_at := goodIn_r _ [4] (by decide +kernel) (by decide +kernel)
set_option maxRecDepth 20000 in
theorem gX2_maskWith_X7_at_n33 : GoodIn wsX2_maskWith (wsX7_at) := ggX2_maskWith_X7_at
set_option maxRecDepth 20000 in
theorem ggX2_maskWith_X7_hasBit : GoodIn wsX2_maskWith wsX7_hasBit := goodIn_r _ [6] (by decide +kernel) (by decide +kernel)
set_option maxRecDepth 20000 in
theorem gX2_maskWith_X7_hasBit_n67 : GoodIn wsX2_maskWith (wsX7_hasBit) := ggX2_maskWith_X7_hasBit
set_option maxRecDepth 20000 in
theorem ggX2_maskWith_X7_partShift : GoodIn wsX2_maskWith wsX7_partShift := goodIn_r _ [8] (by decide +kernel) (by decide +kernel)
set_option maxRecDepth 20000 in
theorem gX2_maskWith_X7_partShift_n71 : GoodIn wsX2_maskWith (wsX7_partShift) := ggX2_maskWith_X7_partShift
set_option maxRecDepth 20000 in
theorem ggX2_valueWith_X7_at : GoodIn wsX2_valueWith wsX7_at := goodIn_r _ [5] (by decide +kernel) (by decide +kernel)
set_option maxRecDepth 20000 in
theorem gX2_valueWith_X7_at_n33 : GoodIn wsX2_valueWith (wsX7_at) := ggX2_valueWith_X7_at
set_option maxRecDepth 20000 in
theorem ggX2_valueWith_X7_partShift : GoodIn wsX2_valueWith wsX7_partShift := goodIn_r _ [7] (by decide +kernel) (by decide +kernel)
set_option maxRecDepth 20000 in
theorem gX2_valueWith_X7_partShift_n71 : GoodIn wsX2_valueWith (wsX7_partShift) := ggX2_valueWith_X7_partShift
set_option maxRecDepth 20000 in
theorem ggX2_valueWith_X7_hasBit : GoodIn wsX2_valueWith wsX7_hasBit := goodIn_r _ [9] (by decide +kernel) (by decide +kernel)
set_option maxRecDepth 20000 in
theorem gX2_valueWith_X7_hasBit_n67 : GoodIn wsX2_valueWith (wsX7_hasBit) := ggX2_valueWith_X7_hasBit
set_option maxRecDepth 20000 in
theorem ggX2_valueWith_X7_cellOf : GoodIn wsX2_valueWith wsX7_cellOf := goodIn_r _ [11, 12, 13, 4, 14] (by decide +kernel) (by decide +kernel)
set_option maxRecDepth 20000 in
theorem gX2_valueWith_X7_cellOf_n74 : GoodIn wsX2_valueWith (wsX7_cellOf) := ggX2_valueWith_X7_cellOf
set_option maxRecDepth 20000 in
theorem ggX2_widen_X7_at : GoodIn wsX2_widen wsX7_at := goodIn_r _ [4] (by decide +kernel) (by decide +kernel)
set_option maxRecDepth 20000 in
theorem gX2_widen_X7_at_n33 : GoodIn wsX2_widen (wsX7_at) := ggX2_widen_X7_at
set_option maxRecDepth 20000 in
theorem ggX2_widen_X7_partOf : GoodIn wsX2_widen wsX7_partOf := goodIn_r _ [6, 7, 8, 3, 9] (by decide +kernel) (by decide +kernel)
set_option maxRecDepth 20000 in
theorem gX2_widen_X7_partOf_n77 : GoodIn wsX2_widen (wsX7_partOf) := ggX2_widen_X7_partOf
set_option maxRecDepth 20000 in
theorem ggX2_widen_X7_hasBit : GoodIn wsX2_widen wsX7_hasBit := goodIn_r _ [11] (by decide +kernel) (by decide +kernel)
set_option maxRecDepth 20000 in
theorem gX2_widen_X7_hasBit_n67 : GoodIn wsX2_widen (wsX7_hasBit) := ggX2_widen_X7_hasBit
set_option maxRecDepth 20000 in
theorem ggX2_widen_X7_cellShift : GoodIn wsX2_widen wsX7_cellShift := goodIn_r _ [13] (by decide +kernel) (by decide +kernel)
set_option maxRecDepth 20000 in
theorem gX2_widen_X7_cellShift_n80 : GoodIn wsX2_widen (wsX7_cellShift) := ggX2_widen_X7_cellShift
set_option maxRecDepth 20000 in
theorem ggX2_widen_X7_cellOf : GoodIn wsX2_widen wsX7_cellOf := goodIn_r _ [15, 16, 12, 3, 13] (by decide +kernel) (by decide +kernel)
set_option maxRecDepth 20000 in
theorem gX2_widen_X7_cellOf_n74 : GoodIn wsX2_widen (wsX7_cellOf) := ggX2_widen_X7_cellOf
set_option maxRecDepth 20000 in
theorem ggX3_init_X2_init : GoodIn wsX3_init wsX2_init := goodIn_r _ [12, 13, 2, 3, 14, 15, 16, 17, 18, 19, 20, 21, 22] (by decide +kernel) (by decide +kernel)
set_option maxRecDepth 20000 in
theorem gX3_init_X2_init_n9 : GoodIn wsX3_init (wsX2_init) := ggX3_init_X2_init
set_option maxRecDepth 20000 in
theorem ggX3_add_X3_pattern : GoodIn wsX3_add wsX3_pattern := goodIn_r _ [6, 7, 8, 9, 24, 25, 26, 27] (by decide +kernel) (by decide +kernel)
set_option maxRecDepth 20000 in
theorem gX3_add_X3_pattern : GoodIn wsX3_add (wsV RX3 26 RX3 yX3_pattern wsX3_pattern) := goodIn_app (goodIn_of _ (by decide +kernel)) ggX3_add_X3_pattern
set_option maxRecDepth 20000 in
theorem ggX3_add_X2_tell : GoodIn wsX3_add wsX2_tell := goodIn_r _ [14, 15, 16, 17, 18, 19, 20, 21, 22, 13, 23, 28, 29, 30, 31] (by decide +kernel) (by decide +kernel)
set_option maxRecDepth 20000 in
theorem gX3_add_X2_tell : GoodIn wsX3_add (wsV RX3 30 RX2 yX2_tell wsX2_tell) := goodIn_app (goodIn_of _ (by decide +kernel)) ggX3_add_X2_tell
set_option maxRecDepth 20000 in
theorem ggX3_look_X3_pattern : GoodIn wsX3_look wsX3_pattern := goodIn_r _ [6, 7, 8, 9, 97, 98, 99, 100] (by decide +kernel) (by decide +kernel)
set_option maxRecDepth 20000 in
theorem gX3_look_X3_pattern : GoodIn wsX3_look (wsV RX3 26 RX3 yX3_pattern wsX3_pattern) := goodIn_app (goodIn_of _ (by decide +kernel)) ggX3_look_X3_pattern
set_option maxRecDepth 20000 in
theorem ggX3_look_X2_look : GoodIn wsX3_look wsX2_look := goodIn_r _ [14, 15, 16, 17, 18, 19, 20, 21, 22, 23, 24, 25, 26, 27, 28, 29, 30, 31, 32, 33, 34, 35, 13, 36, 37, 38, 39, 40, 41, 42, 43, 44, 45, 46, 47, 48, 49, 50, 51, 52, 53, 54, 55, 56, 57, 58, 59, 60, 61, 62, 63, 64, 65, 66, 67, 68, 69, 70, 71, 72, 73, 74, 75, 76, 77, 78, 79, 80, 81, 82, 83, 84, 85, 86, 87, 88, 89, 90, 91, 92, 93, 94, 95, 96, 101, 102, 103, 104, 105, 106, 107, 108, 109, 110, 111, 112] (by decide +kernel) (by decide +kernel)
set_option maxRecDepth 20000 in
theorem gX3_look_X2_look : GoodIn wsX3_look (wsV RX3 34 RX2 yX2_look wsX2_look) := goodIn_app (goodIn_of _ (by decide +kernel)) ggX3_look_X2_look
set_option maxRecDepth 20000 in
theorem ggX3_variableBits_X3_pattern : GoodIn wsX3_variableBits wsX3_pattern := goodIn_r _ [6, 7, 8, 9, 16, 17, 18, 19] (by decide +kernel) (by decide +kernel)
set_option maxRecDepth 20000 in
theorem gX3_variableBits_X3_pattern : GoodIn wsX3_variableBits (wsV RX3 26 RX3 yX3_pattern wsX3_pattern) := goodIn_app (goodIn_of _ (by decide +kernel)) ggX3_variableBits_X3_pattern
set_option maxRecDepth 20000 in
theorem ggX3_variableBits_X2_variableBits : GoodIn wsX3_variableBits wsX2_variableBits := goodIn_r _ [14, 15, 20, 21, 22, 23] (by decide +kernel) (by decide +kernel)
set_option maxRecDepth 20000 in
theorem gX3_variableBits_X2_variableBits : GoodIn wsX3_variableBits (wsV RX3 38 RX2 yX2_variableBits wsX2_variableBits) := goodIn_app (goodIn_of _ (by decide +kernel)) ggX3_variableBits_X2_variableBits
set_option maxRecDepth 20000 in
theorem ggX3_isStar_X2_part : GoodIn wsX3_isStar wsX2_part := goodIn_r _ [7, 8, 9, 10, 11, 23, 24, 25, 26] (by decide +kernel) (by decide +kernel)
set_option maxRecDepth 20000 in
theorem gX3_isStar_X2_part : GoodIn wsX3_isStar (wsV RX3 42 RX2 yX2_part wsX2_part) := goodIn_app (goodIn_of _ (by decide +kernel)) ggX3_isStar_X2_part
set_option maxRecDepth 20000 in
theorem ggX3_isStar_X3_pattern : GoodIn wsX3_isStar wsX3_pattern := goodIn_r _ [16, 17, 18, 2, 19, 20, 21, 22] (by decide +kernel) (by decide +kernel)
set_option maxRecDepth 20000 in
theorem gX3_isStar_X3_pattern : GoodIn wsX3_isStar (wsV RX3 26 RX3 yX3_pattern wsX3_pattern) := goodIn_app (goodIn_of _ (by decide +kernel)) ggX3_isStar_X3_pattern
set_option maxRecDepth 20000 in
theorem ggX3_isChain_X3_pattern : GoodIn wsX3_isChain wsX3_pattern := goodIn_r _ [6, 7, 8, 9, 19, 20, 21, 22] (by decide +kernel) (by decide +kernel)
set_option maxRecDepth 20000 in
theorem gX3_isChain_X3_pattern : GoodIn wsX3_isChain (wsV RX3 26 RX3 yX3_pattern wsX3_pattern) := goodIn_app (goodIn_of _ (by decide +kernel)) ggX3_isChain_X3_pattern
set_option maxRecDepth 20000 in
theorem ggX3_isChain_X2_part : GoodIn wsX3_isChain wsX2_part := goodIn_r _ [14, 15, 16, 17, 18, 23, 24, 25, 26] (by decide +kernel) (by decide +kernel)
set_option maxRecDepth 20000 in
theorem gX3_isChain_X2_part : GoodIn wsX3_isChain (wsV RX3 42 RX2 yX2_part wsX2_part) := goodIn_app (goodIn_of _ (by decide +kernel)) ggX3_isChain_X2_part
set_option maxRecDepth 20000 in
theorem ggX3_hasPatternWithoutMatch_X3_pattern : GoodIn wsX3_hasPatternWithoutMatch wsX3_pattern := goodIn_r _ [6, 7, 8, 9, 16, 17, 18, 19] (by decide +kernel) (by decide +kernel)
set_option maxRecDepth 20000 in
theorem gX3_hasPatternWithoutMatch_X3_pattern : GoodIn wsX3_hasPatternWithoutMatch (wsV RX3 26 RX3 yX3_pattern wsX3_pattern) := goodIn_app (goodIn_of _ (by decide +kernel)) ggX3_hasPatternWithoutMatch_X3_pattern
set_option maxRecDepth 20000 in
theorem ggX3_hasPatternWithoutMatch_X2_found : GoodIn wsX3_hasPatternWithoutMatch wsX2_found := goodIn_r _ [14, 15, 20, 21, 22, 23] (by decide +kernel) (by decide +kernel)
set_option maxRecDepth 20000 in
theorem gX3_hasPatternWithoutMatch_X2_found : GoodIn wsX3_hasPatternWithoutMatch (wsV RX3 46 RX2 yX2_found wsX2_found) := goodIn_app (goodIn_of _ (by decide +kernel)) ggX3_hasPatternWithoutMatch_X2_found
set_option maxRecDepth 20000 in
theorem ggX3_inJoinOrder_X3_bestLeft : GoodIn wsX3_inJoinOrder wsX3_bestLeft := goodIn_r _ [6, 1, 7, 8, 9, 10, 11, 12, 13, 14, 15, 16, 5, 17, 18, 19, 20, 21, 22, 23, 24, 25, 26, 27, 28, 29, 30, 31, 32, 33, 34, 35, 36, 37, 38, 39, 40, 41, 42, 43] (by decide +kernel) (by decide +kernel)
set_option maxRecDepth 20000 in
theorem gX3_inJoinOrder_X3_bestLeft : GoodIn wsX3_inJoinOrder (wsV RX3 49 RX3 yX3_bestLeft wsX3_bestLeft) := goodIn_app (goodIn_of _ (by decide +kernel)) ggX3_inJoinOrder_X3_bestLeft
set_option maxRecDepth 20000 in
theorem ggX3_inJoinOrder_X3_pattern : GoodIn wsX3_inJoinOrder wsX3_pattern := goodIn_r _ [21, 22, 23, 24, 36, 37, 38, 39] (by decide +kernel) (by decide +kernel)
set_option maxRecDepth 20000 in
theorem gX3_inJoinOrder_X3_pattern : GoodIn wsX3_inJoinOrder (wsV RX3 26 RX3 yX3_pattern wsX3_pattern) := goodIn_app (goodIn_of _ (by decide +kernel)) ggX3_inJoinOrder_X3_pattern
set_option maxRecDepth 20000 in
theorem ggX3_inJoinOrder_X2_variableBits : GoodIn wsX3_inJoinOrder wsX2_variableBits := goodIn_r _ [29, 30, 40, 41, 42, 43] (by decide +kernel) (by decide +kernel)
set_option maxRecDepth 20000 in
theorem gX3_inJoinOrder_X2_variableBits : GoodIn wsX3_inJoinOrder (wsV RX3 38 RX2 yX2_variableBits wsX2_variableBits) := goodIn_app (goodIn_of _ (by decide +kernel)) ggX3_inJoinOrder_X2_variableBits
set_option maxRecDepth 20000 in
theorem ggX3_bestLeft_X7_hasBit : GoodIn wsX3_bestLeft wsX7_hasBit := goodIn_r _ [8] (by decide +kernel) (by decide +kernel)
set_option maxRecDepth 20000 in
theorem gX3_bestLeft_X7_hasBit_n53 : GoodIn wsX3_bestLeft (wsX7_hasBit) := ggX3_bestLeft_X7_hasBit
set_option maxRecDepth 20000 in
theorem ggX3_bestLeft_X3_goesAhead : GoodIn wsX3_bestLeft wsX3_goesAhead := goodIn_r _ [13, 14, 15, 16, 12, 17, 18, 19, 20, 21, 22, 23, 24, 25, 26, 27, 28, 29, 30, 31, 32, 33, 34, 35, 36, 37, 38, 39] (by decide +kernel) (by decide +kernel)
set_option maxRecDepth 20000 in
theorem gX3_bestLeft_X3_goesAhead : GoodIn wsX3_bestLeft (wsV RX3 59 RX3 yX3_goesAhead wsX3_goesAhead) := goodIn_app (goodIn_of _ (by decide +kernel)) ggX3_bestLeft_X3_goesAhead
set_option maxRecDepth 20000 in
theorem ggX3_goesAhead_X3_pattern : GoodIn wsX3_goesAhead wsX3_pattern := goodIn_r _ [5, 6, 7, 8, 20, 21, 22, 23] (by decide +kernel) (by decide +kernel)
set_option maxRecDepth 20000 in
theorem gX3_goesAhead_X3_pattern : GoodIn wsX3_goesAhead (wsV RX3 26 RX3 yX3_pattern wsX3_pattern) := goodIn_app (goodIn_of _ (by decide +kernel)) ggX3_goesAhead_X3_pattern
set_option maxRecDepth 20000 in
theorem ggX3_goesAhead_X2_variableBits : GoodIn wsX3_goesAhead wsX2_variableBits := goodIn_r _ [13, 14, 24, 25, 26, 27] (by decide +kernel) (by decide +kernel)
set_option maxRecDepth 20000 in
theorem gX3_goesAhead_X2_variableBits : GoodIn wsX3_goesAhead (wsV RX3 38 RX2 yX2_variableBits wsX2_variableBits) := goodIn_app (goodIn_of _ (by decide +kernel)) ggX3_goesAhead_X2_variableBits
set_option maxRecDepth 20000 in
theorem ggX3_goesAhead_X2_found : GoodIn wsX3_goesAhead wsX2_found := goodIn_r _ [18, 19, 24, 25, 26, 27] (by decide +kernel) (by decide +kernel)
set_option maxRecDepth 20000 in
theorem gX3_goesAhead_X2_found : GoodIn wsX3_goesAhead (wsV RX3 46 RX2 yX2_found wsX2_found) := goodIn_app (goodIn_of _ (by decide +kernel)) ggX3_goesAhead_X2_found
set_option maxRecDepth 20000 in
theorem ggX4_key_X7_at : GoodIn wsX4_key wsX7_at := goodIn_r _ [4] (by decide +kernel) (by decide +kernel)
set_option maxRecDepth 20000 in
theorem gX4_key_X7_at_n19 : GoodIn wsX4_key (wsX7_at) := ggX4_key_X7_at
set_option maxRecDepth 20000 in
theorem ggX4_placeOf_X7_at : GoodIn wsX4_placeOf wsX7_at := goodIn_r _ [5] (by decide +kernel) (by decide +kernel)
set_option maxRecDepth 20000 in
theorem gX4_placeOf_X7_at_n19 : GoodIn wsX4_placeOf (wsX7_at) := ggX4_placeOf_X7_at
set_option maxRecDepth 20000 in
theorem ggX4_holds_X4_placeOf : GoodIn wsX4_holds wsX4_placeOf := goodIn_r _ [7, 1, 2, 8, 9, 10, 11, 12] (by decide +kernel) (by decide +kernel)
set_option maxRecDepth 20000 in
theorem gX4_holds_X4_placeOf : GoodIn wsX4_holds (wsV RX4 23 RX4 yX4_placeOf wsX4_placeOf) := goodIn_app (goodIn_of _ (by decide +kernel)) ggX4_holds_X4_placeOf
set_option maxRecDepth 20000 in
theorem ggX4_holds_X7_at : GoodIn wsX4_holds wsX7_at := goodIn_r _ [10] (by decide +kernel) (by decide +kernel)
set_option maxRecDepth 20000 in
theorem gX4_holds_X7_at_n19 : GoodIn wsX4_holds (wsX7_at) := ggX4_holds_X7_at
set_option maxRecDepth 20000 in
theorem ggX4_insert_X4_placeOf : GoodIn wsX4_insert wsX4_placeOf := goodIn_r _ [7, 1, 2, 8, 9, 10, 13, 14] (by decide +kernel) (by decide +kernel)
set_option maxRecDepth 20000 in
theorem gX4_insert_X4_placeOf : GoodIn wsX4_insert (wsV RX4 23 RX4 yX4_placeOf wsX4_placeOf) := goodIn_app (goodIn_of _ (by decide +kernel)) ggX4_insert_X4_placeOf
set_option maxRecDepth 20000 in
theorem ggX4_insert_X7_at : GoodIn wsX4_insert wsX7_at := goodIn_r _ [10] (by decide +kernel) (by decide +kernel)
set_option maxRecDepth 20000 in
theorem gX4_insert_X7_at_n19 : GoodIn wsX4_insert (wsX7_at) := ggX4_insert_X7_at
set_option maxRecDepth 20000 in
theorem ggX4_insert_X7_put : GoodIn wsX4_insert wsX7_put := goodIn_r _ [12] (by decide +kernel) (by decide +kernel)
set_option maxRecDepth 20000 in
theorem gX4_insert_X7_put_n27 : GoodIn wsX4_insert (wsX7_put) := ggX4_insert_X7_put
set_option maxRecDepth 20000 in
theorem ggX4_remove_X4_holds : GoodIn wsX4_remove wsX4_holds := goodIn_r _ [7, 1, 2, 8, 9, 10, 6, 11, 12, 13, 14, 17, 18] (by decide +kernel) (by decide +kernel)
set_option maxRecDepth 20000 in
theorem gX4_remove_X4_holds : GoodIn wsX4_remove (wsV RX4 31 RX4 yX4_holds wsX4_holds) := goodIn_app (goodIn_of _ (by decide +kernel)) ggX4_remove_X4_holds
set_option maxRecDepth 20000 in
theorem ggX4_remove_X4_placeOf : GoodIn wsX4_remove wsX4_placeOf := goodIn_r _ [11, 1, 2, 12, 13, 14, 17, 18] (by decide +kernel) (by decide +kernel)
set_option maxRecDepth 20000 in
theorem gX4_remove_X4_placeOf : GoodIn wsX4_remove (wsV RX4 23 RX4 yX4_placeOf wsX4_placeOf) := goodIn_app (goodIn_of _ (by decide +kernel)) ggX4_remove_X4_placeOf
set_option maxRecDepth 20000 in
theorem ggX4_remove_X7_at : GoodIn wsX4_remove wsX7_at := goodIn_r _ [14] (by decide +kernel) (by decide +kernel)
set_option maxRecDepth 20000 in
theorem gX4_remove_X7_at_n19 : GoodIn wsX4_remove (wsX7_at) := ggX4_remove_X7_at
set_option maxRecDepth 20000 in
theorem ggX4_remove_X7_put : GoodIn wsX4_remove wsX7_put := goodIn_r _ [16] (by decide +kernel) (by decide +kernel)
set_option maxRecDepth 20000 in
theorem gX4_remove_X7_put_n27 : GoodIn wsX4_remove (wsX7_put) := ggX4_remove_X7_put
set_option maxRecDepth 20000 in
theorem ggX5_init_X4_init : GoodIn wsX5_init wsX4_init := goodIn_r _ [11, 12, 2, 3, 13, 14, 15, 16, 17] (by decide +kernel) (by decide +kernel)
set_option maxRecDepth 20000 in
theorem gX5_init_X4_init_n11 : GoodIn wsX5_init (wsX4_init) := ggX5_init_X4_init
set_option maxRecDepth 20000 in
theorem ggX5_size_X4_size : GoodIn wsX5_size wsX4_size := goodIn_r _ [6, 7, 11, 12] (by decide +kernel) (by decide +kernel)
set_option maxRecDepth 20000 in
theorem gX5_size_X4_size : GoodIn wsX5_size (wsV RX5 24 RX4 yX4_size wsX4_size) := goodIn_app (goodIn_of _ (by decide +kernel)) ggX5_size_X4_size
set_option maxRecDepth 20000 in
theorem ggX5_holds_X4_holds : GoodIn wsX5_holds wsX4_holds := goodIn_r _ [6, 7, 8, 9, 10, 11, 5, 12, 13, 14, 15, 19, 20] (by decide +kernel) (by decide +kernel)
set_option maxRecDepth 20000 in
theorem gX5_holds_X4_holds : GoodIn wsX5_holds (wsV RX5 28 RX4 yX4_holds wsX4_holds) := goodIn_app (goodIn_of _ (by decide +kernel)) ggX5_holds_X4_holds
set_option maxRecDepth 20000 in
theorem ggX5_insert_X5_in : GoodIn wsX5_insert wsX5_in := goodIn_r _ [5, 6, 7, 8, 28, 29, 30] (by decide +kernel) (by decide +kernel)
set_option maxRecDepth 20000 in
theorem gX5_insert_X5_in : GoodIn wsX5_insert (wsV RX5 32 RX5 yX5_in wsX5_in) := goodIn_app (goodIn_of _ (by decide +kernel)) ggX5_insert_X5_in
set_option maxRecDepth 20000 in
theorem ggX5_insert_X7_rolled : GoodIn wsX5_insert wsX7_rolled := goodIn_r _ [11, 12] (by decide +kernel) (by decide +kernel)
set_option maxRecDepth 20000 in
theorem gX5_insert_X7_rolled_n36 : GoodIn wsX5_insert (wsX7_rolled) := ggX5_insert_X7_rolled
set_option maxRecDepth 20000 in
theorem ggX5_insert_X4_insert : GoodIn wsX5_insert wsX4_insert := goodIn_r _ [17, 18, 19, 20, 21, 22, 16, 23, 24, 10, 25, 26, 27, 31, 32] (by decide +kernel) (by decide +kernel)
set_option maxRecDepth 20000 in
theorem gX5_insert_X4_insert : GoodIn wsX5_insert (wsV RX5 40 RX4 yX4_insert wsX4_insert) := goodIn_app (goodIn_of _ (by decide +kernel)) ggX5_insert_X4_insert
set_option maxRecDepth 20000 in
theorem ggX5_remove_X5_in : GoodIn wsX5_remove wsX5_in := goodIn_r _ [5, 6, 7, 8, 32, 33, 34] (by decide +kernel) (by decide +kernel)
set_option maxRecDepth 20000 in
theorem gX5_remove_X5_in : GoodIn wsX5_remove (wsV RX5 32 RX5 yX5_in wsX5_in) := goodIn_app (goodIn_of _ (by decide +kernel)) ggX5_remove_X5_in
set_option maxRecDepth 20000 in
theorem ggX5_remove_X7_rolled : GoodIn wsX5_remove wsX7_rolled := goodIn_r _ [11, 12] (by decide +kernel) (by decide +kernel)
set_option maxRecDepth 20000 in
theorem gX5_remove_X7_rolled_n36 : GoodIn wsX5_remove (wsX7_rolled) := ggX5_remove_X7_rolled
set_option maxRecDepth 20000 in
theorem ggX5_remove_X4_remove : GoodIn wsX5_remove wsX4_remove := goodIn_r _ [17, 18, 19, 20, 21, 22, 16, 23, 24, 25, 26, 27, 28, 10, 29, 30, 31, 35, 36] (by decide +kernel) (by decide +kernel)
set_option maxRecDepth 20000 in
theorem gX5_remove_X4_remove : GoodIn wsX5_remove (wsV RX5 44 RX4 yX4_remove wsX4_remove) := goodIn_app (goodIn_of _ (by decide +kernel)) ggX5_remove_X4_remove
set_option maxRecDepth 20000 in
theorem ggX5_triple_X5_in : GoodIn wsX5_triple wsX5_in := goodIn_r _ [5, 6, 7, 8, 21, 22, 23] (by decide +kernel) (by decide +kernel)
set_option maxRecDepth 20000 in
theorem gX5_triple_X5_in : GoodIn wsX5_triple (wsV RX5 32 RX5 yX5_in wsX5_in) := goodIn_app (goodIn_of _ (by decide +kernel)) ggX5_triple_X5_in
set_option maxRecDepth 20000 in
theorem ggX5_triple_X4_key : GoodIn wsX5_triple wsX4_key := goodIn_r _ [13, 14, 15, 16, 17, 24, 25] (by decide +kernel) (by decide +kernel)
set_option maxRecDepth 20000 in
theorem gX5_triple_X4_key : GoodIn wsX5_triple (wsV RX5 47 RX4 yX4_key wsX4_key) := goodIn_app (goodIn_of _ (by decide +kernel)) ggX5_triple_X4_key
set_option maxRecDepth 20000 in
theorem ggX5_triple_X7_rolledBack : GoodIn wsX5_triple wsX7_rolledBack := goodIn_r _ [19, 20] (by decide +kernel) (by decide +kernel)
set_option maxRecDepth 20000 in
theorem gX5_triple_X7_rolledBack_n51 : GoodIn wsX5_triple (wsX7_rolledBack) := ggX5_triple_X7_rolledBack
set_option maxRecDepth 20000 in
theorem ggX5_begin_X5_in : GoodIn wsX5_begin wsX5_in := goodIn_r _ [5, 6, 7, 8, 22, 23, 24] (by decide +kernel) (by decide +kernel)
set_option maxRecDepth 20000 in
theorem gX5_begin_X5_in : GoodIn wsX5_begin (wsV RX5 32 RX5 yX5_in wsX5_in) := goodIn_app (goodIn_of _ (by decide +kernel)) ggX5_begin_X5_in
set_option maxRecDepth 20000 in
theorem ggX5_begin_X7_rolled : GoodIn wsX5_begin wsX7_rolled := goodIn_r _ [11, 12] (by decide +kernel) (by decide +kernel)
set_option maxRecDepth 20000 in
theorem gX5_begin_X7_rolled_n36 : GoodIn wsX5_begin (wsX7_rolled) := ggX5_begin_X7_rolled
set_option maxRecDepth 20000 in
theorem ggX5_begin_X4_placeOf : GoodIn wsX5_begin wsX4_placeOf := goodIn_r _ [17, 18, 19, 20, 10, 21, 25, 26] (by decide +kernel) (by decide +kernel)
set_option maxRecDepth 20000 in
theorem gX5_begin_X4_placeOf : GoodIn wsX5_begin (wsV RX5 54 RX4 yX4_placeOf wsX4_placeOf) := goodIn_app (goodIn_of _ (by decide +kernel)) ggX5_begin_X4_placeOf
set_option maxRecDepth 20000 in
theorem ggX5_end_X5_in : GoodIn wsX5_end wsX5_in := goodIn_r _ [6, 7, 8, 9, 23, 24, 25] (by decide +kernel) (by decide +kernel)
set_option maxRecDepth 20000 in
theorem gX5_end_X5_in : GoodIn wsX5_end (wsV RX5 32 RX5 yX5_in wsX5_in) := goodIn_app (goodIn_of _ (by decide +kernel)) ggX5_end_X5_in
set_option maxRecDepth 20000 in
theorem ggX5_end_X7_rolled : GoodIn wsX5_end wsX7_rolled := goodIn_r _ [12, 13] (by decide +kernel) (by decide +kernel)
set_option maxRecDepth 20000 in
theorem gX5_end_X7_rolled_n36 : GoodIn wsX5_end (wsX7_rolled) := ggX5_end_X7_rolled
set_option maxRecDepth 20000 in
theorem ggX5_end_X4_placeOf : GoodIn wsX5_end wsX4_placeOf := goodIn_r _ [18, 19, 20, 21, 11, 22, 26, 27] (by decide +kernel) (by decide +kernel)
set_option maxRecDepth 20000 in
theorem gX5_end_X4_placeOf : GoodIn wsX5_end (wsV RX5 54 RX4 yX4_placeOf wsX4_placeOf) := goodIn_app (goodIn_of _ (by decide +kernel)) ggX5_end_X4_placeOf
set_option maxRecDepth 20000 in
theorem ggX6_row_X7_at : GoodIn wsX6_row wsX7_at := goodIn_r _ [4] (by decide +kernel) (by decide +kernel)
set_option maxRecDepth 20000 in
theorem gX6_row_X7_at_n38 : GoodIn wsX6_row (wsX7_at) := ggX6_row_X7_at
set_option maxRecDepth 20000 in
theorem ggX6_beginWithNothingBound_X6_beginEmpty : GoodIn wsX6_beginWithNothingBound wsX6_beginEmpty := goodIn_r _ [5, 6, 7, 8, 22, 23, 24, 25, 26, 27] (by decide +kernel) (by decide +kernel)
set_option maxRecDepth 20000 in
theorem gX6_beginWithNothingBound_X6_beginEmpty : GoodIn wsX6_beginWithNothingBound (wsV RX6 42 RX6 yX6_beginEmpty wsX6_beginEmpty) := goodIn_app (goodIn_of _ (by decide +kernel)) ggX6_beginWithNothingBound_X6_beginEmpty
set_option maxRecDepth 20000 in
theorem ggX6_beginWithNothingBound_X6_add : GoodIn wsX6_beginWithNothingBound wsX6_add := goodIn_r _ [12, 7, 13, 8, 14, 15, 16, 22, 23, 24, 25, 26, 27] (by decide +kernel) (by decide +kernel)
set_option maxRecDepth 20000 in
theorem gX6_beginWithNothingBound_X6_add : GoodIn wsX6_beginWithNothingBound (wsV RX6 45 RX6 yX6_add wsX6_add) := goodIn_app (goodIn_of _ (by decide +kernel)) ggX6_beginWithNothingBound_X6_add
set_option maxRecDepth 20000 in
theorem ggX6_beginWithNothingBound_X6_turn : GoodIn wsX6_beginWithNothingBound wsX6_turn := goodIn_r _ [20, 21, 13, 7, 6, 22, 23, 24, 25, 26, 27] (by decide +kernel) (by decide +kernel)
set_option maxRecDepth 20000 in
theorem gX6_beginWithNothingBound_X6_turn : GoodIn wsX6_beginWithNothingBound (wsV RX6 49 RX6 yX6_turn wsX6_turn) := goodIn_app (goodIn_of _ (by decide +kernel)) ggX6_beginWithNothingBound_X6_turn
set_option maxRecDepth 20000 in
theorem ggX6_add_X7_put : GoodIn wsX6_add wsX7_put := goodIn_r _ [6] (by decide +kernel) (by decide +kernel)
set_option maxRecDepth 20000 in
theorem gX6_add_X7_put_n52 : GoodIn wsX6_add (wsX7_put) := ggX6_add_X7_put
set_option maxRecDepth 20000 in
theorem ggX6_sort_X7_hasBit : GoodIn wsX6_sort wsX7_hasBit := goodIn_r _ [3] (by decide +kernel) (by decide +kernel)
set_option maxRecDepth 20000 in
theorem gX6_sort_X7_hasBit_n56 : GoodIn wsX6_sort (wsX7_hasBit) := ggX6_sort_X7_hasBit
set_option maxRecDepth 20000 in
theorem ggX6_sort_X6_sortByOne : GoodIn wsX6_sort wsX6_sortByOne := goodIn_r _ [8, 9, 10, 11, 12, 13, 14, 2, 15, 16, 17, 18, 19, 20, 21, 22, 23, 24, 25, 7, 26, 27, 28, 29, 30, 31, 32] (by decide +kernel) (by decide +kernel)
set_option maxRecDepth 20000 in
theorem gX6_sort_X6_sortByOne : GoodIn wsX6_sort (wsV RX6 60 RX6 yX6_sortByOne wsX6_sortByOne) := goodIn_app (goodIn_of _ (by decide +kernel)) ggX6_sort_X6_sortByOne
set_option maxRecDepth 20000 in
theorem ggX6_sortByOne_X7_put : GoodIn wsX6_sortByOne wsX7_put := goodIn_r _ [8] (by decide +kernel) (by decide +kernel)
set_option maxRecDepth 20000 in
theorem gX6_sortByOne_X7_put_n52 : GoodIn wsX6_sortByOne (wsX7_put) := ggX6_sortByOne_X7_put
set_option maxRecDepth 20000 in
theorem ggX6_sortByOne_X7_at : GoodIn wsX6_sortByOne wsX7_at := goodIn_r _ [10] (by decide +kernel) (by decide +kernel)
set_option maxRecDepth 20000 in
theorem gX6_sortByOne_X7_at_n38 : GoodIn wsX6_sortByOne (wsX7_at) := ggX6_sortByOne_X7_at
set_option maxRecDepth 20000 in
theorem ggX6_sortByOne_X7_cellOf : GoodIn wsX6_sortByOne wsX7_cellOf := goodIn_r _ [12, 13, 14, 7, 15] (by decide +kernel) (by decide +kernel)
set_option maxRecDepth 20000 in
theorem gX6_sortByOne_X7_cellOf_n63 : GoodIn wsX6_sortByOne (wsX7_cellOf) := ggX6_sortByOne_X7_cellOf
set_option maxRecDepth 20000 in
theorem ggX6_sortByOne_X6_turn : GoodIn wsX6_sortByOne wsX6_turn := goodIn_r _ [20, 3, 4, 5, 2, 21, 22, 23, 24, 25, 26] (by decide +kernel) (by decide +kernel)
set_option maxRecDepth 20000 in
theorem gX6_sortByOne_X6_turn : GoodIn wsX6_sortByOne (wsV RX6 49 RX6 yX6_turn wsX6_turn) := goodIn_app (goodIn_of _ (by decide +kernel)) ggX6_sortByOne_X6_turn
set_option maxRecDepth 20000 in
theorem ggX7_init_X0_init : GoodIn wsX7_init wsX0_init := goodIn_r _ [25, 26, 2, 3, 20, 27, 28, 29, 83, 84, 85] (by decide +kernel) (by decide +kernel)
set_option maxRecDepth 20000 in
theorem gX7_init_X0_init_n9 : GoodIn wsX7_init (wsX0_init) := ggX7_init_X0_init
set_option maxRecDepth 20000 in
theorem ggX7_init_X5_init : GoodIn wsX7_init wsX5_init := goodIn_r _ [31, 32, 2, 3, 33, 34, 35, 36, 37, 38, 39, 40, 41, 20, 42, 43, 102, 103, 93, 94, 95] (by decide +kernel) (by decide +kernel)
set_option maxRecDepth 20000 in
theorem gX7_init_X5_init_n18 : GoodIn wsX7_init (wsX5_init) := ggX7_init_X5_init
set_option maxRecDepth 20000 in
theorem ggX7_init_X3_init : GoodIn wsX7_init wsX3_init := goodIn_r _ [45, 46, 2, 3, 47, 48, 49, 50, 51, 52, 53, 54, 55, 56, 20, 57, 58, 59, 60, 104, 105, 106, 107, 96, 97, 98, 99] (by decide +kernel) (by decide +kernel)
set_option maxRecDepth 20000 in
theorem gX7_init_X3_init_n25 : GoodIn wsX7_init (wsX3_init) := ggX7_init_X3_init
set_option maxRecDepth 20000 in
theorem ggX7_init_X1_init : GoodIn wsX7_init wsX1_init := goodIn_r _ [62, 63, 2, 3, 64, 65, 66, 67, 68, 69, 70, 71, 72, 20, 73, 74, 75, 76, 77, 78, 79, 80, 81, 82, 108, 109, 110, 111, 112, 113, 100, 101] (by decide +kernel) (by decide +kernel)
set_option maxRecDepth 20000 in
theorem gX7_init_X1_init_n32 : GoodIn wsX7_init (wsX1_init) := ggX7_init_X1_init
set_option maxRecDepth 20000 in
theorem ggX7_state_X7_isTerm : GoodIn wsX7_state wsX7_isTerm := goodIn_r _ [10] (by decide +kernel) (by decide +kernel)
set_option maxRecDepth 20000 in
theorem gX7_state_X7_isTerm : GoodIn wsX7_state (va_wsS RX7 48 yX7_isTerm wsX7_isTerm) := goodIn_app (goodIn_of _ (by decide +kernel)) ggX7_state_X7_isTerm
set_option maxRecDepth 20000 in
theorem ggX7_state_X0_pack : GoodIn wsX7_state wsX0_pack := goodIn_r _ [15, 16, 17, 18, 14, 19, 20, 21, 22, 23, 24, 25, 9, 26, 27, 28, 90, 91, 92] (by decide +kernel) (by decide +kernel)
set_option maxRecDepth 20000 in
theorem gX7_state_X0_pack : GoodIn wsX7_state (wsV RX7 59 RX0 yX0_pack wsX0_pack) := goodIn_app (goodIn_of _ (by decide +kernel)) ggX7_state_X0_pack
set_option maxRecDepth 20000 in
theorem ggX7_state_X5_holds : GoodIn wsX7_state wsX5_holds := goodIn_r _ [33, 34, 35, 36, 37, 38, 39, 40, 41, 42, 43, 44, 45, 25, 9, 26, 93, 94, 95, 96, 97] (by decide +kernel) (by decide +kernel)
set_option maxRecDepth 20000 in
theorem gX7_state_X5_holds : GoodIn wsX7_state (wsV RX7 63 RX5 yX5_holds wsX5_holds) := goodIn_app (goodIn_of _ (by decide +kernel)) ggX7_state_X5_holds
set_option maxRecDepth 20000 in
theorem ggX7_state_X5_size : GoodIn wsX7_state wsX5_size := goodIn_r _ [49, 34, 50, 51, 52, 38, 53, 40, 93, 94, 95, 96, 97] (by decide +kernel) (by decide +kernel)
set_option maxRecDepth 20000 in
theorem gX7_state_X5_size : GoodIn wsX7_state (wsV RX7 66 RX5 yX5_size wsX5_size) := goodIn_app (goodIn_of _ (by decide +kernel)) ggX7_state_X5_size
set_option maxRecDepth 20000 in
theorem ggX7_state_X0_sizeWith : GoodIn wsX7_state wsX0_sizeWith := goodIn_r _ [57, 58, 21, 22, 23, 14, 24, 20, 25, 9, 26, 90, 91, 92] (by decide +kernel) (by decide +kernel)
set_option maxRecDepth 20000 in
theorem gX7_state_X0_sizeWith : GoodIn wsX7_state (wsV RX7 75 RX0 yX0_sizeWith wsX0_sizeWith) := goodIn_app (goodIn_of _ (by decide +kernel)) ggX7_state_X0_sizeWith
set_option maxRecDepth 20000 in
theorem ggX7_state_X0_learn : GoodIn wsX7_state wsX0_learn := goodIn_r _ [62, 58, 63, 20, 21, 22, 23, 14, 24, 25, 9, 26, 64, 65, 90, 91, 92] (by decide +kernel) (by decide +kernel)
set_option maxRecDepth 20000 in
theorem gX7_state_X0_learn : GoodIn wsX7_state (wsV RX7 80 RX0 yX0_learn wsX0_learn) := goodIn_app (goodIn_of _ (by decide +kernel)) ggX7_state_X0_learn
set_option maxRecDepth 20000 in
theorem ggX7_state_X5_insert : GoodIn wsX7_state wsX5_insert := goodIn_r _ [69, 70, 71, 72, 32, 73, 74, 75, 34, 76, 9, 77, 78, 79, 80, 81, 38, 82, 40, 41, 42, 43, 44, 45, 25, 26, 64, 65, 93, 94, 95, 96, 97] (by decide +kernel) (by decide +kernel)
set_option maxRecDepth 20000 in
theorem gX7_state_X5_insert : GoodIn wsX7_state (wsV RX7 84 RX5 yX5_insert wsX5_insert) := goodIn_app (goodIn_of _ (by decide +kernel)) ggX7_state_X5_insert
set_option maxRecDepth 20000 in
theorem ggX7_takeBack_X7_isTerm : GoodIn wsX7_takeBack wsX7_isTerm := goodIn_r _ [8] (by decide +kernel) (by decide +kernel)
set_option maxRecDepth 20000 in
theorem gX7_takeBack_X7_isTerm : GoodIn wsX7_takeBack (va_wsS RX7 48 yX7_isTerm wsX7_isTerm) := goodIn_app (goodIn_of _ (by decide +kernel)) ggX7_takeBack_X7_isTerm
set_option maxRecDepth 20000 in
theorem ggX7_takeBack_X0_pack : GoodIn wsX7_takeBack wsX0_pack := goodIn_r _ [13, 14, 15, 16, 12, 17, 18, 19, 20, 21, 22, 23, 7, 24, 25, 26, 71, 72, 73] (by decide +kernel) (by decide +kernel)
set_option maxRecDepth 20000 in
theorem gX7_takeBack_X0_pack : GoodIn wsX7_takeBack (wsV RX7 59 RX0 yX0_pack wsX0_pack) := goodIn_app (goodIn_of _ (by decide +kernel)) ggX7_takeBack_X0_pack
set_option maxRecDepth 20000 in
theorem ggX7_takeBack_X5_holds : GoodIn wsX7_takeBack wsX5_holds := goodIn_r _ [31, 32, 33, 34, 35, 36, 37, 38, 39, 40, 41, 42, 43, 23, 7, 24, 74, 75, 76, 77, 78] (by decide +kernel) (by decide +kernel)
set_option maxRecDepth 20000 in
theorem gX7_takeBack_X5_holds : GoodIn wsX7_takeBack (wsV RX7 63 RX5 yX5_holds wsX5_holds) := goodIn_app (goodIn_of _ (by decide +kernel)) ggX7_takeBack_X5_holds
set_option maxRecDepth 20000 in
theorem ggX7_takeBack_X5_remove : GoodIn wsX7_takeBack wsX5_remove := goodIn_r _ [47, 48, 49, 50, 30, 51, 52, 53, 32, 54, 7, 55, 56, 57, 58, 59, 36, 60, 38, 39, 61, 34, 35, 37, 40, 41, 42, 43, 23, 24, 62, 63, 74, 75, 76, 77, 78] (by decide +kernel) (by decide +kernel)
set_option maxRecDepth 20000 in
theorem gX7_takeBack_X5_remove : GoodIn wsX7_takeBack (wsV RX7 87 RX5 yX5_remove wsX5_remove) := goodIn_app (goodIn_of _ (by decide +kernel)) ggX7_takeBack_X5_remove
set_option maxRecDepth 20000 in
theorem ggX7_triples_X5_size : GoodIn wsX7_triples wsX5_size := goodIn_r _ [6, 7, 8, 9, 10, 11, 12, 13, 21, 22, 23, 24, 25] (by decide +kernel) (by decide +kernel)
set_option maxRecDepth 20000 in
theorem gX7_triples_X5_size : GoodIn wsX7_triples (wsV RX7 66 RX5 yX5_size wsX5_size) := goodIn_app (goodIn_of _ (by decide +kernel)) ggX7_triples_X5_size
set_option maxRecDepth 20000 in
theorem ggX7_termAt_X7_isOrder : GoodIn wsX7_termAt wsX7_isOrder := goodIn_r _ [10] (by decide +kernel) (by decide +kernel)
set_option maxRecDepth 20000 in
theorem gX7_termAt_X7_isOrder : GoodIn wsX7_termAt (va_wsS RX7 90 yX7_isOrder wsX7_isOrder) := goodIn_app (goodIn_of _ (by decide +kernel)) ggX7_termAt_X7_isOrder
set_option maxRecDepth 20000 in
theorem ggX7_termAt_X5_size : GoodIn wsX7_termAt wsX5_size := goodIn_r _ [15, 16, 17, 18, 19, 20, 21, 22, 62, 63, 64, 65, 66] (by decide +kernel) (by decide +kernel)
set_option maxRecDepth 20000 in
theorem gX7_termAt_X5_size : GoodIn wsX7_termAt (wsV RX7 66 RX5 yX5_size wsX5_size) := goodIn_app (goodIn_of _ (by decide +kernel)) ggX7_termAt_X5_size
set_option maxRecDepth 20000 in
theorem ggX7_termAt_X5_triple : GoodIn wsX7_termAt wsX5_triple := goodIn_r _ [26, 27, 28, 29, 14, 30, 31, 32, 16, 33, 34, 35, 20, 36, 37, 38, 9, 39, 40, 41, 42, 62, 63, 64, 65, 66] (by decide +kernel) (by decide +kernel)
set_option maxRecDepth 20000 in
theorem gX7_termAt_X5_triple : GoodIn wsX7_termAt (wsV RX7 102 RX5 yX5_triple wsX5_triple) := goodIn_app (goodIn_of _ (by decide +kernel)) ggX7_termAt_X5_triple
set_option maxRecDepth 20000 in
theorem ggX7_termAt_X7_partOf : GoodIn wsX7_termAt wsX7_partOf := goodIn_r _ [45, 46, 47, 9, 48] (by decide +kernel) (by decide +kernel)
set_option maxRecDepth 20000 in
theorem gX7_termAt_X7_partOf : GoodIn wsX7_termAt (va_wsS RX7 106 yX7_partOf wsX7_partOf) := goodIn_app (goodIn_of _ (by decide +kernel)) ggX7_termAt_X7_partOf
set_option maxRecDepth 20000 in
theorem ggX7_termAt_X0_term : GoodIn wsX7_termAt wsX0_term := goodIn_r _ [53, 54, 38, 9, 39, 67, 68, 69] (by decide +kernel) (by decide +kernel)
set_option maxRecDepth 20000 in
theorem gX7_termAt_X0_term : GoodIn wsX7_termAt (wsV RX7 109 RX0 yX0_term wsX0_term) := goodIn_app (goodIn_of _ (by decide +kernel)) ggX7_termAt_X0_term
set_option maxRecDepth 20000 in
theorem ggX7_terms_X0_size : GoodIn wsX7_terms wsX0_size := goodIn_r _ [6, 7, 15, 16, 17] (by decide +kernel) (by decide +kernel)
set_option maxRecDepth 20000 in
theorem gX7_terms_X0_size : GoodIn wsX7_terms (wsV RX7 113 RX0 yX0_size wsX0_size) := goodIn_app (goodIn_of _ (by decide +kernel)) ggX7_terms_X0_size
set_option maxRecDepth 20000 in
theorem ggX7_numberOf_X7_isTerm : GoodIn wsX7_numberOf wsX7_isTerm := goodIn_r _ [7] (by decide +kernel) (by decide +kernel)
set_option maxRecDepth 20000 in
theorem gX7_numberOf_X7_isTerm : GoodIn wsX7_numberOf (va_wsS RX7 48 yX7_isTerm wsX7_isTerm) := goodIn_app (goodIn_of _ (by decide +kernel)) ggX7_numberOf_X7_isTerm
set_option maxRecDepth 20000 in
theorem ggX7_numberOf_X0_knows : GoodIn wsX7_numberOf wsX0_knows := goodIn_r _ [12, 13, 14, 6, 15, 28, 29, 30] (by decide +kernel) (by decide +kernel)
set_option maxRecDepth 20000 in
theorem gX7_numberOf_X0_knows : GoodIn wsX7_numberOf (wsV RX7 114 RX0 yX0_knows wsX0_knows) := goodIn_app (goodIn_of _ (by decide +kernel)) ggX7_numberOf_X0_knows
set_option maxRecDepth 20000 in
theorem ggX7_numberOf_X0_number : GoodIn wsX7_numberOf wsX0_number := goodIn_r _ [19, 13, 20, 9, 10, 11, 12, 14, 6, 15, 28, 29, 30] (by decide +kernel) (by decide +kernel)
set_option maxRecDepth 20000 in
theorem gX7_numberOf_X0_number : GoodIn wsX7_numberOf (wsV RX7 117 RX0 yX0_number wsX0_number) := goodIn_app (goodIn_of _ (by decide +kernel)) ggX7_numberOf_X0_number
set_option maxRecDepth 20000 in
theorem ggX7_termOf_X0_size : GoodIn wsX7_termOf wsX0_size := goodIn_r _ [8, 9, 25, 26, 27] (by decide +kernel) (by decide +kernel)
set_option maxRecDepth 20000 in
theorem gX7_termOf_X0_size : GoodIn wsX7_termOf (wsV RX7 113 RX0 yX0_size wsX0_size) := goodIn_app (goodIn_of _ (by decide +kernel)) ggX7_termOf_X0_size
set_option maxRecDepth 20000 in
theorem ggX7_termOf_X0_term : GoodIn wsX7_termOf wsX0_term := goodIn_r _ [13, 14, 15, 16, 17, 25, 26, 27] (by decide +kernel) (by decide +kernel)
set_option maxRecDepth 20000 in
theorem gX7_termOf_X0_term : GoodIn wsX7_termOf (wsV RX7 109 RX0 yX0_term wsX0_term) := goodIn_app (goodIn_of _ (by decide +kernel)) ggX7_termOf_X0_term
set_option maxRecDepth 20000 in
theorem ggX7_count_X7_isTermOrAny : GoodIn wsX7_count wsX7_isTermOrAny := goodIn_r _ [8] (by decide +kernel) (by decide +kernel)
set_option maxRecDepth 20000 in
theorem gX7_count_X7_isTermOrAny : GoodIn wsX7_count (va_wsS RX7 122 yX7_isTermOrAny wsX7_isTermOrAny) := goodIn_app (goodIn_of _ (by decide +kernel)) ggX7_count_X7_isTermOrAny
set_option maxRecDepth 20000 in
theorem ggX7_count_X7_maskFor : GoodIn wsX7_count wsX7_maskFor := goodIn_r _ [11, 12, 13, 7, 14] (by decide +kernel) (by decide +kernel)
set_option maxRecDepth 20000 in
theorem gX7_count_X7_maskFor : GoodIn wsX7_count (va_wsS RX7 127 yX7_maskFor wsX7_maskFor) := goodIn_app (goodIn_of _ (by decide +kernel)) ggX7_count_X7_maskFor
set_option maxRecDepth 20000 in
theorem ggX7_count_X0_pack : GoodIn wsX7_count wsX0_pack := goodIn_r _ [19, 20, 21, 22, 18, 23, 24, 25, 26, 27, 28, 29, 7, 30, 13, 14, 71, 72, 73] (by decide +kernel) (by decide +kernel)
set_option maxRecDepth 20000 in
theorem gX7_count_X0_pack : GoodIn wsX7_count (wsV RX7 59 RX0 yX0_pack wsX0_pack) := goodIn_app (goodIn_of _ (by decide +kernel)) ggX7_count_X0_pack
set_option maxRecDepth 20000 in
theorem ggX7_count_X7_orderOf : GoodIn wsX7_count wsX7_orderOf := goodIn_r _ [33, 34, 35, 7, 36, 12, 13, 14] (by decide +kernel) (by decide +kernel)
set_option maxRecDepth 20000 in
theorem gX7_count_X7_orderOf : GoodIn wsX7_count (va_wsS RX7 131 yX7_orderOf wsX7_orderOf) := goodIn_app (goodIn_of _ (by decide +kernel)) ggX7_count_X7_orderOf
set_option maxRecDepth 20000 in
theorem ggX7_count_X5_end : GoodIn wsX7_count wsX5_end := goodIn_r _ [41, 42, 43, 44, 45, 40, 46, 47, 48, 49, 50, 7, 51, 52, 53, 54, 55, 56, 57, 58, 59, 29, 30, 74, 75, 76, 77, 78] (by decide +kernel) (by decide +kernel)
set_option maxRecDepth 20000 in
theorem gX7_count_X5_end : GoodIn wsX7_count (wsV RX7 134 RX5 yX5_end wsX5_end) := goodIn_app (goodIn_of _ (by decide +kernel)) ggX7_count_X5_end
set_option maxRecDepth 20000 in
theorem ggX7_count_X5_begin : GoodIn wsX7_count wsX5_begin := goodIn_r _ [63, 43, 44, 45, 40, 46, 47, 48, 49, 50, 7, 51, 52, 53, 54, 55, 56, 57, 58, 59, 29, 30, 74, 75, 76, 77, 78] (by decide +kernel) (by decide +kernel)
set_option maxRecDepth 20000 in
theorem gX7_count_X5_begin : GoodIn wsX7_count (wsV RX7 137 RX5 yX5_begin wsX5_begin) := goodIn_app (goodIn_of _ (by decide +kernel)) ggX7_count_X5_begin
set_option maxRecDepth 20000 in
theorem ggX7_orderFor_X7_maskFor : GoodIn wsX7_orderFor wsX7_maskFor := goodIn_r _ [4, 5, 6, 3, 7] (by decide +kernel) (by decide +kernel)
set_option maxRecDepth 20000 in
theorem gX7_orderFor_X7_maskFor : GoodIn wsX7_orderFor (va_wsS RX7 127 yX7_maskFor wsX7_maskFor) := goodIn_app (goodIn_of _ (by decide +kernel)) ggX7_orderFor_X7_maskFor
set_option maxRecDepth 20000 in
theorem ggX7_orderFor_X7_orderOf : GoodIn wsX7_orderFor wsX7_orderOf := goodIn_r _ [10, 11, 12, 3, 13, 5, 6, 7] (by decide +kernel) (by decide +kernel)
set_option maxRecDepth 20000 in
theorem gX7_orderFor_X7_orderOf : GoodIn wsX7_orderFor (va_wsS RX7 131 yX7_orderOf wsX7_orderOf) := goodIn_app (goodIn_of _ (by decide +kernel)) ggX7_orderFor_X7_orderOf
set_option maxRecDepth 20000 in
theorem ggX7_seek_X7_isOrder : GoodIn wsX7_seek wsX7_isOrder := goodIn_r _ [10] (by decide +kernel) (by decide +kernel)
set_option maxRecDepth 20000 in
theorem gX7_seek_X7_isOrder : GoodIn wsX7_seek (va_wsS RX7 90 yX7_isOrder wsX7_isOrder) := goodIn_app (goodIn_of _ (by decide +kernel)) ggX7_seek_X7_isOrder
set_option maxRecDepth 20000 in
theorem ggX7_seek_X7_isTerm : GoodIn wsX7_seek wsX7_isTerm := goodIn_r _ [13] (by decide +kernel) (by decide +kernel)
set_option maxRecDepth 20000 in
theorem gX7_seek_X7_isTerm : GoodIn wsX7_seek (va_wsS RX7 48 yX7_isTerm wsX7_isTerm) := goodIn_app (goodIn_of _ (by decide +kernel)) ggX7_seek_X7_isTerm
set_option maxRecDepth 20000 in
theorem ggX7_seek_X0_knows : GoodIn wsX7_seek wsX0_knows := goodIn_r _ [18, 19, 20, 9, 21, 59, 60, 61] (by decide +kernel) (by decide +kernel)
set_option maxRecDepth 20000 in
theorem gX7_seek_X0_knows : GoodIn wsX7_seek (wsV RX7 114 RX0 yX0_knows wsX0_knows) := goodIn_app (goodIn_of _ (by decide +kernel)) ggX7_seek_X0_knows
set_option maxRecDepth 20000 in
theorem ggX7_seek_X0_number : GoodIn wsX7_seek wsX0_number := goodIn_r _ [25, 19, 26, 15, 16, 17, 18, 20, 9, 21, 59, 60, 61] (by decide +kernel) (by decide +kernel)
set_option maxRecDepth 20000 in
theorem gX7_seek_X0_number : GoodIn wsX7_seek (wsV RX7 117 RX0 yX0_number wsX0_number) := goodIn_app (goodIn_of _ (by decide +kernel)) ggX7_seek_X0_number
set_option maxRecDepth 20000 in
theorem ggX7_seek_X7_partShift : GoodIn wsX7_seek wsX7_partShift := goodIn_r _ [29] (by decide +kernel) (by decide +kernel)
set_option maxRecDepth 20000 in
theorem gX7_seek_X7_partShift : GoodIn wsX7_seek (va_wsS RX7 142 yX7_partShift wsX7_partShift) := goodIn_app (goodIn_of _ (by decide +kernel)) ggX7_seek_X7_partShift
set_option maxRecDepth 20000 in
theorem ggX7_seek_X5_begin : GoodIn wsX7_seek wsX5_begin := goodIn_r _ [34, 35, 36, 37, 33, 38, 39, 40, 41, 42, 9, 43, 44, 45, 46, 47, 48, 49, 50, 51, 20, 21, 62, 63, 64, 65, 66] (by decide +kernel) (by decide +kernel)
set_option maxRecDepth 20000 in
theorem gX7_seek_X5_begin : GoodIn wsX7_seek (wsV RX7 137 RX5 yX5_begin wsX5_begin) := goodIn_app (goodIn_of _ (by decide +kernel)) ggX7_seek_X5_begin
set_option maxRecDepth 20000 in
theorem ggX7_forget_X3_clear : GoodIn wsX7_forget wsX3_clear := goodIn_r _ [6, 7, 15, 16, 17, 18] (by decide +kernel) (by decide +kernel)
set_option maxRecDepth 20000 in
theorem gX7_forget_X3_clear : GoodIn wsX7_forget (wsV RX7 145 RX3 yX3_clear wsX3_clear) := goodIn_app (goodIn_of _ (by decide +kernel)) ggX7_forget_X3_clear
set_option maxRecDepth 20000 in
theorem ggX7_addPattern_X7_isTermOrVariable : GoodIn wsX7_addPattern wsX7_isTermOrVariable := goodIn_r _ [9] (by decide +kernel) (by decide +kernel)
set_option maxRecDepth 20000 in
theorem gX7_addPattern_X7_isTermOrVariable : GoodIn wsX7_addPattern (va_wsS RX7 148 yX7_isTermOrVariable wsX7_isTermOrVariable) := goodIn_app (goodIn_of _ (by decide +kernel)) ggX7_addPattern_X7_isTermOrVariable
set_option maxRecDepth 20000 in
theorem ggX7_addPattern_X3_size : GoodIn wsX7_addPattern wsX3_size := goodIn_r _ [14, 15, 47, 48, 49, 50] (by decide +kernel) (by decide +kernel)
set_option maxRecDepth 20000 in
theorem gX7_addPattern_X3_size : GoodIn wsX7_addPattern (wsV RX7 153 RX3 yX3_size wsX3_size) := goodIn_app (goodIn_of _ (by decide +kernel)) ggX7_addPattern_X3_size
set_option maxRecDepth 20000 in
theorem ggX7_addPattern_X3_add : GoodIn wsX7_addPattern wsX3_add := goodIn_r _ [19, 15, 20, 21, 22, 13, 23, 24, 25, 26, 27, 28, 29, 30, 31, 32, 33, 34, 8, 35, 36, 37, 38, 39, 47, 48, 49, 50, 51, 52, 53, 54] (by decide +kernel) (by decide +kernel)
set_option maxRecDepth 20000 in
theorem gX7_addPattern_X3_add : GoodIn wsX7_addPattern (wsV RX7 156 RX3 yX3_add wsX3_add) := goodIn_app (goodIn_of _ (by decide +kernel)) ggX7_addPattern_X3_add
set_option maxRecDepth 20000 in
theorem ggX7_patterns_X3_size : GoodIn wsX7_patterns wsX3_size := goodIn_r _ [6, 7, 15, 16, 17, 18] (by decide +kernel) (by decide +kernel)
set_option maxRecDepth 20000 in
theorem gX7_patterns_X3_size : GoodIn wsX7_patterns (wsV RX7 153 RX3 yX3_size wsX3_size) := goodIn_app (goodIn_of _ (by decide +kernel)) ggX7_patterns_X3_size
set_option maxRecDepth 20000 in
theorem ggX7_matches_X3_size : GoodIn wsX7_matches wsX3_size := goodIn_r _ [10, 11, 122, 123, 124, 125] (by decide +kernel) (by decide +kernel)
set_option maxRecDepth 20000 in
theorem gX7_matches_X3_size : GoodIn wsX7_matches (wsV RX7 153 RX3 yX3_size wsX3_size) := goodIn_app (goodIn_of _ (by decide +kernel)) ggX7_matches_X3_size
set_option maxRecDepth 20000 in
theorem ggX7_matches_X3_look : GoodIn wsX7_matches wsX3_look := goodIn_r _ [15, 11, 16, 17, 18, 9, 19, 20, 21, 22, 23, 24, 25, 26, 27, 28, 29, 30, 31, 32, 33, 34, 35, 36, 37, 38, 39, 40, 41, 42, 43, 44, 45, 46, 47, 48, 49, 50, 51, 52, 53, 54, 55, 56, 57, 58, 59, 60, 61, 62, 63, 64, 65, 66, 67, 68, 69, 70, 71, 72, 73, 74, 75, 76, 77, 78, 79, 80, 81, 82, 83, 84, 85, 86, 87, 88, 89, 90, 91, 92, 93, 94, 95, 96, 97, 98, 99, 100, 101, 102, 103, 104, 105, 106, 107, 108, 109, 122, 123, 124, 125, 126, 127, 128, 129, 130, 131, 132, 133, 134, 135, 136, 137] (by decide +kernel) (by decide +kernel)
set_option maxRecDepth 20000 in
theorem gX7_matches_X3_look : GoodIn wsX7_matches (wsV RX7 161 RX3 yX3_look wsX3_look) := goodIn_app (goodIn_of _ (by decide +kernel)) ggX7_matches_X3_look
set_option maxRecDepth 20000 in
theorem ggX7_matches_X3_pattern : GoodIn wsX7_matches wsX3_pattern := goodIn_r _ [19, 20, 21, 22, 122, 123, 124, 125] (by decide +kernel) (by decide +kernel)
set_option maxRecDepth 20000 in
theorem gX7_matches_X3_pattern : GoodIn wsX7_matches (wsV RX7 165 RX3 yX3_pattern wsX3_pattern) := goodIn_app (goodIn_of _ (by decide +kernel)) ggX7_matches_X3_pattern
set_option maxRecDepth 20000 in
theorem ggX7_matches_X2_found : GoodIn wsX7_matches wsX2_found := goodIn_r _ [114, 30, 126, 127, 128, 129] (by decide +kernel) (by decide +kernel)
set_option maxRecDepth 20000 in
theorem gX7_matches_X2_found : GoodIn wsX7_matches (wsV RX7 169 RX2 yX2_found wsX2_found) := goodIn_app (goodIn_of _ (by decide +kernel)) ggX7_matches_X2_found
set_option maxRecDepth 20000 in
theorem ggX7_variables_X3_variableBits : GoodIn wsX7_variables wsX3_variableBits := goodIn_r _ [6, 7, 8, 9, 10, 5, 11, 12, 13, 14, 15, 16, 17, 18, 19, 20, 28, 29, 30, 31, 32, 33, 34, 35] (by decide +kernel) (by decide +kernel)
set_option maxRecDepth 20000 in
theorem gX7_variables_X3_variableBits : GoodIn wsX7_variables (wsV RX7 174 RX3 yX3_variableBits wsX3_variableBits) := goodIn_app (goodIn_of _ (by decide +kernel)) ggX7_variables_X3_variableBits
set_option maxRecDepth 20000 in
theorem ggX7_shape_X3_isStar : GoodIn wsX7_shape wsX3_isStar := goodIn_r _ [6, 7, 8, 9, 10, 11, 12, 13, 14, 15, 16, 17, 18, 19, 20, 5, 21, 22, 23, 35, 36, 37, 38, 39, 40, 41, 42] (by decide +kernel) (by decide +kernel)
set_option maxRecDepth 20000 in
theorem gX7_shape_X3_isStar : GoodIn wsX7_shape (wsV RX7 177 RX3 yX3_isStar wsX3_isStar) := goodIn_app (goodIn_of _ (by decide +kernel)) ggX7_shape_X3_isStar
set_option maxRecDepth 20000 in
theorem ggX7_shape_X3_isChain : GoodIn wsX7_shape wsX3_isChain := goodIn_r _ [27, 7, 18, 19, 20, 5, 21, 22, 23, 8, 9, 10, 11, 12, 13, 14, 15, 16, 17, 35, 36, 37, 38, 39, 40, 41, 42] (by decide +kernel) (by decide +kernel)
set_option maxRecDepth 20000 in
theorem gX7_shape_X3_isChain : GoodIn wsX7_shape (wsV RX7 181 RX3 yX3_isChain wsX3_isChain) := goodIn_app (goodIn_of _ (by decide +kernel)) ggX7_shape_X3_isChain
set_option maxRecDepth 20000 in
theorem ggX7_joined_X3_size : GoodIn wsX7_joined wsX3_size := goodIn_r _ [10, 11, 142, 143, 144, 145] (by decide +kernel) (by decide +kernel)
set_option maxRecDepth 20000 in
theorem gX7_joined_X3_size : GoodIn wsX7_joined (wsV RX7 153 RX3 yX3_size wsX3_size) := goodIn_app (goodIn_of _ (by decide +kernel)) ggX7_joined_X3_size
set_option maxRecDepth 20000 in
theorem ggX7_joined_X3_look : GoodIn wsX7_joined wsX3_look := goodIn_r _ [15, 11, 16, 17, 18, 9, 19, 20, 21, 22, 23, 24, 25, 26, 27, 28, 29, 30, 31, 32, 33, 34, 35, 36, 37, 38, 39, 40, 41, 42, 43, 44, 45, 46, 47, 48, 49, 50, 51, 52, 53, 54, 55, 56, 57, 58, 59, 60, 61, 62, 63, 64, 65, 66, 67, 68, 69, 70, 71, 72, 73, 74, 75, 76, 77, 78, 79, 80, 81, 82, 83, 84, 85, 86, 87, 88, 89, 90, 91, 92, 93, 94, 95, 96, 97, 98, 99, 100, 101, 102, 103, 104, 105, 106, 107, 108, 109, 142, 143, 144, 145, 146, 147, 148, 149, 150, 151, 152, 153, 154, 155, 156, 157] (by decide +kernel) (by decide +kernel)
set_option maxRecDepth 20000 in
theorem gX7_joined_X3_look : GoodIn wsX7_joined (wsV RX7 161 RX3 yX3_look wsX3_look) := goodIn_app (goodIn_of _ (by decide +kernel)) ggX7_joined_X3_look
set_option maxRecDepth 20000 in
theorem ggX7_joined_X3_inJoinOrder : GoodIn wsX7_joined wsX3_inJoinOrder := goodIn_r _ [113, 11, 114, 115, 116, 9, 117, 118, 119, 120, 121, 50, 32, 51, 122, 123, 124, 125, 16, 17, 18, 19, 20, 21, 22, 126, 127, 128, 26, 129, 130, 131, 132, 133, 134, 30, 142, 143, 144, 145, 146, 147, 148, 149] (by decide +kernel) (by decide +kernel)
set_option maxRecDepth 20000 in
theorem gX7_joined_X3_inJoinOrder : GoodIn wsX7_joined (wsV RX7 186 RX3 yX3_inJoinOrder wsX3_inJoinOrder) := goodIn_app (goodIn_of _ (by decide +kernel)) ggX7_joined_X3_inJoinOrder
set_option maxRecDepth 20000 in
theorem ggX7_answerByMerging_X7_beginAnswering : GoodIn wsX7_answerByMerging wsX7_beginAnswering := goodIn_ca (goodIn_r _ [8, 9, 10, 2, 11, 3, 12, 13, 14, 15, 16, 17, 18, 19, 20, 21, 22, 23, 24, 25, 26, 27, 28, 29, 30, 31, 32, 33, 34, 35, 36, 37, 7, 38, 39, 40, 41, 42, 43, 44, 45, 46, 47, 48, 49, 50, 51, 52, 53, 54, 55, 56, 57, 58, 59, 60, 61, 62, 63, 64, 65, 66, 67, 68, 69, 70, 71, 72, 73, 74, 75, 76, 77, 78, 79, 80, 81, 82, 83, 84, 85, 86, 87, 88, 89, 90, 91, 92, 93, 94, 95, 96, 97, 98, 99, 100, 101, 102, 103, 104, 105, 106, 107, 108, 109, 110, 111, 112, 113, 114, 233, 234, 235, 236, 237, 238, 239, 240, 241, 242, 243, 244, 245, 246, 247, 248, 249, 250, 251, 252, 253, 254, 255] (by decide +kernel) (by decide +kernel)) (goodIn_sub (fun _ h => List.mem_cons_of_mem _ (List.mem_append_right _ h)) (by decide +kernel))
set_option maxRecDepth 20000 in
theorem gX7_answerByMerging_X7_beginAnswering : GoodIn wsX7_answerByMerging (wsV RX7 189 RX7 yX7_beginAnswering wsX7_beginAnswering) := goodIn_app (goodIn_of _ (by decide +kernel)) ggX7_answerByMerging_X7_beginAnswering
set_option maxRecDepth 20000 in
theorem ggX7_answerByMerging_X1_merge : GoodIn wsX7_answerByMerging wsX1_merge := goodIn_r _ [119, 120, 121, 122, 123, 124, 125, 126, 127, 128, 129, 130, 131, 132, 133, 134, 135, 136, 137, 138, 49, 7, 50, 139, 140, 141, 142, 143, 144, 13, 14, 15, 16, 17, 145, 146, 147, 148, 149, 150, 151, 152, 153, 154, 155, 156, 55, 56, 157, 158, 159, 160, 22, 23, 24, 25, 26, 27, 28, 161, 162, 163, 32, 164, 165, 166, 167, 168, 169, 36, 170, 171, 172, 173, 174, 118, 175, 176, 52, 53, 54, 35, 37, 38, 57, 58, 177, 60, 61, 62, 34, 63, 64, 65, 66, 67, 68, 69, 70, 71, 72, 73, 178, 75, 76, 77, 78, 79, 80, 81, 82, 83, 84, 85, 86, 87, 88, 89, 90, 91, 92, 93, 94, 95, 96, 179, 180, 98, 99, 100, 181, 102, 103, 104, 105, 106, 107, 108, 109, 110, 182, 112, 113, 114, 183, 184, 185, 186, 187, 188, 189, 190, 191, 192, 193, 194, 195, 196, 197, 198, 199, 200, 201, 202, 203, 204, 205, 206, 207, 208, 209, 210, 211, 212, 256, 257, 258, 259, 260, 261, 262, 263, 240, 241, 242, 243, 244, 245, 246, 247, 251, 252, 253, 254, 255] (by decide +kernel) (by decide +kernel)
set_option maxRecDepth 20000 in
theorem gX7_answerByMerging_X1_merge : GoodIn wsX7_answerByMerging (wsV RX7 192 RX1 yX1_merge wsX1_merge) := goodIn_app (goodIn_of _ (by decide +kernel)) ggX7_answerByMerging_X1_merge
set_option maxRecDepth 20000 in
theorem ggX7_answerByMerging_X7_keepAnswers : GoodIn wsX7_answerByMerging wsX7_keepAnswers := goodIn_ca (goodIn_r _ [216, 9, 10, 1, 2, 217, 218, 219, 220, 221, 222, 118, 223, 120, 224, 206, 207, 125, 208, 133, 225, 202, 203, 204, 131, 226, 227, 228, 15, 229, 17, 22, 23, 24, 25, 26, 27, 28, 161, 162, 163, 32, 164, 165, 230, 186, 187, 188, 55, 7, 56, 189, 190, 191, 192, 193, 143, 138, 132, 49, 50, 37, 38, 63, 64, 65, 66, 67, 139, 140, 141, 142, 231, 210, 211, 212, 232, 233, 234, 235, 236, 237, 238, 239, 256, 257, 258, 259, 260, 261, 262, 263, 240, 241, 242, 243, 244, 245, 246, 247] (by decide +kernel) (by decide +kernel)) (goodIn_sub (fun _ h => List.mem_cons_of_mem _ (List.mem_append_right _ h)) (by decide +kernel))
set_option maxRecDepth 20000 in
theorem gX7_answerByMerging_X7_keepAnswers : GoodIn wsX7_answerByMerging (wsV RX7 196 RX7 yX7_keepAnswers wsX7_keepAnswers) := goodIn_app (goodIn_of _ (by decide +kernel)) ggX7_answerByMerging_X7_keepAnswers
set_option maxRecDepth 20000 in
theorem ggX7_answerByVariables_X7_beginAnswering : GoodIn wsX7_answerByVariables wsX7_beginAnswering := goodIn_ca (goodIn_r _ [8, 9, 10, 2, 11, 3, 12, 13, 14, 15, 16, 17, 18, 19, 20, 21, 22, 23, 24, 25, 26, 27, 28, 29, 30, 31, 32, 33, 34, 35, 36, 37, 7, 38, 39, 40, 41, 42, 43, 44, 45, 46, 47, 48, 49, 50, 51, 52, 53, 54, 55, 56, 57, 58, 59, 60, 61, 62, 63, 64, 65, 66, 67, 68, 69, 70, 71, 72, 73, 74, 75, 76, 77, 78, 79, 80, 81, 82, 83, 84, 85, 86, 87, 88, 89, 90, 91, 92, 93, 94, 95, 96, 97, 98, 99, 100, 101, 102, 103, 104, 105, 106, 107, 108, 109, 110, 111, 112, 113, 114, 242, 243, 244, 245, 246, 247, 248, 249, 250, 251, 252, 253, 254, 255, 256, 257, 258, 259, 260, 261, 262, 263, 264] (by decide +kernel) (by decide +kernel)) (goodIn_sub (fun _ h => List.mem_cons_of_mem _ (List.mem_append_right _ h)) (by decide +kernel))
set_option maxRecDepth 20000 in
theorem gX7_answerByVariables_X7_beginAnswering : GoodIn wsX7_answerByVariables (wsV RX7 189 RX7 yX7_beginAnswering wsX7_beginAnswering) := goodIn_app (goodIn_of _ (by decide +kernel)) ggX7_answerByVariables_X7_beginAnswering
set_option maxRecDepth 20000 in
theorem ggX7_answerByVariables_X1_goByVariables : GoodIn wsX7_answerByVariables wsX1_goByVariables := goodIn_r _ [119, 120, 121, 122, 123, 124, 125, 126, 127, 128, 129, 130, 131, 132, 133, 134, 135, 136, 137, 49, 7, 50, 138, 139, 140, 141, 142, 143, 144, 145, 15, 146, 17, 22, 23, 24, 25, 26, 27, 28, 147, 148, 149, 32, 150, 36, 151, 152, 13, 14, 16, 153, 154, 155, 156, 157, 158, 159, 160, 161, 162, 163, 164, 55, 56, 165, 166, 167, 168, 169, 170, 171, 172, 173, 174, 175, 176, 177, 178, 118, 179, 180, 181, 182, 183, 184, 185, 186, 187, 188, 189, 190, 191, 192, 37, 38, 193, 194, 195, 196, 197, 198, 52, 53, 54, 35, 57, 58, 199, 60, 61, 62, 34, 63, 64, 65, 66, 67, 68, 69, 70, 71, 72, 73, 200, 75, 76, 77, 78, 79, 80, 81, 82, 83, 84, 85, 86, 87, 88, 89, 90, 91, 92, 93, 94, 95, 96, 201, 98, 99, 100, 202, 102, 103, 104, 105, 106, 107, 108, 109, 110, 203, 112, 113, 114, 204, 205, 206, 207, 208, 209, 210, 211, 212, 213, 265, 266, 267, 268, 269, 270, 271, 272, 249, 250, 251, 252, 253, 254, 255, 256, 260, 261, 262, 263, 264] (by decide +kernel) (by decide +kernel)
set_option maxRecDepth 20000 in
theorem gX7_answerByVariables_X1_goByVariables : GoodIn wsX7_answerByVariables (wsV RX7 199 RX1 yX1_goByVariables wsX1_goByVariables) := goodIn_app (goodIn_of _ (by decide +kernel)) ggX7_answerByVariables_X1_goByVariables
set_option maxRecDepth 20000 in
theorem ggX7_answerByVariables_X7_keepAnswers : GoodIn wsX7_answerByVariables wsX7_keepAnswers := goodIn_ca (goodIn_r _ [217, 9, 10, 1, 2, 218, 219, 220, 221, 222, 223, 118, 224, 120, 225, 186, 187, 124, 188, 132, 226, 182, 183, 184, 130, 227, 228, 229, 15, 230, 17, 22, 23, 24, 25, 26, 27, 28, 169, 170, 171, 32, 172, 173, 231, 232, 233, 234, 55, 7, 56, 235, 236, 237, 238, 239, 142, 137, 131, 49, 50, 37, 38, 63, 64, 65, 66, 67, 138, 139, 140, 141, 240, 190, 191, 192, 241, 242, 243, 244, 245, 246, 247, 248, 265, 266, 267, 268, 269, 270, 271, 272, 249, 250, 251, 252, 253, 254, 255, 256] (by decide +kernel) (by decide +kernel)) (goodIn_sub (fun _ h => List.mem_cons_of_mem _ (List.mem_append_right _ h)) (by decide +kernel))
set_option maxRecDepth 20000 in
theorem gX7_answerByVariables_X7_keepAnswers : GoodIn wsX7_answerByVariables (wsV RX7 196 RX7 yX7_keepAnswers wsX7_keepAnswers) := goodIn_app (goodIn_of _ (by decide +kernel)) ggX7_answerByVariables_X7_keepAnswers
set_option maxRecDepth 20000 in
theorem ggX7_answerByLoops_X7_beginAnswering : GoodIn wsX7_answerByLoops wsX7_beginAnswering := goodIn_ca (goodIn_r _ [8, 9, 10, 2, 11, 3, 12, 13, 14, 15, 16, 17, 18, 19, 20, 21, 22, 23, 24, 25, 26, 27, 28, 29, 30, 31, 32, 33, 34, 35, 36, 37, 7, 38, 39, 40, 41, 42, 43, 44, 45, 46, 47, 48, 49, 50, 51, 52, 53, 54, 55, 56, 57, 58, 59, 60, 61, 62, 63, 64, 65, 66, 67, 68, 69, 70, 71, 72, 73, 74, 75, 76, 77, 78, 79, 80, 81, 82, 83, 84, 85, 86, 87, 88, 89, 90, 91, 92, 93, 94, 95, 96, 97, 98, 99, 100, 101, 102, 103, 104, 105, 106, 107, 108, 109, 110, 111, 112, 113, 114, 209, 210, 211, 212, 213, 214, 215, 216, 217, 218, 219, 220, 221, 222, 223, 224, 225, 226, 227, 228, 229, 230, 231] (by decide +kernel) (by decide +kernel)) (goodIn_sub (fun _ h => List.mem_cons_of_mem _ (List.mem_append_right _ h)) (by decide +kernel))
set_option maxRecDepth 20000 in
theorem gX7_answerByLoops_X7_beginAnswering : GoodIn wsX7_answerByLoops (wsV RX7 189 RX7 yX7_beginAnswering wsX7_beginAnswering) := goodIn_app (goodIn_of _ (by decide +kernel)) ggX7_answerByLoops_X7_beginAnswering
set_option maxRecDepth 20000 in
theorem ggX7_answerByLoops_X1_loop : GoodIn wsX7_answerByLoops wsX1_loop := goodIn_r _ [119, 120, 121, 122, 123, 124, 125, 126, 127, 128, 129, 130, 131, 132, 133, 134, 135, 136, 137, 49, 7, 50, 138, 139, 140, 141, 142, 143, 13, 14, 15, 16, 17, 144, 23, 24, 25, 26, 27, 28, 145, 146, 147, 148, 149, 150, 151, 152, 153, 154, 155, 156, 37, 38, 157, 158, 159, 118, 160, 161, 52, 53, 32, 54, 35, 55, 56, 57, 58, 162, 60, 61, 62, 34, 63, 64, 65, 66, 67, 163, 164, 165, 77, 166, 86, 167, 168, 169, 93, 170, 95, 171, 106, 107, 108, 96, 172, 112, 113, 114, 71, 72, 73, 173, 174, 175, 176, 177, 178, 179, 232, 233, 234, 235, 236, 237, 238, 239, 216, 217, 218, 219, 220, 221, 222, 223, 227, 228, 229, 230, 231] (by decide +kernel) (by decide +kernel)
set_option maxRecDepth 20000 in
theorem gX7_answerByLoops_X1_loop : GoodIn wsX7_answerByLoops (wsV RX7 202 RX1 yX1_loop wsX1_loop) := goodIn_app (goodIn_of _ (by decide +kernel)) ggX7_answerByLoops_X1_loop
set_option maxRecDepth 20000 in
theorem ggX7_answerByLoops_X7_keepAnswers : GoodIn wsX7_answerByLoops wsX7_keepAnswers := goodIn_ca (goodIn_r _ [183, 9, 10, 1, 2, 184, 185, 186, 187, 188, 189, 118, 190, 120, 191, 150, 151, 124, 152, 132, 192, 146, 147, 148, 130, 193, 194, 195, 15, 196, 17, 22, 23, 24, 25, 26, 27, 28, 197, 176, 177, 32, 178, 179, 198, 199, 200, 201, 55, 7, 56, 202, 203, 204, 205, 206, 142, 137, 131, 49, 50, 37, 38, 63, 64, 65, 66, 67, 138, 139, 140, 141, 207, 154, 155, 156, 208, 209, 210, 211, 212, 213, 214, 215, 232, 233, 234, 235, 236, 237, 238, 239, 216, 217, 218, 219, 220, 221, 222, 223] (by decide +kernel) (by decide +kernel)) (goodIn_sub (fun _ h => List.mem_cons_of_mem _ (List.mem_append_right _ h)) (by decide +kernel))
set_option maxRecDepth 20000 in
theorem gX7_answerByLoops_X7_keepAnswers : GoodIn wsX7_answerByLoops (wsV RX7 196 RX7 yX7_keepAnswers wsX7_keepAnswers) := goodIn_app (goodIn_of _ (by decide +kernel)) ggX7_answerByLoops_X7_keepAnswers
set_option maxRecDepth 20000 in
theorem ggX7_answer_X7_isVariable : GoodIn wsX7_answer wsX7_isVariable := goodIn_r _ [12] (by decide +kernel) (by decide +kernel)
set_option maxRecDepth 20000 in
theorem gX7_answer_X7_isVariable : GoodIn wsX7_answer (va_wsS RX7 207 yX7_isVariable wsX7_isVariable) := goodIn_app (goodIn_of _ (by decide +kernel)) ggX7_answer_X7_isVariable
set_option maxRecDepth 20000 in
theorem ggX7_answer_X7_hasBit : GoodIn wsX7_answer wsX7_hasBit := goodIn_r _ [15] (by decide +kernel) (by decide +kernel)
set_option maxRecDepth 20000 in
theorem gX7_answer_X7_hasBit : GoodIn wsX7_answer (va_wsS RX7 212 yX7_hasBit wsX7_hasBit) := goodIn_app (goodIn_of _ (by decide +kernel)) ggX7_answer_X7_hasBit
set_option maxRecDepth 20000 in
theorem ggX7_answer_X7_at : GoodIn wsX7_answer wsX7_at := goodIn_r _ [18] (by decide +kernel) (by decide +kernel)
set_option maxRecDepth 20000 in
theorem gX7_answer_X7_at : GoodIn wsX7_answer (va_wsS RX7 218 yX7_at wsX7_at) := goodIn_app (goodIn_of _ (by decide +kernel)) ggX7_answer_X7_at
set_option maxRecDepth 20000 in
theorem ggX7_answer_X7_cellOf : GoodIn wsX7_answer wsX7_cellOf := goodIn_r _ [21, 22, 23, 11, 24] (by decide +kernel) (by decide +kernel)
set_option maxRecDepth 20000 in
theorem gX7_answer_X7_cellOf : GoodIn wsX7_answer (va_wsS RX7 222 yX7_cellOf wsX7_cellOf) := goodIn_app (goodIn_of _ (by decide +kernel)) ggX7_answer_X7_cellOf
set_option maxRecDepth 20000 in
theorem ggX7_answer_X0_term : GoodIn wsX7_answer wsX0_term := goodIn_r _ [29, 30, 17, 11, 18, 38, 39, 40] (by decide +kernel) (by decide +kernel)
set_option maxRecDepth 20000 in
theorem gX7_answer_X0_term : GoodIn wsX7_answer (wsV RX7 109 RX0 yX0_term wsX0_term) := goodIn_app (goodIn_of _ (by decide +kernel)) ggX7_answer_X0_term
set_option maxRecDepth 20000 in
theorem ggX7_termsFor_X7_isVariable : GoodIn wsX7_termsFor wsX7_isVariable := goodIn_r _ [9] (by decide +kernel) (by decide +kernel)
set_option maxRecDepth 20000 in
theorem gX7_termsFor_X7_isVariable : GoodIn wsX7_termsFor (va_wsS RX7 207 yX7_isVariable wsX7_isVariable) := goodIn_app (goodIn_of _ (by decide +kernel)) ggX7_termsFor_X7_isVariable
set_option maxRecDepth 20000 in
theorem ggX7_termsFor_X7_hasBit : GoodIn wsX7_termsFor wsX7_hasBit := goodIn_r _ [12] (by decide +kernel) (by decide +kernel)
set_option maxRecDepth 20000 in
theorem gX7_termsFor_X7_hasBit : GoodIn wsX7_termsFor (va_wsS RX7 212 yX7_hasBit wsX7_hasBit) := goodIn_app (goodIn_of _ (by decide +kernel)) ggX7_termsFor_X7_hasBit
set_option maxRecDepth 20000 in
theorem ggX7_termsFor_X7_at : GoodIn wsX7_termsFor wsX7_at := goodIn_r _ [15] (by decide +kernel) (by decide +kernel)
set_option maxRecDepth 20000 in
theorem gX7_termsFor_X7_at : GoodIn wsX7_termsFor (va_wsS RX7 218 yX7_at wsX7_at) := goodIn_app (goodIn_of _ (by decide +kernel)) ggX7_termsFor_X7_at
set_option maxRecDepth 20000 in
theorem ggX7_termsFor_X7_cellOf : GoodIn wsX7_termsFor wsX7_cellOf := goodIn_r _ [18, 19, 20, 8, 21] (by decide +kernel) (by decide +kernel)
set_option maxRecDepth 20000 in
theorem gX7_termsFor_X7_cellOf : GoodIn wsX7_termsFor (va_wsS RX7 222 yX7_cellOf wsX7_cellOf) := goodIn_app (goodIn_of _ (by decide +kernel)) ggX7_termsFor_X7_cellOf
set_option maxRecDepth 20000 in
theorem ggX7_termsFor_J13_bitCount_95d88 : GoodIn wsX7_termsFor wsJ13_bitCount_95d88 := goodIn_r _ [25, 26, 27, 28] (by decide +kernel) (by decide +kernel)
set_option maxRecDepth 20000 in
theorem gX7_termsFor_J13_bitCount_95d88 : GoodIn wsX7_termsFor (va_wsS RX7 225 yJ13_bitCount_95d88 wsJ13_bitCount_95d88) := goodIn_app (goodIn_of _ (by decide +kernel)) ggX7_termsFor_J13_bitCount_95d88
set_option maxRecDepth 20000 in
theorem ggX7_beginAnswering_X3_size : GoodIn wsX7_beginAnswering wsX3_size := goodIn_r _ [10, 11, 117, 118, 119, 120] (by decide +kernel) (by decide +kernel)
set_option maxRecDepth 20000 in
theorem gX7_beginAnswering_X3_size : GoodIn wsX7_beginAnswering (wsV RX7 153 RX3 yX3_size wsX3_size) := goodIn_app (goodIn_of _ (by decide +kernel)) ggX7_beginAnswering_X3_size
set_option maxRecDepth 20000 in
theorem ggX7_beginAnswering_X3_look : GoodIn wsX7_beginAnswering wsX3_look := goodIn_r _ [15, 11, 16, 17, 18, 9, 19, 20, 21, 22, 23, 24, 25, 26, 27, 28, 29, 30, 31, 32, 33, 34, 35, 36, 37, 38, 39, 40, 41, 42, 43, 44, 45, 46, 47, 48, 49, 50, 51, 52, 53, 54, 55, 56, 57, 58, 59, 60, 61, 62, 63, 64, 65, 66, 67, 68, 69, 70, 71, 72, 73, 74, 75, 76, 77, 78, 79, 80, 81, 82, 83, 84, 85, 86, 87, 88, 89, 90, 91, 92, 93, 94, 95, 96, 97, 98, 99, 100, 101, 102, 103, 104, 105, 106, 107, 108, 109, 117, 118, 119, 120, 121, 122, 123, 124, 125, 126, 127, 128, 129, 130, 131, 132] (by decide +kernel) (by decide +kernel)
set_option maxRecDepth 20000 in
theorem gX7_beginAnswering_X3_look : GoodIn wsX7_beginAnswering (wsV RX7 161 RX3 yX3_look wsX3_look) := goodIn_app (goodIn_of _ (by decide +kernel)) ggX7_beginAnswering_X3_look
set_option maxRecDepth 20000 in
theorem ggX7_keepAnswers_X1_made : GoodIn wsX7_keepAnswers wsX1_made := goodIn_r _ [12, 13, 84, 85] (by decide +kernel) (by decide +kernel)
set_option maxRecDepth 20000 in
theorem gX7_keepAnswers_X1_made : GoodIn wsX7_keepAnswers (wsV RX7 233 RX1 yX1_made wsX1_made) := goodIn_app (goodIn_of _ (by decide +kernel)) ggX7_keepAnswers_X1_made
set_option maxRecDepth 20000 in
theorem ggX7_keepAnswers_X6_isOver : GoodIn wsX7_keepAnswers wsX6_isOver := goodIn_r _ [18, 19, 86, 87, 88, 89, 90, 91] (by decide +kernel) (by decide +kernel)
set_option maxRecDepth 20000 in
theorem gX7_keepAnswers_X6_isOver : GoodIn wsX7_keepAnswers (wsV RX7 237 RX6 yX6_isOver wsX6_isOver) := goodIn_app (goodIn_of _ (by decide +kernel)) ggX7_keepAnswers_X6_isOver
set_option maxRecDepth 20000 in
theorem ggX7_keepAnswers_X6_size : GoodIn wsX7_keepAnswers wsX6_size := goodIn_r _ [23, 24, 86, 87, 88, 89, 90, 91] (by decide +kernel) (by decide +kernel)
set_option maxRecDepth 20000 in
theorem gX7_keepAnswers_X6_size : GoodIn wsX7_keepAnswers (wsV RX7 242 RX6 yX6_size wsX6_size) := goodIn_app (goodIn_of _ (by decide +kernel)) ggX7_keepAnswers_X6_size
set_option maxRecDepth 20000 in
theorem ggX7_keepAnswers_X3_variableBits : GoodIn wsX7_keepAnswers wsX3_variableBits := goodIn_r _ [29, 30, 31, 32, 33, 28, 34, 35, 36, 37, 38, 39, 40, 41, 42, 43, 92, 93, 94, 95, 96, 97, 98, 99] (by decide +kernel) (by decide +kernel)
set_option maxRecDepth 20000 in
theorem gX7_keepAnswers_X3_variableBits : GoodIn wsX7_keepAnswers (wsV RX7 174 RX3 yX3_variableBits wsX3_variableBits) := goodIn_app (goodIn_of _ (by decide +kernel)) ggX7_keepAnswers_X3_variableBits
set_option maxRecDepth 20000 in
theorem ggX7_keepAnswers_X6_sort : GoodIn wsX7_keepAnswers wsX6_sort := goodIn_r _ [47, 48, 49, 50, 51, 52, 53, 17, 54, 55, 24, 56, 57, 58, 59, 60, 61, 62, 63, 64, 65, 66, 67, 68, 69, 70, 71, 86, 87, 88, 89, 90, 91] (by decide +kernel) (by decide +kernel)
set_option maxRecDepth 20000 in
theorem gX7_keepAnswers_X6_sort : GoodIn wsX7_keepAnswers (wsV RX7 245 RX6 yX6_sort wsX6_sort) := goodIn_app (goodIn_of _ (by decide +kernel)) ggX7_keepAnswers_X6_sort
set_option maxRecDepth 20000 in
theorem ggX7_keepAnswers_X6_row : GoodIn wsX7_keepAnswers wsX6_row := goodIn_r _ [75, 56, 61, 49, 62, 86, 87, 88, 89, 90, 91] (by decide +kernel) (by decide +kernel)
set_option maxRecDepth 20000 in
theorem gX7_keepAnswers_X6_row : GoodIn wsX7_keepAnswers (wsV RX7 248 RX6 yX6_row wsX6_row) := goodIn_app (goodIn_of _ (by decide +kernel)) ggX7_keepAnswers_X6_row
set_option maxRecDepth 20000 in
theorem ggX7_keepAnswers_X7_put : GoodIn wsX7_keepAnswers wsX7_put := goodIn_r _ [60] (by decide +kernel) (by decide +kernel)
set_option maxRecDepth 20000 in
theorem gX7_keepAnswers_X7_put : GoodIn wsX7_keepAnswers (va_wsS RX7 251 yX7_put wsX7_put) := goodIn_app (goodIn_of _ (by decide +kernel)) ggX7_keepAnswers_X7_put
set_option maxRecDepth 20000 in
theorem ggX7_partOf_X7_partShift : GoodIn wsX7_partOf wsX7_partShift := goodIn_r _ [4] (by decide +kernel) (by decide +kernel)
set_option maxRecDepth 20000 in
theorem gX7_partOf_X7_partShift : GoodIn wsX7_partOf (va_wsS RX7 142 yX7_partShift wsX7_partShift) := goodIn_app (goodIn_of _ (by decide +kernel)) ggX7_partOf_X7_partShift
set_option maxRecDepth 20000 in
theorem ggX7_cellOf_X7_cellShift : GoodIn wsX7_cellOf wsX7_cellShift := goodIn_r _ [4] (by decide +kernel) (by decide +kernel)
set_option maxRecDepth 20000 in
theorem gX7_cellOf_X7_cellShift : GoodIn wsX7_cellOf (va_wsS RX7 255 yX7_cellShift wsX7_cellShift) := goodIn_app (goodIn_of _ (by decide +kernel)) ggX7_cellOf_X7_cellShift
set_option maxRecDepth 20000 in
theorem ggX7_rowMask_X7_hasBit : GoodIn wsX7_rowMask wsX7_hasBit := goodIn_r _ [4] (by decide +kernel) (by decide +kernel)
set_option maxRecDepth 20000 in
theorem gX7_rowMask_X7_hasBit : GoodIn wsX7_rowMask (va_wsS RX7 212 yX7_hasBit wsX7_hasBit) := goodIn_app (goodIn_of _ (by decide +kernel)) ggX7_rowMask_X7_hasBit
set_option maxRecDepth 20000 in
theorem ggX7_rowMask_X7_cellShift : GoodIn wsX7_rowMask wsX7_cellShift := goodIn_r _ [7] (by decide +kernel) (by decide +kernel)
set_option maxRecDepth 20000 in
theorem gX7_rowMask_X7_cellShift : GoodIn wsX7_rowMask (va_wsS RX7 255 yX7_cellShift wsX7_cellShift) := goodIn_app (goodIn_of _ (by decide +kernel)) ggX7_rowMask_X7_cellShift
set_option maxRecDepth 20000 in
theorem ggX7_maskFor_X7_partShift : GoodIn wsX7_maskFor wsX7_partShift := goodIn_r _ [4] (by decide +kernel) (by decide +kernel)
set_option maxRecDepth 20000 in
theorem gX7_maskFor_X7_partShift : GoodIn wsX7_maskFor (va_wsS RX7 142 yX7_partShift wsX7_partShift) := goodIn_app (goodIn_of _ (by decide +kernel)) ggX7_maskFor_X7_partShift
set_option maxRecDepth 20000 in
theorem ggX7_orderOf_X7_partOf : GoodIn wsX7_orderOf wsX7_partOf := goodIn_r _ [4, 5, 6, 3, 7] (by decide +kernel) (by decide +kernel)
set_option maxRecDepth 20000 in
theorem gX7_orderOf_X7_partOf : GoodIn wsX7_orderOf (va_wsS RX7 106 yX7_partOf wsX7_partOf) := goodIn_app (goodIn_of _ (by decide +kernel)) ggX7_orderOf_X7_partOf
set_option maxRecDepth 20000 in
theorem ggX8_areTerms_X8_isIn : GoodIn wsX8_areTerms wsX8_isIn := goodIn_r _ [4] (by decide +kernel) (by decide +kernel)
set_option maxRecDepth 20000 in
theorem gX8_areTerms_X8_isIn : GoodIn wsX8_areTerms (va_wsS RX8 35 yX8_isIn wsX8_isIn) := goodIn_app (goodIn_of _ (by decide +kernel)) ggX8_areTerms_X8_isIn
set_option maxRecDepth 20000 in
theorem ggX8_state_X8_areTerms : GoodIn wsX8_state wsX8_areTerms := goodIn_r _ [8, 9, 10, 7, 11] (by decide +kernel) (by decide +kernel)
set_option maxRecDepth 20000 in
theorem gX8_state_X8_areTerms : GoodIn wsX8_state (va_wsS RX8 45 yX8_areTerms wsX8_areTerms) := goodIn_app (goodIn_of _ (by decide +kernel)) ggX8_state_X8_areTerms
set_option maxRecDepth 20000 in
theorem ggX8_state_X8_find : GoodIn wsX8_state wsX8_find := goodIn_r _ [15, 2, 16, 4, 26, 27, 28, 29, 30, 31, 32, 33, 34, 35, 36, 37, 38, 39] (by decide +kernel) (by decide +kernel)
set_option maxRecDepth 20000 in
theorem gX8_state_X8_find : GoodIn wsX8_state (wsV RX8 49 RX8 yX8_find wsX8_find) := goodIn_app (goodIn_of _ (by decide +kernel)) ggX8_state_X8_find
set_option maxRecDepth 20000 in
theorem ggX8_state_X8_unknown : GoodIn wsX8_state wsX8_unknown := goodIn_r _ [20, 21, 26, 27, 28, 29, 30, 31, 32, 33, 34, 35, 36, 37, 38, 39] (by decide +kernel) (by decide +kernel)
set_option maxRecDepth 20000 in
theorem gX8_state_X8_unknown : GoodIn wsX8_state (wsV RX8 53 RX8 yX8_unknown wsX8_unknown) := goodIn_app (goodIn_of _ (by decide +kernel)) ggX8_state_X8_unknown
set_option maxRecDepth 20000 in
theorem ggX8_state_X8_numbered : GoodIn wsX8_state wsX8_numbered := goodIn_r _ [25, 21, 3, 16, 26, 27, 28, 29, 30, 31, 32, 33, 34, 35, 36, 37, 38, 39] (by decide +kernel) (by decide +kernel)
set_option maxRecDepth 20000 in
theorem gX8_state_X8_numbered : GoodIn wsX8_state (wsV RX8 56 RX8 yX8_numbered wsX8_numbered) := goodIn_app (goodIn_of _ (by decide +kernel)) ggX8_state_X8_numbered
set_option maxRecDepth 20000 in
theorem ggX8_takeBack_X8_areTerms : GoodIn wsX8_takeBack wsX8_areTerms := goodIn_r _ [7, 8, 9, 6, 10] (by decide +kernel) (by decide +kernel)
set_option maxRecDepth 20000 in
theorem gX8_takeBack_X8_areTerms : GoodIn wsX8_takeBack (va_wsS RX8 45 yX8_areTerms wsX8_areTerms) := goodIn_app (goodIn_of _ (by decide +kernel)) ggX8_takeBack_X8_areTerms
set_option maxRecDepth 20000 in
theorem ggX8_takeBack_X8_find : GoodIn wsX8_takeBack wsX8_find := goodIn_r _ [14, 2, 15, 3, 16, 17, 18, 19, 20, 21, 22, 23, 24, 25, 26, 27, 28, 29] (by decide +kernel) (by decide +kernel)
set_option maxRecDepth 20000 in
theorem gX8_takeBack_X8_find : GoodIn wsX8_takeBack (wsV RX8 49 RX8 yX8_find wsX8_find) := goodIn_app (goodIn_of _ (by decide +kernel)) ggX8_takeBack_X8_find
set_option maxRecDepth 20000 in
theorem ggX8_inOrder_X8_rank : GoodIn wsX8_inOrder wsX8_rank := goodIn_r _ [6, 7, 8, 9, 10, 11, 12, 13, 14, 15, 16, 17, 18, 19, 20, 21] (by decide +kernel) (by decide +kernel)
set_option maxRecDepth 20000 in
theorem gX8_inOrder_X8_rank : GoodIn wsX8_inOrder (wsV RX8 60 RX8 yX8_rank wsX8_rank) := goodIn_app (goodIn_of _ (by decide +kernel)) ggX8_inOrder_X8_rank
set_option maxRecDepth 20000 in
theorem ggX8_termAt_X8_isIn : GoodIn wsX8_termAt wsX8_isIn := goodIn_r _ [8] (by decide +kernel) (by decide +kernel)
set_option maxRecDepth 20000 in
theorem gX8_termAt_X8_isIn : GoodIn wsX8_termAt (va_wsS RX8 35 yX8_isIn wsX8_isIn) := goodIn_app (goodIn_of _ (by decide +kernel)) ggX8_termAt_X8_isIn
set_option maxRecDepth 20000 in
theorem ggX8_termAt_X8_inOrder : GoodIn wsX8_termAt wsX8_inOrder := goodIn_r _ [12, 1, 13, 14, 15, 7, 16, 4, 17, 18, 19, 20, 21, 22, 23, 24, 25, 26, 27, 28, 29, 30] (by decide +kernel) (by decide +kernel)
set_option maxRecDepth 20000 in
theorem gX8_termAt_X8_inOrder : GoodIn wsX8_termAt (wsV RX8 64 RX8 yX8_inOrder wsX8_inOrder) := goodIn_app (goodIn_of _ (by decide +kernel)) ggX8_termAt_X8_inOrder
set_option maxRecDepth 20000 in
theorem ggX8_numberOf_X8_isIn : GoodIn wsX8_numberOf wsX8_isIn := goodIn_r _ [6] (by decide +kernel) (by decide +kernel)
set_option maxRecDepth 20000 in
theorem gX8_numberOf_X8_isIn : GoodIn wsX8_numberOf (va_wsS RX8 35 yX8_isIn wsX8_isIn) := goodIn_app (goodIn_of _ (by decide +kernel)) ggX8_numberOf_X8_isIn
set_option maxRecDepth 20000 in
theorem ggX8_termOf_X8_isIn : GoodIn wsX8_termOf wsX8_isIn := goodIn_r _ [7] (by decide +kernel) (by decide +kernel)
set_option maxRecDepth 20000 in
theorem gX8_termOf_X8_isIn : GoodIn wsX8_termOf (va_wsS RX8 35 yX8_isIn wsX8_isIn) := goodIn_app (goodIn_of _ (by decide +kernel)) ggX8_termOf_X8_isIn
set_option maxRecDepth 20000 in
theorem ggX8_count_X8_areTerms : GoodIn wsX8_count wsX8_areTerms := goodIn_r _ [8, 9, 10, 7, 11] (by decide +kernel) (by decide +kernel)
set_option maxRecDepth 20000 in
theorem gX8_count_X8_areTerms : GoodIn wsX8_count (va_wsS RX8 45 yX8_areTerms wsX8_areTerms) := goodIn_app (goodIn_of _ (by decide +kernel)) ggX8_count_X8_areTerms
set_option maxRecDepth 20000 in
theorem ggX8_seek_X8_isIn : GoodIn wsX8_seek wsX8_isIn := goodIn_r _ [8] (by decide +kernel) (by decide +kernel)
set_option maxRecDepth 20000 in
theorem gX8_seek_X8_isIn : GoodIn wsX8_seek (va_wsS RX8 35 yX8_isIn wsX8_isIn) := goodIn_app (goodIn_of _ (by decide +kernel)) ggX8_seek_X8_isIn
set_option maxRecDepth 20000 in
theorem ggX8_addPattern_X8_areTerms : GoodIn wsX8_addPattern wsX8_areTerms := goodIn_r _ [7, 8, 9, 6, 10] (by decide +kernel) (by decide +kernel)
set_option maxRecDepth 20000 in
theorem gX8_addPattern_X8_areTerms : GoodIn wsX8_addPattern (va_wsS RX8 45 yX8_areTerms wsX8_areTerms) := goodIn_app (goodIn_of _ (by decide +kernel)) ggX8_addPattern_X8_areTerms
set_option maxRecDepth 20000 in
theorem ggX8_matching_X8_frees : GoodIn wsX8_matching wsX8_frees := goodIn_r _ [6, 7, 15, 16, 17, 18, 19, 20, 21, 22, 23, 24, 25, 26, 27, 28] (by decide +kernel) (by decide +kernel)
set_option maxRecDepth 20000 in
theorem gX8_matching_X8_frees : GoodIn wsX8_matching (wsV RX8 70 RX8 yX8_frees wsX8_frees) := goodIn_app (goodIn_of _ (by decide +kernel)) ggX8_matching_X8_frees
set_option maxRecDepth 20000 in
theorem ggX8_matching_X8_tries : GoodIn wsX8_matching wsX8_tries := goodIn_r _ [11, 7, 12, 13, 14, 15, 16, 17, 18, 19, 20, 21, 22, 23, 24, 25, 26, 27, 28] (by decide +kernel) (by decide +kernel)
set_option maxRecDepth 20000 in
theorem gX8_matching_X8_tries : GoodIn wsX8_matching (wsV RX8 73 RX8 yX8_tries wsX8_tries) := goodIn_app (goodIn_of _ (by decide +kernel)) ggX8_matching_X8_tries
set_option maxRecDepth 20000 in
theorem ggX8_matches_X8_isIn : GoodIn wsX8_matches wsX8_isIn := goodIn_r _ [6] (by decide +kernel) (by decide +kernel)
set_option maxRecDepth 20000 in
theorem gX8_matches_X8_isIn : GoodIn wsX8_matches (va_wsS RX8 35 yX8_isIn wsX8_isIn) := goodIn_app (goodIn_of _ (by decide +kernel)) ggX8_matches_X8_isIn
set_option maxRecDepth 20000 in
theorem ggX8_matches_X8_matching : GoodIn wsX8_matches wsX8_matching := goodIn_r _ [10, 11, 12, 13, 14, 5, 15, 16, 17, 18, 19, 20, 21, 22, 23, 24, 25, 26, 27, 28, 29, 30, 31, 32, 33, 34, 35, 36, 37] (by decide +kernel) (by decide +kernel)
set_option maxRecDepth 20000 in
theorem gX8_matches_X8_matching : GoodIn wsX8_matches (wsV RX8 76 RX8 yX8_matching wsX8_matching) := goodIn_app (goodIn_of _ (by decide +kernel)) ggX8_matches_X8_matching
set_option maxRecDepth 20000 in
theorem ggX8_allVariables_X8_variablesOf : GoodIn wsX8_allVariables wsX8_variablesOf := goodIn_r _ [6, 7, 8, 9, 10, 11, 12, 13, 14, 15, 16, 17, 18, 19, 20, 21] (by decide +kernel) (by decide +kernel)
set_option maxRecDepth 20000 in
theorem gX8_allVariables_X8_variablesOf : GoodIn wsX8_allVariables (wsV RX8 79 RX8 yX8_variablesOf wsX8_variablesOf) := goodIn_app (goodIn_of _ (by decide +kernel)) ggX8_allVariables_X8_variablesOf
set_option maxRecDepth 20000 in
theorem ggX8_variables_X8_allVariables : GoodIn wsX8_variables wsX8_allVariables := goodIn_r _ [6, 7, 8, 9, 10, 5, 11, 12, 13, 14, 15, 16, 17, 18, 19, 20, 21, 22, 23, 24, 25, 26] (by decide +kernel) (by decide +kernel)
set_option maxRecDepth 20000 in
theorem gX8_variables_X8_allVariables : GoodIn wsX8_variables (wsV RX8 82 RX8 yX8_allVariables wsX8_allVariables) := goodIn_app (goodIn_of _ (by decide +kernel)) ggX8_variables_X8_allVariables
set_option maxRecDepth 20000 in
theorem ggX8_joined_X8_isIn : GoodIn wsX8_joined wsX8_isIn := goodIn_r _ [6] (by decide +kernel) (by decide +kernel)
set_option maxRecDepth 20000 in
theorem gX8_joined_X8_isIn : GoodIn wsX8_joined (va_wsS RX8 35 yX8_isIn wsX8_isIn) := goodIn_app (goodIn_of _ (by decide +kernel)) ggX8_joined_X8_isIn
set_option maxRecDepth 20000 in
theorem ggX8_joined_X8_variablesOf : GoodIn wsX8_joined wsX8_variablesOf := goodIn_r _ [10, 11, 28, 29, 30, 31, 32, 33, 34, 35, 36, 37, 38, 39, 40, 41] (by decide +kernel) (by decide +kernel)
set_option maxRecDepth 20000 in
theorem gX8_joined_X8_variablesOf : GoodIn wsX8_joined (wsV RX8 79 RX8 yX8_variablesOf wsX8_variablesOf) := goodIn_app (goodIn_of _ (by decide +kernel)) ggX8_joined_X8_variablesOf
set_option maxRecDepth 20000 in
theorem ggX8_joined_X8_matching : GoodIn wsX8_joined wsX8_matching := goodIn_r _ [15, 16, 17, 18, 19, 5, 20, 21, 22, 23, 24, 25, 11, 26, 27, 28, 29, 30, 31, 32, 33, 34, 35, 36, 37, 38, 39, 40, 41] (by decide +kernel) (by decide +kernel)
set_option maxRecDepth 20000 in
theorem gX8_joined_X8_matching : GoodIn wsX8_joined (wsV RX8 76 RX8 yX8_matching wsX8_matching) := goodIn_app (goodIn_of _ (by decide +kernel)) ggX8_joined_X8_matching
set_option maxRecDepth 20000 in
theorem ggX8_goesThrough_X8_frees : GoodIn wsX8_goesThrough wsX8_frees := goodIn_r _ [8, 9, 22, 23, 24, 25, 26, 27, 28, 29, 30, 31, 32, 33, 34, 35] (by decide +kernel) (by decide +kernel)
set_option maxRecDepth 20000 in
theorem gX8_goesThrough_X8_frees : GoodIn wsX8_goesThrough (wsV RX8 70 RX8 yX8_frees wsX8_frees) := goodIn_app (goodIn_of _ (by decide +kernel)) ggX8_goesThrough_X8_frees
set_option maxRecDepth 20000 in
theorem ggX8_goesThrough_X8_tries : GoodIn wsX8_goesThrough wsX8_tries := goodIn_r _ [13, 9, 14, 15, 16, 22, 23, 24, 25, 26, 27, 28, 29, 30, 31, 32, 33, 34, 35] (by decide +kernel) (by decide +kernel)
set_option maxRecDepth 20000 in
theorem gX8_goesThrough_X8_tries : GoodIn wsX8_goesThrough (wsV RX8 73 RX8 yX8_tries wsX8_tries) := goodIn_app (goodIn_of _ (by decide +kernel)) ggX8_goesThrough_X8_tries
set_option maxRecDepth 20000 in
theorem ggX8_goesThrough_X8_finds : GoodIn wsX8_goesThrough wsX8_finds := goodIn_r _ [20, 9, 1, 21, 22, 23, 24, 25, 26, 27, 28, 29, 30, 31, 32, 33, 34, 35] (by decide +kernel) (by decide +kernel)
set_option maxRecDepth 20000 in
theorem gX8_goesThrough_X8_finds : GoodIn wsX8_goesThrough (wsV RX8 89 RX8 yX8_finds wsX8_finds) := goodIn_app (goodIn_of _ (by decide +kernel)) ggX8_goesThrough_X8_finds
set_option maxRecDepth 20000 in
theorem ggX8_answersAll_X8_goesThrough : GoodIn wsX8_answersAll wsX8_goesThrough := goodIn_r _ [12, 3, 13, 2, 14, 15, 16, 11, 17, 18, 19, 20, 21, 22, 23, 24, 25, 26, 27, 28, 29, 7, 38, 39, 40, 41, 42, 43, 44, 45, 46, 47, 48, 49, 50, 51] (by decide +kernel) (by decide +kernel)
set_option maxRecDepth 20000 in
theorem gX8_answersAll_X8_goesThrough : GoodIn wsX8_answersAll (wsV RX8 93 RX8 yX8_goesThrough wsX8_goesThrough) := goodIn_app (goodIn_of _ (by decide +kernel)) ggX8_answersAll_X8_goesThrough
set_option maxRecDepth 20000 in
theorem ggX8_answersAll_X8_allVariables : GoodIn wsX8_answersAll wsX8_allVariables := goodIn_r _ [33, 2, 34, 35, 36, 11, 37, 23, 38, 39, 40, 41, 42, 43, 44, 45, 46, 47, 48, 49, 50, 51] (by decide +kernel) (by decide +kernel)
set_option maxRecDepth 20000 in
theorem gX8_answersAll_X8_allVariables : GoodIn wsX8_answersAll (wsV RX8 82 RX8 yX8_allVariables wsX8_allVariables) := goodIn_app (goodIn_of _ (by decide +kernel)) ggX8_answersAll_X8_allVariables
set_option maxRecDepth 20000 in
theorem ggX8_answerByMerging_X8_answersAll : GoodIn wsX8_answerByMerging wsX8_answersAll := goodIn_r _ [5, 6, 7, 8, 9, 10, 11, 12, 13, 14, 15, 4, 16, 17, 18, 19, 20, 21, 22, 23, 24, 25, 26, 27, 28, 29, 30, 31, 32, 33, 34, 35, 36, 37, 38, 39, 40, 41, 42, 43, 44, 45, 46, 47, 48, 49, 50, 51, 52, 53, 54, 55] (by decide +kernel) (by decide +kernel)
set_option maxRecDepth 20000 in
theorem gX8_answerByMerging_X8_answersAll : GoodIn wsX8_answerByMerging (wsV RX8 102 RX8 yX8_answersAll wsX8_answersAll) := goodIn_app (goodIn_of _ (by decide +kernel)) ggX8_answerByMerging_X8_answersAll
set_option maxRecDepth 20000 in
theorem ggX8_answerByVariables_X8_answersAll : GoodIn wsX8_answerByVariables wsX8_answersAll := goodIn_r _ [5, 6, 7, 8, 9, 10, 11, 12, 13, 14, 15, 4, 16, 17, 18, 19, 20, 21, 22, 23, 24, 25, 26, 27, 28, 29, 30, 31, 32, 33, 34, 35, 36, 37, 38, 39, 40, 41, 42, 43, 44, 45, 46, 47, 48, 49, 50, 51, 52, 53, 54, 55] (by decide +kernel) (by decide +kernel)
set_option maxRecDepth 20000 in
theorem gX8_answerByVariables_X8_answersAll : GoodIn wsX8_answerByVariables (wsV RX8 102 RX8 yX8_answersAll wsX8_answersAll) := goodIn_app (goodIn_of _ (by decide +kernel)) ggX8_answerByVariables_X8_answersAll
set_option maxRecDepth 20000 in
theorem ggX8_answerByLoops_X8_answersAll : GoodIn wsX8_answerByLoops wsX8_answersAll := goodIn_r _ [5, 6, 7, 8, 9, 10, 11, 12, 13, 14, 15, 4, 16, 17, 18, 19, 20, 21, 22, 23, 24, 25, 26, 27, 28, 29, 30, 31, 32, 33, 34, 35, 36, 37, 38, 39, 40, 41, 42, 43, 44, 45, 46, 47, 48, 49, 50, 51, 52, 53, 54, 55] (by decide +kernel) (by decide +kernel)
set_option maxRecDepth 20000 in
theorem gX8_answerByLoops_X8_answersAll : GoodIn wsX8_answerByLoops (wsV RX8 102 RX8 yX8_answersAll wsX8_answersAll) := goodIn_app (goodIn_of _ (by decide +kernel)) ggX8_answerByLoops_X8_answersAll
set_option maxRecDepth 20000 in
theorem ggX8_answer_X8_isIn : GoodIn wsX8_answer wsX8_isIn := goodIn_r _ [9] (by decide +kernel) (by decide +kernel)
set_option maxRecDepth 20000 in
theorem gX8_answer_X8_isIn : GoodIn wsX8_answer (va_wsS RX8 35 yX8_isIn wsX8_isIn) := goodIn_app (goodIn_of _ (by decide +kernel)) ggX8_answer_X8_isIn
set_option maxRecDepth 20000 in
theorem ggX8_answer_X8_bindingOf : GoodIn wsX8_answer wsX8_bindingOf := goodIn_r _ [13] (by decide +kernel) (by decide +kernel)
set_option maxRecDepth 20000 in
theorem gX8_answer_X8_bindingOf : GoodIn wsX8_answer (wsV RX8 105 RX8 yX8_bindingOf wsX8_bindingOf) := goodIn_app (goodIn_of _ (by decide +kernel)) ggX8_answer_X8_bindingOf
set_option maxRecDepth 20000 in
theorem ggX8_termsFor_X8_isIn : GoodIn wsX8_termsFor wsX8_isIn := goodIn_r _ [8] (by decide +kernel) (by decide +kernel)
set_option maxRecDepth 20000 in
theorem gX8_termsFor_X8_isIn : GoodIn wsX8_termsFor (va_wsS RX8 35 yX8_isIn wsX8_isIn) := goodIn_app (goodIn_of _ (by decide +kernel)) ggX8_termsFor_X8_isIn
set_option maxRecDepth 20000 in
theorem ggX8_termsFor_X8_bindingOf : GoodIn wsX8_termsFor wsX8_bindingOf := goodIn_r _ [12] (by decide +kernel) (by decide +kernel)
set_option maxRecDepth 20000 in
theorem gX8_termsFor_X8_bindingOf : GoodIn wsX8_termsFor (wsV RX8 105 RX8 yX8_bindingOf wsX8_bindingOf) := goodIn_app (goodIn_of _ (by decide +kernel)) ggX8_termsFor_X8_bindingOf
set_option maxRecDepth 20000 in
theorem ggL_state_X7_state : GoodIn wsL_state wsX7_state := goodIn_ca (goodIn_ca (goodIn_r _ [7, 8, 9, 10, 11, 12, 13, 14, 15, 6, 16, 17, 18, 19, 20, 21, 22, 23, 24, 25, 26, 27, 28, 29, 30, 31, 32, 33, 34, 35, 36, 37, 38, 39, 40, 41, 42, 43, 44, 45, 46, 47, 48, 49, 50, 51, 52, 53, 54, 55, 56, 57, 58, 59, 60, 61, 62, 63, 64, 65, 66, 67, 68, 69, 70, 71, 72, 73, 74, 75, 76, 77, 78, 79, 80, 81, 82, 83, 84, 85, 86, 87, 88, 89, 90, 91, 92, 93, 94, 95, 96, 97, 98, 99, 100, 101, 102, 103] (by decide +kernel) (by decide +kernel)) (goodIn_sub (fun _ h => List.mem_cons_of_mem _ (List.mem_append_left _ (List.mem_append_right _ h))) (by decide +kernel))) (goodIn_sub (fun _ h => List.mem_cons_of_mem _ (List.mem_append_right _ h)) (by decide +kernel))
set_option maxRecDepth 20000 in
theorem gL_state_X7_state : GoodIn wsL_state (wsV RL 7 RX7 yX7_state wsX7_state) := goodIn_app (goodIn_of _ (by decide +kernel)) ggL_state_X7_state
set_option maxRecDepth 20000 in
theorem ggL_takeBack_X7_takeBack : GoodIn wsL_takeBack wsX7_takeBack := goodIn_ca (goodIn_r _ [6, 7, 8, 9, 10, 11, 12, 5, 13, 14, 15, 16, 17, 18, 19, 20, 21, 22, 23, 24, 25, 26, 27, 28, 29, 30, 31, 32, 33, 34, 35, 36, 37, 38, 39, 40, 41, 42, 43, 44, 45, 46, 47, 48, 49, 50, 51, 52, 53, 54, 55, 56, 57, 58, 59, 60, 61, 62, 63, 64, 65, 66, 67, 68, 69, 70, 71, 72, 73, 74, 75, 76, 77, 78, 79, 80, 81, 82, 83] (by decide +kernel) (by decide +kernel)) (goodIn_sub (fun _ h => List.mem_cons_of_mem _ (List.mem_append_right _ h)) (by decide +kernel))
set_option maxRecDepth 20000 in
theorem gL_takeBack_X7_takeBack : GoodIn wsL_takeBack (wsV RL 17 RX7 yX7_takeBack wsX7_takeBack) := goodIn_app (goodIn_of _ (by decide +kernel)) ggL_takeBack_X7_takeBack
set_option maxRecDepth 20000 in
theorem ggL_termAt_X7_termAt : GoodIn wsL_termAt wsX7_termAt := goodIn_ca (goodIn_ca (goodIn_r _ [7, 8, 9, 10, 11, 12, 13, 14, 15, 6, 16, 17, 18, 19, 20, 21, 22, 23, 24, 25, 26, 27, 28, 29, 30, 31, 32, 33, 34, 35, 36, 37, 38, 39, 40, 41, 42, 43, 44, 45, 46, 47, 48, 49, 50, 51, 52, 53, 54, 55, 56, 57, 58, 59, 60, 61, 62, 63, 64, 65, 66, 67, 68, 69, 70, 71, 72, 73, 74, 75] (by decide +kernel) (by decide +kernel)) (goodIn_sub (fun _ h => List.mem_cons_of_mem _ (List.mem_append_left _ (List.mem_append_right _ h))) (by decide +kernel))) (goodIn_sub (fun _ h => List.mem_cons_of_mem _ (List.mem_append_right _ h)) (by decide +kernel))
set_option maxRecDepth 20000 in
theorem gL_termAt_X7_termAt : GoodIn wsL_termAt (wsV RL 20 RX7 yX7_termAt wsX7_termAt) := goodIn_app (goodIn_of _ (by decide +kernel)) ggL_termAt_X7_termAt
set_option maxRecDepth 20000 in
theorem ggL_numberOf_X7_numberOf : GoodIn wsL_numberOf wsX7_numberOf := goodIn_ca (goodIn_r _ [6, 7, 8, 9, 10, 11, 5, 12, 13, 14, 15, 16, 17, 18, 19, 20, 21, 22, 23, 24, 25, 26, 27, 28, 29, 30, 31, 32, 33, 34, 35] (by decide +kernel) (by decide +kernel)) (goodIn_sub (fun _ h => List.mem_cons_of_mem _ (List.mem_append_right _ h)) (by decide +kernel))
set_option maxRecDepth 20000 in
theorem gL_numberOf_X7_numberOf : GoodIn wsL_numberOf (wsV RL 26 RX7 yX7_numberOf wsX7_numberOf) := goodIn_app (goodIn_of _ (by decide +kernel)) ggL_numberOf_X7_numberOf
set_option maxRecDepth 20000 in
theorem ggL_termOf_X7_termOf : GoodIn wsL_termOf wsX7_termOf := goodIn_ca (goodIn_r _ [6, 7, 8, 9, 10, 11, 12, 13, 14, 15, 16, 17, 18, 19, 20, 21, 5, 22, 23, 24, 25, 26, 27, 28, 29, 30, 31, 32] (by decide +kernel) (by decide +kernel)) (goodIn_sub (fun _ h => List.mem_cons_of_mem _ (List.mem_append_right _ h)) (by decide +kernel))
set_option maxRecDepth 20000 in
theorem gL_termOf_X7_termOf : GoodIn wsL_termOf (wsV RL 30 RX7 yX7_termOf wsX7_termOf) := goodIn_app (goodIn_of _ (by decide +kernel)) ggL_termOf_X7_termOf
set_option maxRecDepth 20000 in
theorem ggL_count_X7_count : GoodIn wsL_count wsX7_count := goodIn_ca (goodIn_r _ [6, 7, 8, 9, 10, 11, 12, 5, 13, 14, 15, 16, 17, 18, 19, 20, 21, 22, 23, 24, 25, 26, 27, 28, 29, 30, 31, 32, 33, 34, 35, 36, 37, 38, 39, 40, 41, 42, 43, 44, 45, 46, 47, 48, 49, 50, 51, 52, 53, 54, 55, 56, 57, 58, 59, 60, 61, 62, 63, 64, 65, 66, 67, 68, 69, 70, 71, 72, 73, 74, 75, 76, 77, 78, 79, 80, 81, 82, 83] (by decide +kernel) (by decide +kernel)) (goodIn_sub (fun _ h => List.mem_cons_of_mem _ (List.mem_append_right _ h)) (by decide +kernel))
set_option maxRecDepth 20000 in
theorem gL_count_X7_count : GoodIn wsL_count (wsV RL 33 RX7 yX7_count wsX7_count) := goodIn_app (goodIn_of _ (by decide +kernel)) ggL_count_X7_count
set_option maxRecDepth 20000 in
theorem ggL_seek_X7_seek : GoodIn wsL_seek wsX7_seek := goodIn_ca (goodIn_ca (goodIn_r _ [7, 8, 9, 10, 11, 12, 13, 14, 15, 6, 16, 17, 18, 19, 20, 21, 22, 23, 24, 25, 26, 27, 28, 29, 30, 31, 32, 33, 34, 35, 36, 37, 38, 39, 40, 41, 42, 43, 44, 45, 46, 47, 48, 49, 50, 51, 52, 53, 54, 55, 56, 57, 58, 59, 60, 61, 62, 63, 64, 65, 66, 67, 68, 69, 70, 71, 72] (by decide +kernel) (by decide +kernel)) (goodIn_sub (fun _ h => List.mem_cons_of_mem _ (List.mem_append_left _ (List.mem_append_right _ h))) (by decide +kernel))) (goodIn_sub (fun _ h => List.mem_cons_of_mem _ (List.mem_append_right _ h)) (by decide +kernel))
set_option maxRecDepth 20000 in
theorem gL_seek_X7_seek : GoodIn wsL_seek (wsV RL 36 RX7 yX7_seek wsX7_seek) := goodIn_app (goodIn_of _ (by decide +kernel)) ggL_seek_X7_seek
set_option maxRecDepth 20000 in
theorem ggL_addPattern_X7_addPattern : GoodIn wsL_addPattern wsX7_addPattern := goodIn_ca (goodIn_ca (goodIn_r _ [7, 8, 9, 10, 11, 12, 13, 14, 6, 15, 16, 17, 18, 19, 20, 21, 22, 23, 24, 25, 26, 27, 28, 29, 30, 31, 32, 33, 34, 35, 36, 37, 38, 39, 40, 41, 42, 43, 44, 45, 46, 47, 48, 49, 50, 51, 52, 53, 54, 55, 56, 57, 58, 59, 60] (by decide +kernel) (by decide +kernel)) (goodIn_sub (fun _ h => List.mem_cons_of_mem _ (List.mem_append_left _ (List.mem_append_right _ h))) (by decide +kernel))) (goodIn_sub (fun _ h => List.mem_cons_of_mem _ (List.mem_append_right _ h)) (by decide +kernel))
set_option maxRecDepth 20000 in
theorem gL_addPattern_X7_addPattern : GoodIn wsL_addPattern (wsV RL 40 RX7 yX7_addPattern wsX7_addPattern) := goodIn_app (goodIn_of _ (by decide +kernel)) ggL_addPattern_X7_addPattern
set_option maxRecDepth 20000 in
theorem ggL_matches_X7_matches : GoodIn wsL_matches wsX7_matches := goodIn_ca (goodIn_r _ [6, 7, 8, 9, 10, 11, 12, 13, 14, 15, 16, 17, 18, 19, 20, 21, 22, 23, 24, 25, 26, 27, 28, 29, 30, 31, 32, 33, 34, 35, 36, 37, 5, 38, 39, 40, 41, 42, 43, 44, 45, 46, 47, 48, 49, 50, 51, 52, 53, 54, 55, 56, 57, 58, 59, 60, 61, 62, 63, 64, 65, 66, 67, 68, 69, 70, 71, 72, 73, 74, 75, 76, 77, 78, 79, 80, 81, 82, 83, 84, 85, 86, 87, 88, 89, 90, 91, 92, 93, 94, 95, 96, 97, 98, 99, 100, 101, 102, 103, 104, 105, 106, 107, 108, 109, 110, 111, 112, 113, 114, 115, 116, 117, 118, 119, 120, 121, 122, 123, 124, 125, 126, 127, 128, 129, 130, 131, 132, 133, 134, 135, 136, 137, 138, 139, 140, 141, 142] (by decide +kernel) (by decide +kernel)) (goodIn_sub (fun _ h => List.mem_cons_of_mem _ (List.mem_append_right _ h)) (by decide +kernel))
set_option maxRecDepth 20000 in
theorem gL_matches_X7_matches : GoodIn wsL_matches (wsV RL 43 RX7 yX7_matches wsX7_matches) := goodIn_app (goodIn_of _ (by decide +kernel)) ggL_matches_X7_matches
set_option maxRecDepth 20000 in
theorem ggL_joined_X7_joined : GoodIn wsL_joined wsX7_joined := goodIn_ca (goodIn_r _ [6, 7, 8, 9, 10, 11, 12, 13, 14, 15, 16, 17, 18, 19, 20, 21, 22, 23, 24, 25, 26, 27, 28, 29, 30, 31, 32, 33, 34, 35, 36, 37, 5, 38, 39, 40, 41, 42, 43, 44, 45, 46, 47, 48, 49, 50, 51, 52, 53, 54, 55, 56, 57, 58, 59, 60, 61, 62, 63, 64, 65, 66, 67, 68, 69, 70, 71, 72, 73, 74, 75, 76, 77, 78, 79, 80, 81, 82, 83, 84, 85, 86, 87, 88, 89, 90, 91, 92, 93, 94, 95, 96, 97, 98, 99, 100, 101, 102, 103, 104, 105, 106, 107, 108, 109, 110, 111, 112, 113, 114, 115, 116, 117, 118, 119, 120, 121, 122, 123, 124, 125, 126, 127, 128, 129, 130, 131, 132, 133, 134, 135, 136, 137, 138, 139, 140, 141, 142, 143, 144, 145, 146, 147, 148, 149, 150, 151, 152, 153, 154, 155, 156, 157, 158, 159, 160, 161, 162] (by decide +kernel) (by decide +kernel)) (goodIn_sub (fun _ h => List.mem_cons_of_mem _ (List.mem_append_right _ h)) (by decide +kernel))
set_option maxRecDepth 20000 in
theorem gL_joined_X7_joined : GoodIn wsL_joined (wsV RL 46 RX7 yX7_joined wsX7_joined) := goodIn_app (goodIn_of _ (by decide +kernel)) ggL_joined_X7_joined
set_option maxRecDepth 20000 in
theorem ggL_answerByMerging_X7_answerByMerging : GoodIn wsL_answerByMerging wsX7_answerByMerging := goodIn_ca (goodIn_r _ [6, 7, 8, 9, 10, 11, 12, 5, 13, 14, 15, 16, 17, 18, 19, 20, 21, 22, 23, 24, 25, 26, 27, 28, 29, 30, 31, 32, 33, 34, 35, 36, 37, 38, 39, 40, 41, 42, 43, 44, 45, 46, 47, 48, 49, 50, 51, 52, 53, 54, 55, 56, 57, 58, 59, 60, 61, 62, 63, 64, 65, 66, 67, 68, 69, 70, 71, 72, 73, 74, 75, 76, 77, 78, 79, 80, 81, 82, 83, 84, 85, 86, 87, 88, 89, 90, 91, 92, 93, 94, 95, 96, 97, 98, 99, 100, 101, 102, 103, 104, 105, 106, 107, 108, 109, 110, 111, 112, 113, 114, 115, 116, 117, 118, 119, 120, 121, 122, 123, 124, 125, 126, 127, 128, 129, 130, 131, 132, 133, 134, 135, 136, 137, 138, 139, 140, 141, 142, 143, 144, 145, 146, 147, 148, 149, 150, 151, 152, 153, 154, 155, 156, 157, 158, 159, 160, 161, 162, 163, 164, 165, 166, 167, 168, 169, 170, 171, 172, 173, 174, 175, 176, 177, 178, 179, 180, 181, 182, 183, 184, 185, 186, 187, 188, 189, 190, 191, 192, 193, 194, 195, 196, 197, 198, 199, 200, 201, 202, 203, 204, 205, 206, 207, 208, 209, 210, 211, 212, 213, 214, 215, 216, 217, 218, 219, 220, 221, 222, 223, 224, 225, 226, 227, 228, 229, 230, 231, 232, 233, 234, 235, 236, 237, 238, 239, 240, 241, 242, 243, 244, 245, 246, 247, 248, 249, 250, 251, 252, 253, 254, 255, 256, 257, 258, 259, 260, 261, 262, 263, 264, 265, 266, 267, 268] (by decide +kernel) (by decide +kernel)) (goodIn_sub (fun _ h => List.mem_cons_of_mem _ (List.mem_append_right _ h)) (by decide +kernel))
set_option maxRecDepth 20000 in
theorem gL_answerByMerging_X7_answerByMerging : GoodIn wsL_answerByMerging (wsV RL 49 RX7 yX7_answerByMerging wsX7_answerByMerging) := goodIn_app (goodIn_of _ (by decide +kernel)) ggL_answerByMerging_X7_answerByMerging
set_option maxRecDepth 20000 in
theorem ggL_answerByVariables_X7_answerByVariables : GoodIn wsL_answerByVariables wsX7_answerByVariables := goodIn_ca (goodIn_r _ [6, 7, 8, 9, 10, 11, 12, 5, 13, 14, 15, 16, 17, 18, 19, 20, 21, 22, 23, 24, 25, 26, 27, 28, 29, 30, 31, 32, 33, 34, 35, 36, 37, 38, 39, 40, 41, 42, 43, 44, 45, 46, 47, 48, 49, 50, 51, 52, 53, 54, 55, 56, 57, 58, 59, 60, 61, 62, 63, 64, 65, 66, 67, 68, 69, 70, 71, 72, 73, 74, 75, 76, 77, 78, 79, 80, 81, 82, 83, 84, 85, 86, 87, 88, 89, 90, 91, 92, 93, 94, 95, 96, 97, 98, 99, 100, 101, 102, 103, 104, 105, 106, 107, 108, 109, 110, 111, 112, 113, 114, 115, 116, 117, 118, 119, 120, 121, 122, 123, 124, 125, 126, 127, 128, 129, 130, 131, 132, 133, 134, 135, 136, 137, 138, 139, 140, 141, 142, 143, 144, 145, 146, 147, 148, 149, 150, 151, 152, 153, 154, 155, 156, 157, 158, 159, 160, 161, 162, 163, 164, 165, 166, 167, 168, 169, 170, 171, 172, 173, 174, 175, 176, 177, 178, 179, 180, 181, 182, 183, 184, 185, 186, 187, 188, 189, 190, 191, 192, 193, 194, 195, 196, 197, 198, 199, 200, 201, 202, 203, 204, 205, 206, 207, 208, 209, 210, 211, 212, 213, 214, 215, 216, 217, 218, 219, 220, 221, 222, 223, 224, 225, 226, 227, 228, 229, 230, 231, 232, 233, 234, 235, 236, 237, 238, 239, 240, 241, 242, 243, 244, 245, 246, 247, 248, 249, 250, 251, 252, 253, 254, 255, 256, 257, 258, 259, 260, 261, 262, 263, 264, 265, 266, 267, 268, 269, 270, 271, 272, 273, 274, 275, 276, 277] (by decide +kernel) (by decide +kernel)) (goodIn_sub (fun _ h => List.mem_cons_of_mem _ (List.mem_append_right _ h)) (by decide +kernel))
set_option maxRecDepth 20000 in
theorem gL_answerByVariables_X7_answerByVariables : GoodIn wsL_answerByVariables (wsV RL 53 RX7 yX7_answerByVariables wsX7_answerByVariables) := goodIn_app (goodIn_of _ (by decide +kernel)) ggL_answerByVariables_X7_answerByVariables
set_option maxRecDepth 20000 in
theorem ggL_answerByLoops_X7_answerByLoops : GoodIn wsL_answerByLoops wsX7_answerByLoops := goodIn_ca (goodIn_r _ [6, 7, 8, 9, 10, 11, 12, 5, 13, 14, 15, 16, 17, 18, 19, 20, 21, 22, 23, 24, 25, 26, 27, 28, 29, 30, 31, 32, 33, 34, 35, 36, 37, 38, 39, 40, 41, 42, 43, 44, 45, 46, 47, 48, 49, 50, 51, 52, 53, 54, 55, 56, 57, 58, 59, 60, 61, 62, 63, 64, 65, 66, 67, 68, 69, 70, 71, 72, 73, 74, 75, 76, 77, 78, 79, 80, 81, 82, 83, 84, 85, 86, 87, 88, 89, 90, 91, 92, 93, 94, 95, 96, 97, 98, 99, 100, 101, 102, 103, 104, 105, 106, 107, 108, 109, 110, 111, 112, 113, 114, 115, 116, 117, 118, 119, 120, 121, 122, 123, 124, 125, 126, 127, 128, 129, 130, 131, 132, 133, 134, 135, 136, 137, 138, 139, 140, 141, 142, 143, 144, 145, 146, 147, 148, 149, 150, 151, 152, 153, 154, 155, 156, 157, 158, 159, 160, 161, 162, 163, 164, 165, 166, 167, 168, 169, 170, 171, 172, 173, 174, 175, 176, 177, 178, 179, 180, 181, 182, 183, 184, 185, 186, 187, 188, 189, 190, 191, 192, 193, 194, 195, 196, 197, 198, 199, 200, 201, 202, 203, 204, 205, 206, 207, 208, 209, 210, 211, 212, 213, 214, 215, 216, 217, 218, 219, 220, 221, 222, 223, 224, 225, 226, 227, 228, 229, 230, 231, 232, 233, 234, 235, 236, 237, 238, 239, 240, 241, 242, 243, 244] (by decide +kernel) (by decide +kernel)) (goodIn_sub (fun _ h => List.mem_cons_of_mem _ (List.mem_append_right _ h)) (by decide +kernel))
set_option maxRecDepth 20000 in
theorem gL_answerByLoops_X7_answerByLoops : GoodIn wsL_answerByLoops (wsV RL 56 RX7 yX7_answerByLoops wsX7_answerByLoops) := goodIn_app (goodIn_of _ (by decide +kernel)) ggL_answerByLoops_X7_answerByLoops
set_option maxRecDepth 20000 in
theorem ggL_answer_X7_answer : GoodIn wsL_answer wsX7_answer := goodIn_ca (goodIn_ca (goodIn_r _ [7, 8, 9, 10, 11, 12, 13, 14, 15, 16, 17, 6, 18, 19, 20, 21, 22, 23, 24, 25, 26, 27, 28, 29, 30, 31, 32, 33, 34, 35, 36, 37, 38, 39, 40, 41, 42, 43, 44, 45, 46] (by decide +kernel) (by decide +kernel)) (goodIn_sub (fun _ h => List.mem_cons_of_mem _ (List.mem_append_left _ (List.mem_append_right _ h))) (by decide +kernel))) (goodIn_sub (fun _ h => List.mem_cons_of_mem _ (List.mem_append_right _ h)) (by decide +kernel))
set_option maxRecDepth 20000 in
theorem gL_answer_X7_answer : GoodIn wsL_answer (wsV RL 59 RX7 yX7_answer wsX7_answer) := goodIn_app (goodIn_of _ (by decide +kernel)) ggL_answer_X7_answer
set_option maxRecDepth 20000 in
theorem ggL_termsFor_X7_termsFor : GoodIn wsL_termsFor wsX7_termsFor := goodIn_ca (goodIn_r _ [6, 7, 8, 9, 10, 11, 12, 13, 5, 14, 15, 16, 17, 18, 19, 20, 21, 22, 23, 24, 25, 26, 27, 28, 29, 30, 31, 32, 33, 34, 35, 36, 37, 38, 39, 40] (by decide +kernel) (by decide +kernel)) (goodIn_sub (fun _ h => List.mem_cons_of_mem _ (List.mem_append_right _ h)) (by decide +kernel))
set_option maxRecDepth 20000 in
theorem gL_termsFor_X7_termsFor : GoodIn wsL_termsFor (wsV RL 62 RX7 yX7_termsFor wsX7_termsFor) := goodIn_app (goodIn_of _ (by decide +kernel)) ggL_termsFor_X7_termsFor
set_option maxRecDepth 20000 in
theorem ggL_law_X7_init : GoodIn wsL_law wsX7_init := goodIn_r _ [9, 10, 11, 12, 13, 14, 15, 16, 17, 18, 19, 20, 21, 22, 23, 24, 25, 26, 27, 28, 29, 30, 31, 32, 33, 34, 35, 36, 37, 38, 39, 40, 41, 42, 43, 44, 45, 46, 47, 48, 49, 50, 51, 52, 53, 54, 55, 56, 57, 58, 59, 60, 61, 62, 63, 64, 65, 66, 67, 68, 69, 70, 71, 72, 73, 74, 75, 76, 77, 78, 79, 80, 81, 82, 83, 84, 85, 86, 87, 88, 89, 90, 91, 780, 781, 782, 759, 760, 761, 762, 763, 764, 765, 783, 784, 785, 786, 787, 788, 789, 790, 791, 792, 793, 794, 795, 796, 797, 798, 799, 800, 801, 802, 803] (by decide +kernel) (by decide +kernel)
set_option maxRecDepth 20000 in
theorem gL_law_X7_init : GoodIn wsL_law (wsX7_init) := ggL_law_X7_init
set_option maxRecDepth 20000 in
theorem ggL_law_X8_init : GoodIn wsL_law wsX8_init := goodIn_r _ [94, 95, 11, 12, 29, 96, 97, 98, 99, 100, 101, 102, 766, 767, 768, 769, 770, 771, 772, 773, 774, 775, 776, 777, 778, 779] (by decide +kernel) (by decide +kernel)
set_option maxRecDepth 20000 in
theorem gL_law_X8_init : GoodIn wsL_law (wsX8_init) := ggL_law_X8_init
set_option maxRecDepth 20000 in
theorem ggL_law_L_state : GoodIn wsL_law wsL_state := goodIn_ca (goodIn_ca (goodIn_r _ [106, 107, 108, 109, 110, 111, 2, 112, 113, 114, 115, 116, 20, 16, 117, 118, 119, 120, 121, 122, 15, 123, 124, 125, 126, 127, 37, 128, 129, 130, 131, 132, 133, 134, 135, 136, 137, 138, 19, 139, 45, 140, 141, 142, 44, 143, 52, 51, 144, 145, 146, 147, 148, 149, 150, 151, 152, 153, 154, 155, 156, 157, 158, 159, 38, 160, 161, 162, 163, 36, 164, 165, 166, 167, 168, 169, 170, 171, 172, 173, 46, 47, 174, 175, 176, 177, 178, 179, 180, 759, 760, 761, 762, 763, 764, 765, 780, 781, 782, 783, 784, 785, 792, 793] (by decide +kernel) (by decide +kernel)) (goodIn_sub (fun _ h => List.mem_append_left _ (List.mem_append_left _ (List.mem_append_right _ h))) (by decide +kernel))) (goodIn_sub (fun _ h => List.mem_append_left _ (List.mem_append_right _ h)) (by decide +kernel))
set_option maxRecDepth 20000 in
theorem gL_law_L_state : GoodIn wsL_law (va_wsS RL 69 yL_state wsL_state) := goodIn_app (goodIn_of _ (by decide +kernel)) ggL_law_L_state
set_option maxRecDepth 20000 in
theorem ggL_law_X8_state : GoodIn wsL_law wsX8_state := goodIn_r _ [184, 185, 186, 187, 98, 188, 189, 5, 190, 191, 192, 193, 194, 195, 196, 197, 97, 198, 199, 200, 201, 96, 202, 203, 204, 205, 766, 767, 768, 769, 770, 771, 772, 773, 774, 775, 776, 777, 778, 779] (by decide +kernel) (by decide +kernel)
set_option maxRecDepth 20000 in
theorem gL_law_X8_state : GoodIn wsL_law (wsV RL 74 RX8 yX8_state wsX8_state) := goodIn_app (goodIn_of _ (by decide +kernel)) ggL_law_X8_state
set_option maxRecDepth 20000 in
theorem ggL_law_X8_thrown : GoodIn wsL_law wsX8_thrown := goodIn_r _ [209, 185, 766, 767, 768, 769, 770, 771, 772, 773, 774, 775, 776, 777, 778, 779] (by decide +kernel) (by decide +kernel)
set_option maxRecDepth 20000 in
theorem gL_law_X8_thrown : GoodIn wsL_law (wsV RL 75 RX8 yX8_thrown wsX8_thrown) := goodIn_app (goodIn_of _ (by decide +kernel)) ggL_law_X8_thrown
set_option maxRecDepth 20000 in
theorem ggL_law_L_takeBack : GoodIn wsL_law wsL_takeBack := goodIn_ca (goodIn_r _ [212, 107, 213, 214, 215, 2, 216, 113, 114, 16, 20, 117, 118, 119, 120, 121, 122, 15, 123, 124, 125, 126, 127, 37, 128, 129, 130, 131, 132, 133, 134, 135, 136, 137, 138, 19, 139, 45, 140, 141, 142, 44, 143, 52, 51, 144, 145, 146, 147, 217, 218, 219, 220, 170, 171, 172, 173, 46, 47, 174, 175, 176, 221, 222, 223, 224, 225, 164, 165, 759, 760, 761, 762, 763, 764, 765, 780, 781, 782, 783, 784, 785, 792, 793] (by decide +kernel) (by decide +kernel)) (goodIn_sub (fun _ h => List.mem_append_left _ (List.mem_append_left _ (List.mem_append_right _ h))) (by decide +kernel))
set_option maxRecDepth 20000 in
theorem gL_law_L_takeBack : GoodIn wsL_law (va_wsS RL 78 yL_takeBack wsL_takeBack) := goodIn_app (goodIn_of _ (by decide +kernel)) ggL_law_L_takeBack
set_option maxRecDepth 20000 in
theorem ggL_law_X8_takeBack : GoodIn wsL_law wsX8_takeBack := goodIn_r _ [229, 185, 186, 98, 188, 189, 5, 190, 191, 192, 193, 194, 195, 196, 197, 97, 766, 767, 768, 769, 770, 771, 772, 773, 774, 775, 776, 777, 778, 779] (by decide +kernel) (by decide +kernel)
set_option maxRecDepth 20000 in
theorem gL_law_X8_takeBack : GoodIn wsL_law (wsV RL 80 RX8 yX8_takeBack wsX8_takeBack) := goodIn_app (goodIn_of _ (by decide +kernel)) ggL_law_X8_takeBack
set_option maxRecDepth 20000 in
theorem ggL_law_X7_triples : GoodIn wsL_law wsX7_triples := goodIn_r _ [233, 20, 148, 149, 150, 19, 151, 45, 152, 153, 154, 44, 155, 52, 759, 760, 761, 762, 763, 764, 765, 783, 784, 785, 792, 793] (by decide +kernel) (by decide +kernel)
set_option maxRecDepth 20000 in
theorem gL_law_X7_triples : GoodIn wsL_law (wsV RL 81 RX7 yX7_triples wsX7_triples) := goodIn_app (goodIn_of _ (by decide +kernel)) ggL_law_X7_triples
set_option maxRecDepth 20000 in
theorem ggL_law_X8_triples : GoodIn wsL_law wsX8_triples := goodIn_r _ [237, 185, 186, 766, 767, 768, 769, 770, 771, 772, 773, 774, 775, 776, 777, 778, 779] (by decide +kernel) (by decide +kernel)
set_option maxRecDepth 20000 in
theorem gL_law_X8_triples : GoodIn wsL_law (wsV RL 84 RX8 yX8_triples wsX8_triples) := goodIn_app (goodIn_of _ (by decide +kernel)) ggL_law_X8_triples
set_option maxRecDepth 20000 in
theorem ggL_law_L_termAt : GoodIn wsL_law wsL_termAt := goodIn_ca (goodIn_ca (goodIn_r _ [240, 107, 241, 242, 243, 244, 2, 245, 113, 114, 246, 247, 20, 16, 248, 249, 250, 148, 149, 150, 19, 151, 45, 152, 153, 154, 44, 155, 52, 251, 252, 253, 254, 170, 171, 172, 173, 46, 47, 255, 256, 257, 258, 51, 132, 133, 259, 260, 176, 261, 262, 263, 264, 134, 135, 265, 266, 267, 15, 268, 36, 759, 760, 761, 762, 763, 764, 765, 783, 784, 785, 792, 793, 780, 781, 782] (by decide +kernel) (by decide +kernel)) (goodIn_sub (fun _ h => List.mem_append_left _ (List.mem_append_left _ (List.mem_append_right _ h))) (by decide +kernel))) (goodIn_sub (fun _ h => List.mem_append_right _ h) (by decide +kernel))
set_option maxRecDepth 20000 in
theorem gL_law_L_termAt : GoodIn wsL_law (va_wsS RL 85 yL_termAt wsL_termAt) := goodIn_app (goodIn_of _ (by decide +kernel)) ggL_law_L_termAt
set_option maxRecDepth 20000 in
theorem ggL_law_X8_termAt : GoodIn wsL_law wsX8_termAt := goodIn_r _ [272, 186, 185, 97, 98, 191, 192, 5, 193, 273, 274, 275, 276, 277, 278, 279, 280, 766, 767, 768, 769, 770, 771, 772, 773, 774, 775, 776, 777, 778, 779] (by decide +kernel) (by decide +kernel)
set_option maxRecDepth 20000 in
theorem gL_law_X8_termAt : GoodIn wsL_law (wsV RL 87 RX8 yX8_termAt wsX8_termAt) := goodIn_app (goodIn_of _ (by decide +kernel)) ggL_law_X8_termAt
set_option maxRecDepth 20000 in
theorem ggL_law_X7_terms : GoodIn wsL_law wsX7_terms := goodIn_r _ [284, 16, 285, 286, 287, 15, 288, 38, 759, 760, 761, 762, 763, 764, 765, 780, 781, 782] (by decide +kernel) (by decide +kernel)
set_option maxRecDepth 20000 in
theorem gL_law_X7_terms : GoodIn wsL_law (wsV RL 88 RX7 yX7_terms wsX7_terms) := goodIn_app (goodIn_of _ (by decide +kernel)) ggL_law_X7_terms
set_option maxRecDepth 20000 in
theorem ggL_law_X8_terms : GoodIn wsL_law wsX8_terms := goodIn_r _ [292, 185, 187, 766, 767, 768, 769, 770, 771, 772, 773, 774, 775, 776, 777, 778, 779] (by decide +kernel) (by decide +kernel)
set_option maxRecDepth 20000 in
theorem gL_law_X8_terms : GoodIn wsL_law (wsV RL 91 RX8 yX8_terms wsX8_terms) := goodIn_app (goodIn_of _ (by decide +kernel)) ggL_law_X8_terms
set_option maxRecDepth 20000 in
theorem ggL_law_L_numberOf : GoodIn wsL_law wsL_numberOf := goodIn_ca (goodIn_r _ [295, 107, 296, 297, 298, 2, 299, 113, 114, 16, 117, 118, 119, 300, 129, 130, 15, 131, 37, 132, 133, 301, 125, 126, 127, 128, 759, 760, 761, 762, 763, 764, 765, 780, 781, 782] (by decide +kernel) (by decide +kernel)) (goodIn_sub (fun _ h => List.mem_append_left _ (List.mem_append_left _ (List.mem_append_right _ h))) (by decide +kernel))
set_option maxRecDepth 20000 in
theorem gL_law_L_numberOf : GoodIn wsL_law (va_wsS RL 92 yL_numberOf wsL_numberOf) := goodIn_app (goodIn_of _ (by decide +kernel)) ggL_law_L_numberOf
set_option maxRecDepth 20000 in
theorem ggL_law_X8_numberOf : GoodIn wsL_law wsX8_numberOf := goodIn_r _ [305, 185, 96, 191, 192, 5, 193, 766, 767, 768, 769, 770, 771, 772, 773, 774, 775, 776, 777, 778, 779] (by decide +kernel) (by decide +kernel)
set_option maxRecDepth 20000 in
theorem gL_law_X8_numberOf : GoodIn wsL_law (wsV RL 95 RX8 yX8_numberOf wsX8_numberOf) := goodIn_app (goodIn_of _ (by decide +kernel)) ggL_law_X8_numberOf
set_option maxRecDepth 20000 in
theorem ggL_law_L_termOf : GoodIn wsL_law wsL_termOf := goodIn_ca (goodIn_r _ [308, 241, 309, 310, 311, 2, 312, 246, 247, 16, 285, 286, 287, 15, 288, 38, 265, 266, 267, 268, 36, 132, 133, 759, 760, 761, 762, 763, 764, 765, 780, 781, 782] (by decide +kernel) (by decide +kernel)) (goodIn_sub (fun _ h => List.mem_append_right _ h) (by decide +kernel))
set_option maxRecDepth 20000 in
theorem gL_law_L_termOf : GoodIn wsL_law (va_wsS RL 96 yL_termOf wsL_termOf) := goodIn_app (goodIn_of _ (by decide +kernel)) ggL_law_L_termOf
set_option maxRecDepth 20000 in
theorem ggL_law_X8_termOf : GoodIn wsL_law wsX8_termOf := goodIn_r _ [316, 187, 185, 97, 191, 192, 5, 193, 766, 767, 768, 769, 770, 771, 772, 773, 774, 775, 776, 777, 778, 779] (by decide +kernel) (by decide +kernel)
set_option maxRecDepth 20000 in
theorem gL_law_X8_termOf : GoodIn wsL_law (wsV RL 98 RX8 yX8_termOf wsX8_termOf) := goodIn_app (goodIn_of _ (by decide +kernel)) ggL_law_X8_termOf
set_option maxRecDepth 20000 in
theorem ggL_law_L_count : GoodIn wsL_law wsL_count := goodIn_ca (goodIn_r _ [319, 107, 320, 321, 322, 2, 323, 113, 114, 16, 20, 324, 325, 326, 327, 328, 329, 264, 134, 135, 120, 121, 122, 15, 123, 124, 125, 126, 127, 37, 128, 129, 130, 131, 132, 133, 330, 331, 332, 261, 262, 263, 333, 334, 335, 19, 336, 337, 170, 171, 172, 173, 46, 47, 45, 174, 175, 176, 338, 145, 146, 44, 147, 52, 51, 339, 340, 341, 342, 759, 760, 761, 762, 763, 764, 765, 780, 781, 782, 783, 784, 785, 792, 793] (by decide +kernel) (by decide +kernel)) (goodIn_sub (fun _ h => List.mem_append_left _ (List.mem_append_left _ (List.mem_append_right _ h))) (by decide +kernel))
set_option maxRecDepth 20000 in
theorem gL_law_L_count : GoodIn wsL_law (va_wsS RL 99 yL_count wsL_count) := goodIn_app (goodIn_of _ (by decide +kernel)) ggL_law_L_count
set_option maxRecDepth 20000 in
theorem ggL_law_X8_count : GoodIn wsL_law wsX8_count := goodIn_r _ [346, 185, 186, 97, 98, 188, 189, 5, 190, 191, 192, 193, 766, 767, 768, 769, 770, 771, 772, 773, 774, 775, 776, 777, 778, 779] (by decide +kernel) (by decide +kernel)
set_option maxRecDepth 20000 in
theorem gL_law_X8_count : GoodIn wsL_law (wsV RL 101 RX8 yX8_count wsX8_count) := goodIn_app (goodIn_of _ (by decide +kernel)) ggL_law_X8_count
set_option maxRecDepth 20000 in
theorem ggL_law_X7_orderFor : GoodIn wsL_law wsX7_orderFor := goodIn_r _ [350, 327, 328, 2, 329, 264, 134, 135, 330, 331, 332, 261, 262, 263] (by decide +kernel) (by decide +kernel)
set_option maxRecDepth 20000 in
theorem gL_law_X7_orderFor : GoodIn wsL_law (wsV RL 102 RX7 yX7_orderFor wsX7_orderFor) := goodIn_app (goodIn_of _ (by decide +kernel)) ggL_law_X7_orderFor
set_option maxRecDepth 20000 in
theorem ggL_law_X8_orderFor : GoodIn wsL_law wsX8_orderFor := goodIn_r _ [354, 185, 766, 767, 768, 769, 770, 771, 772, 773, 774, 775, 776, 777, 778, 779] (by decide +kernel) (by decide +kernel)
set_option maxRecDepth 20000 in
theorem gL_law_X8_orderFor : GoodIn wsL_law (wsV RL 106 RX8 yX8_orderFor wsX8_orderFor) := goodIn_app (goodIn_of _ (by decide +kernel)) ggL_law_X8_orderFor
set_option maxRecDepth 20000 in
theorem ggL_law_L_seek : GoodIn wsL_law wsL_seek := goodIn_ca (goodIn_ca (goodIn_r _ [357, 107, 108, 358, 359, 360, 2, 361, 113, 114, 115, 116, 16, 20, 248, 249, 250, 117, 118, 119, 300, 129, 130, 15, 131, 37, 132, 133, 301, 125, 126, 127, 128, 264, 134, 135, 339, 340, 341, 19, 342, 170, 171, 172, 173, 46, 47, 45, 174, 175, 176, 338, 145, 146, 44, 147, 52, 51, 759, 760, 761, 762, 763, 764, 765, 780, 781, 782, 783, 784, 785, 792, 793] (by decide +kernel) (by decide +kernel)) (goodIn_sub (fun _ h => List.mem_append_left _ (List.mem_append_left _ (List.mem_append_right _ h))) (by decide +kernel))) (goodIn_sub (fun _ h => List.mem_append_left _ (List.mem_append_right _ h)) (by decide +kernel))
set_option maxRecDepth 20000 in
theorem gL_law_L_seek : GoodIn wsL_law (va_wsS RL 107 yL_seek wsL_seek) := goodIn_app (goodIn_of _ (by decide +kernel)) ggL_law_L_seek
set_option maxRecDepth 20000 in
theorem ggL_law_X8_seek : GoodIn wsL_law wsX8_seek := goodIn_r _ [365, 185, 96, 186, 98, 191, 192, 5, 193, 766, 767, 768, 769, 770, 771, 772, 773, 774, 775, 776, 777, 778, 779] (by decide +kernel) (by decide +kernel)
set_option maxRecDepth 20000 in
theorem gL_law_X8_seek : GoodIn wsL_law (wsV RL 110 RX8 yX8_seek wsX8_seek) := goodIn_app (goodIn_of _ (by decide +kernel)) ggL_law_X8_seek
set_option maxRecDepth 20000 in
theorem ggL_law_X7_forget : GoodIn wsL_law wsX7_forget := goodIn_r _ [369, 24, 370, 371, 372, 23, 373, 62, 759, 760, 761, 762, 763, 764, 765, 786, 787, 788, 789] (by decide +kernel) (by decide +kernel)
set_option maxRecDepth 20000 in
theorem gL_law_X7_forget : GoodIn wsL_law (wsV RL 111 RX7 yX7_forget wsX7_forget) := goodIn_app (goodIn_of _ (by decide +kernel)) ggL_law_X7_forget
set_option maxRecDepth 20000 in
theorem ggL_law_X8_forget : GoodIn wsL_law wsX8_forget := goodIn_r _ [377, 185, 378, 766, 767, 768, 769, 770, 771, 772, 773, 774, 775, 776, 777, 778, 779] (by decide +kernel) (by decide +kernel)
set_option maxRecDepth 20000 in
theorem gL_law_X8_forget : GoodIn wsL_law (wsV RL 114 RX8 yX8_forget wsX8_forget) := goodIn_app (goodIn_of _ (by decide +kernel)) ggL_law_X8_forget
set_option maxRecDepth 20000 in
theorem ggL_law_L_addPattern : GoodIn wsL_law wsL_addPattern := goodIn_ca (goodIn_ca (goodIn_r _ [381, 107, 108, 382, 383, 384, 2, 385, 113, 114, 115, 116, 24, 386, 387, 388, 389, 390, 391, 23, 392, 62, 393, 394, 395, 396, 397, 398, 399, 400, 60, 61, 59, 401, 402, 403, 58, 404, 66, 68, 164, 165, 405, 406, 407, 408, 759, 760, 761, 762, 763, 764, 765, 786, 787, 788, 789, 794, 795, 796, 797] (by decide +kernel) (by decide +kernel)) (goodIn_sub (fun _ h => List.mem_append_left _ (List.mem_append_left _ (List.mem_append_right _ h))) (by decide +kernel))) (goodIn_sub (fun _ h => List.mem_append_left _ (List.mem_append_right _ h)) (by decide +kernel))
set_option maxRecDepth 20000 in
theorem gL_law_L_addPattern : GoodIn wsL_law (va_wsS RL 115 yL_addPattern wsL_addPattern) := goodIn_app (goodIn_of _ (by decide +kernel)) ggL_law_L_addPattern
set_option maxRecDepth 20000 in
theorem ggL_law_X8_addPattern : GoodIn wsL_law wsX8_addPattern := goodIn_r _ [412, 378, 185, 99, 188, 189, 5, 190, 191, 192, 193, 766, 767, 768, 769, 770, 771, 772, 773, 774, 775, 776, 777, 778, 779] (by decide +kernel) (by decide +kernel)
set_option maxRecDepth 20000 in
theorem gL_law_X8_addPattern : GoodIn wsL_law (wsV RL 117 RX8 yX8_addPattern wsX8_addPattern) := goodIn_app (goodIn_of _ (by decide +kernel)) ggL_law_X8_addPattern
set_option maxRecDepth 20000 in
theorem ggL_law_X7_patterns : GoodIn wsL_law wsX7_patterns := goodIn_r _ [416, 24, 389, 390, 391, 23, 392, 62, 759, 760, 761, 762, 763, 764, 765, 786, 787, 788, 789] (by decide +kernel) (by decide +kernel)
set_option maxRecDepth 20000 in
theorem gL_law_X7_patterns : GoodIn wsL_law (wsV RL 118 RX7 yX7_patterns wsX7_patterns) := goodIn_app (goodIn_of _ (by decide +kernel)) ggL_law_X7_patterns
set_option maxRecDepth 20000 in
theorem ggL_law_X8_patterns : GoodIn wsL_law wsX8_patterns := goodIn_r _ [420, 185, 378, 766, 767, 768, 769, 770, 771, 772, 773, 774, 775, 776, 777, 778, 779] (by decide +kernel) (by decide +kernel)
set_option maxRecDepth 20000 in
theorem gL_law_X8_patterns : GoodIn wsL_law (wsV RL 121 RX8 yX8_patterns wsX8_patterns) := goodIn_app (goodIn_of _ (by decide +kernel)) ggL_law_X8_patterns
set_option maxRecDepth 20000 in
theorem ggL_law_L_matches : GoodIn wsL_law wsL_matches := goodIn_ca (goodIn_r _ [423, 241, 424, 425, 426, 2, 427, 246, 247, 24, 16, 20, 389, 390, 391, 23, 392, 62, 428, 429, 430, 431, 397, 398, 399, 400, 60, 61, 59, 432, 433, 434, 58, 435, 67, 66, 69, 132, 133, 436, 125, 126, 15, 127, 37, 128, 129, 130, 131, 164, 165, 437, 438, 439, 440, 441, 442, 134, 135, 443, 444, 445, 446, 447, 448, 449, 450, 451, 331, 332, 261, 262, 263, 264, 452, 334, 335, 19, 336, 337, 170, 171, 172, 173, 46, 47, 45, 174, 175, 176, 338, 145, 146, 44, 147, 52, 51, 453, 340, 341, 342, 454, 252, 253, 254, 255, 256, 257, 258, 259, 260, 455, 456, 457, 458, 459, 460, 461, 462, 463, 759, 760, 761, 762, 763, 764, 765, 786, 787, 788, 789, 794, 795, 796, 797, 780, 781, 782, 783, 784, 785, 792, 793] (by decide +kernel) (by decide +kernel)) (goodIn_sub (fun _ h => List.mem_append_right _ h) (by decide +kernel))
set_option maxRecDepth 20000 in
theorem gL_law_L_matches : GoodIn wsL_law (va_wsS RL 122 yL_matches wsL_matches) := goodIn_app (goodIn_of _ (by decide +kernel)) ggL_law_L_matches
set_option maxRecDepth 20000 in
theorem ggL_law_X8_matches : GoodIn wsL_law wsX8_matches := goodIn_r _ [467, 378, 185, 191, 192, 5, 193, 468, 469, 470, 471, 186, 472, 473, 474, 475, 100, 476, 477, 478, 479, 99, 98, 97, 766, 767, 768, 769, 770, 771, 772, 773, 774, 775, 776, 777, 778, 779] (by decide +kernel) (by decide +kernel)
set_option maxRecDepth 20000 in
theorem gL_law_X8_matches : GoodIn wsL_law (wsV RL 124 RX8 yX8_matches wsX8_matches) := goodIn_app (goodIn_of _ (by decide +kernel)) ggL_law_X8_matches
set_option maxRecDepth 20000 in
theorem ggL_law_X7_variables : GoodIn wsL_law wsX7_variables := goodIn_r _ [483, 24, 484, 485, 486, 23, 487, 62, 397, 398, 399, 400, 60, 61, 59, 488, 489, 490, 58, 491, 68, 759, 760, 761, 762, 763, 764, 765, 786, 787, 788, 789, 794, 795, 796, 797] (by decide +kernel) (by decide +kernel)
set_option maxRecDepth 20000 in
theorem gL_law_X7_variables : GoodIn wsL_law (wsV RL 125 RX7 yX7_variables wsX7_variables) := goodIn_app (goodIn_of _ (by decide +kernel)) ggL_law_X7_variables
set_option maxRecDepth 20000 in
theorem ggL_law_X8_variables : GoodIn wsL_law wsX8_variables := goodIn_r _ [495, 185, 496, 497, 498, 5, 499, 378, 500, 501, 502, 503, 99, 766, 767, 768, 769, 770, 771, 772, 773, 774, 775, 776, 777, 778, 779] (by decide +kernel) (by decide +kernel)
set_option maxRecDepth 20000 in
theorem gL_law_X8_variables : GoodIn wsL_law (wsV RL 128 RX8 yX8_variables wsX8_variables) := goodIn_app (goodIn_of _ (by decide +kernel)) ggL_law_X8_variables
set_option maxRecDepth 20000 in
theorem ggL_law_X7_shape : GoodIn wsL_law wsX7_shape := goodIn_r _ [507, 24, 508, 509, 510, 23, 511, 62, 59, 512, 513, 514, 58, 515, 66, 132, 2, 133, 397, 398, 399, 400, 60, 61, 516, 517, 518, 519, 759, 760, 761, 762, 763, 764, 765, 786, 787, 788, 789, 794, 795, 796, 797] (by decide +kernel) (by decide +kernel)
set_option maxRecDepth 20000 in
theorem gL_law_X7_shape : GoodIn wsL_law (wsV RL 129 RX7 yX7_shape wsX7_shape) := goodIn_app (goodIn_of _ (by decide +kernel)) ggL_law_X7_shape
set_option maxRecDepth 20000 in
theorem ggL_law_X8_shape : GoodIn wsL_law wsX8_shape := goodIn_r _ [523, 185, 378, 99, 766, 767, 768, 769, 770, 771, 772, 773, 774, 775, 776, 777, 778, 779] (by decide +kernel) (by decide +kernel)
set_option maxRecDepth 20000 in
theorem gL_law_X8_shape : GoodIn wsL_law (wsV RL 132 RX8 yX8_shape wsX8_shape) := goodIn_app (goodIn_of _ (by decide +kernel)) ggL_law_X8_shape
set_option maxRecDepth 20000 in
theorem ggL_law_L_joined : GoodIn wsL_law wsL_joined := goodIn_ca (goodIn_r _ [526, 241, 527, 528, 529, 2, 530, 246, 247, 24, 16, 20, 389, 390, 391, 23, 392, 62, 428, 429, 430, 431, 397, 398, 399, 400, 60, 61, 59, 432, 433, 434, 58, 435, 67, 66, 69, 132, 133, 436, 125, 126, 15, 127, 37, 128, 129, 130, 131, 164, 165, 437, 438, 439, 440, 441, 442, 134, 135, 443, 444, 445, 446, 447, 448, 449, 450, 451, 331, 332, 261, 262, 263, 264, 452, 334, 335, 19, 336, 337, 170, 171, 172, 173, 46, 47, 45, 174, 175, 176, 338, 145, 146, 44, 147, 52, 51, 453, 340, 341, 342, 454, 252, 253, 254, 255, 256, 257, 258, 259, 260, 455, 456, 457, 458, 531, 532, 533, 534, 535, 536, 537, 538, 539, 87, 88, 89, 540, 541, 542, 543, 488, 489, 490, 491, 68, 544, 461, 462, 463, 759, 760, 761, 762, 763, 764, 765, 786, 787, 788, 789, 794, 795, 796, 797, 780, 781, 782, 783, 784, 785, 792, 793] (by decide +kernel) (by decide +kernel)) (goodIn_sub (fun _ h => List.mem_append_right _ h) (by decide +kernel))
set_option maxRecDepth 20000 in
theorem gL_law_L_joined : GoodIn wsL_law (va_wsS RL 133 yL_joined wsL_joined) := goodIn_app (goodIn_of _ (by decide +kernel)) ggL_law_L_joined
set_option maxRecDepth 20000 in
theorem ggL_law_X8_joined : GoodIn wsL_law wsX8_joined := goodIn_r _ [548, 378, 185, 191, 192, 5, 193, 500, 501, 502, 503, 99, 468, 469, 470, 471, 186, 472, 473, 474, 475, 100, 476, 477, 478, 479, 98, 97, 766, 767, 768, 769, 770, 771, 772, 773, 774, 775, 776, 777, 778, 779] (by decide +kernel) (by decide +kernel)
set_option maxRecDepth 20000 in
theorem gL_law_X8_joined : GoodIn wsL_law (wsV RL 135 RX8 yX8_joined wsX8_joined) := goodIn_app (goodIn_of _ (by decide +kernel)) ggL_law_X8_joined
set_option maxRecDepth 20000 in
theorem ggL_law_L_answerByMerging : GoodIn wsL_law wsL_answerByMerging := goodIn_ca (goodIn_r _ [551, 108, 552, 553, 554, 2, 555, 28, 24, 20, 556, 557, 558, 559, 115, 116, 16, 389, 390, 391, 23, 392, 62, 428, 429, 430, 431, 397, 398, 399, 400, 60, 61, 59, 432, 433, 434, 58, 435, 67, 66, 69, 132, 133, 436, 125, 126, 15, 127, 37, 128, 129, 130, 131, 164, 165, 437, 438, 439, 440, 441, 442, 134, 135, 443, 444, 445, 446, 447, 448, 449, 450, 451, 331, 332, 261, 262, 263, 264, 452, 334, 335, 19, 336, 337, 170, 171, 172, 173, 46, 47, 45, 174, 175, 176, 338, 145, 146, 44, 147, 52, 51, 453, 340, 341, 342, 454, 252, 253, 254, 255, 256, 257, 258, 259, 260, 455, 456, 457, 458, 560, 561, 562, 27, 563, 76, 77, 564, 565, 566, 75, 567, 568, 569, 570, 571, 83, 84, 85, 572, 573, 574, 575, 91, 576, 577, 578, 579, 90, 580, 581, 532, 533, 534, 535, 536, 537, 538, 539, 87, 88, 89, 540, 541, 542, 543, 488, 489, 490, 491, 68, 544, 461, 462, 463, 582, 583, 584, 585, 586, 587, 588, 589, 590, 591, 592, 593, 594, 595, 596, 597, 598, 599, 600, 601, 602, 603, 604, 82, 605, 606, 607, 608, 609, 610, 611, 612, 613, 614, 615, 616, 617, 618, 619, 620, 621, 622, 623, 624, 625, 626, 627, 32, 31, 30, 628, 629, 630, 631, 632, 633, 484, 485, 486, 487, 634, 635, 636, 759, 760, 761, 762, 763, 764, 765, 786, 787, 788, 789, 794, 795, 796, 797, 780, 781, 782, 783, 784, 785, 792, 793, 790, 791, 798, 799, 800, 801, 802, 803] (by decide +kernel) (by decide +kernel)) (goodIn_sub (fun _ h => List.mem_append_left _ (List.mem_append_right _ h)) (by decide +kernel))
set_option maxRecDepth 20000 in
theorem gL_law_L_answerByMerging : GoodIn wsL_law (va_wsS RL 136 yL_answerByMerging wsL_answerByMerging) := goodIn_app (goodIn_of _ (by decide +kernel)) ggL_law_L_answerByMerging
set_option maxRecDepth 20000 in
theorem ggL_law_X8_answerByMerging : GoodIn wsL_law wsX8_answerByMerging := goodIn_r _ [640, 641, 642, 643, 5, 644, 185, 378, 645, 646, 647, 102, 101, 648, 649, 650, 651, 186, 472, 473, 474, 475, 100, 476, 477, 478, 479, 99, 98, 97, 652, 653, 654, 655, 496, 497, 498, 499, 500, 501, 502, 503, 766, 767, 768, 769, 770, 771, 772, 773, 774, 775, 776, 777, 778, 779] (by decide +kernel) (by decide +kernel)
set_option maxRecDepth 20000 in
theorem gL_law_X8_answerByMerging : GoodIn wsL_law (wsV RL 139 RX8 yX8_answerByMerging wsX8_answerByMerging) := goodIn_app (goodIn_of _ (by decide +kernel)) ggL_law_X8_answerByMerging
set_option maxRecDepth 20000 in
theorem ggL_law_L_answerByVariables : GoodIn wsL_law wsL_answerByVariables := goodIn_ca (goodIn_r _ [658, 108, 659, 660, 661, 2, 662, 28, 24, 20, 556, 557, 558, 559, 115, 116, 16, 389, 390, 391, 23, 392, 62, 428, 429, 430, 431, 397, 398, 399, 400, 60, 61, 59, 432, 433, 434, 58, 435, 67, 66, 69, 132, 133, 436, 125, 126, 15, 127, 37, 128, 129, 130, 131, 164, 165, 437, 438, 439, 440, 441, 442, 134, 135, 443, 444, 445, 446, 447, 448, 449, 450, 451, 331, 332, 261, 262, 263, 264, 452, 334, 335, 19, 336, 337, 170, 171, 172, 173, 46, 47, 45, 174, 175, 176, 338, 145, 146, 44, 147, 52, 51, 453, 340, 341, 342, 454, 252, 253, 254, 255, 256, 257, 258, 259, 260, 455, 456, 457, 458, 663, 664, 665, 27, 666, 76, 564, 565, 566, 75, 567, 568, 569, 570, 571, 83, 84, 85, 572, 573, 574, 575, 91, 576, 577, 578, 579, 90, 667, 668, 669, 670, 544, 461, 462, 463, 591, 580, 581, 532, 533, 534, 535, 536, 537, 538, 539, 87, 88, 89, 540, 541, 542, 543, 488, 489, 490, 491, 68, 582, 583, 671, 672, 673, 674, 675, 612, 613, 614, 615, 616, 617, 618, 619, 620, 621, 622, 623, 584, 585, 586, 587, 77, 588, 589, 590, 592, 593, 594, 595, 596, 676, 677, 678, 679, 680, 681, 682, 683, 624, 625, 626, 627, 32, 31, 30, 628, 629, 630, 631, 632, 633, 484, 485, 486, 487, 634, 598, 599, 600, 601, 602, 603, 604, 82, 635, 636, 759, 760, 761, 762, 763, 764, 765, 786, 787, 788, 789, 794, 795, 796, 797, 780, 781, 782, 783, 784, 785, 792, 793, 790, 791, 798, 799, 800, 801, 802, 803] (by decide +kernel) (by decide +kernel)) (goodIn_sub (fun _ h => List.mem_append_left _ (List.mem_append_right _ h)) (by decide +kernel))
set_option maxRecDepth 20000 in
theorem gL_law_L_answerByVariables : GoodIn wsL_law (va_wsS RL 140 yL_answerByVariables wsL_answerByVariables) := goodIn_app (goodIn_of _ (by decide +kernel)) ggL_law_L_answerByVariables
set_option maxRecDepth 20000 in
theorem ggL_law_X8_answerByVariables : GoodIn wsL_law wsX8_answerByVariables := goodIn_r _ [687, 641, 642, 643, 5, 644, 185, 378, 645, 646, 647, 102, 101, 648, 649, 650, 651, 186, 472, 473, 474, 475, 100, 476, 477, 478, 479, 99, 98, 97, 652, 653, 654, 655, 496, 497, 498, 499, 500, 501, 502, 503, 766, 767, 768, 769, 770, 771, 772, 773, 774, 775, 776, 777, 778, 779] (by decide +kernel) (by decide +kernel)
set_option maxRecDepth 20000 in
theorem gL_law_X8_answerByVariables : GoodIn wsL_law (wsV RL 142 RX8 yX8_answerByVariables wsX8_answerByVariables) := goodIn_app (goodIn_of _ (by decide +kernel)) ggL_law_X8_answerByVariables
set_option maxRecDepth 20000 in
theorem ggL_law_L_answerByLoops : GoodIn wsL_law wsL_answerByLoops := goodIn_ca (goodIn_r _ [690, 108, 691, 692, 693, 2, 694, 28, 24, 20, 556, 557, 558, 559, 115, 116, 16, 389, 390, 391, 23, 392, 62, 428, 429, 430, 431, 397, 398, 399, 400, 60, 61, 59, 432, 433, 434, 58, 435, 67, 66, 69, 132, 133, 436, 125, 126, 15, 127, 37, 128, 129, 130, 131, 164, 165, 437, 438, 439, 440, 441, 442, 134, 135, 443, 444, 445, 446, 447, 448, 449, 450, 451, 331, 332, 261, 262, 263, 264, 452, 334, 335, 19, 336, 337, 170, 171, 172, 173, 46, 47, 45, 174, 175, 176, 338, 145, 146, 44, 147, 52, 51, 453, 340, 341, 342, 454, 252, 253, 254, 255, 256, 257, 258, 259, 260, 455, 456, 457, 458, 695, 696, 697, 27, 698, 76, 564, 565, 566, 75, 567, 568, 569, 570, 571, 83, 84, 85, 572, 573, 574, 575, 91, 576, 577, 578, 579, 90, 580, 582, 612, 613, 614, 615, 616, 617, 618, 619, 620, 621, 622, 623, 699, 700, 701, 702, 588, 589, 703, 704, 705, 706, 707, 153, 154, 155, 708, 594, 595, 596, 583, 489, 490, 491, 68, 624, 625, 626, 627, 32, 31, 30, 628, 629, 630, 631, 632, 633, 484, 485, 486, 487, 488, 634, 598, 599, 600, 601, 602, 603, 604, 82, 635, 636, 759, 760, 761, 762, 763, 764, 765, 786, 787, 788, 789, 794, 795, 796, 797, 780, 781, 782, 783, 784, 785, 792, 793, 790, 791, 798, 799, 800, 801, 802, 803] (by decide +kernel) (by decide +kernel)) (goodIn_sub (fun _ h => List.mem_append_left _ (List.mem_append_right _ h)) (by decide +kernel))
set_option maxRecDepth 20000 in
theorem gL_law_L_answerByLoops : GoodIn wsL_law (va_wsS RL 143 yL_answerByLoops wsL_answerByLoops) := goodIn_app (goodIn_of _ (by decide +kernel)) ggL_law_L_answerByLoops
set_option maxRecDepth 20000 in
theorem ggL_law_X8_answerByLoops : GoodIn wsL_law wsX8_answerByLoops := goodIn_r _ [712, 641, 642, 643, 5, 644, 185, 378, 645, 646, 647, 102, 101, 648, 649, 650, 651, 186, 472, 473, 474, 475, 100, 476, 477, 478, 479, 99, 98, 97, 652, 653, 654, 655, 496, 497, 498, 499, 500, 501, 502, 503, 766, 767, 768, 769, 770, 771, 772, 773, 774, 775, 776, 777, 778, 779] (by decide +kernel) (by decide +kernel)
set_option maxRecDepth 20000 in
theorem gL_law_X8_answerByLoops : GoodIn wsL_law (wsV RL 145 RX8 yX8_answerByLoops wsX8_answerByLoops) := goodIn_app (goodIn_of _ (by decide +kernel)) ggL_law_X8_answerByLoops
set_option maxRecDepth 20000 in
theorem ggL_law_X7_answers : GoodIn wsL_law wsX7_answers := goodIn_r _ [716, 31, 759, 760, 761, 762, 763, 764, 765] (by decide +kernel) (by decide +kernel)
set_option maxRecDepth 20000 in
theorem gL_law_X7_answers : GoodIn wsL_law (wsV RL 146 RX7 yX7_answers wsX7_answers) := goodIn_app (goodIn_of _ (by decide +kernel)) ggL_law_X7_answers
set_option maxRecDepth 20000 in
theorem ggL_law_X8_answers : GoodIn wsL_law wsX8_answers := goodIn_r _ [720, 185, 646, 766, 767, 768, 769, 770, 771, 772, 773, 774, 775, 776, 777, 778, 779] (by decide +kernel) (by decide +kernel)
set_option maxRecDepth 20000 in
theorem gL_law_X8_answers : GoodIn wsL_law (wsV RL 149 RX8 yX8_answers wsX8_answers) := goodIn_app (goodIn_of _ (by decide +kernel)) ggL_law_X8_answers
set_option maxRecDepth 20000 in
theorem ggL_law_L_answer : GoodIn wsL_law wsL_answer := goodIn_ca (goodIn_ca (goodIn_r _ [723, 241, 107, 724, 725, 726, 2, 727, 246, 247, 113, 114, 31, 32, 16, 30, 728, 729, 730, 607, 441, 442, 731, 132, 133, 732, 447, 448, 449, 450, 451, 265, 266, 267, 15, 268, 36, 759, 760, 761, 762, 763, 764, 765, 780, 781, 782] (by decide +kernel) (by decide +kernel)) (goodIn_sub (fun _ h => List.mem_append_right _ h) (by decide +kernel))) (goodIn_sub (fun _ h => List.mem_append_left _ (List.mem_append_left _ (List.mem_append_right _ h))) (by decide +kernel))
set_option maxRecDepth 20000 in
theorem gL_law_L_answer : GoodIn wsL_law (va_wsS RL 150 yL_answer wsL_answer) := goodIn_app (goodIn_of _ (by decide +kernel)) ggL_law_L_answer
set_option maxRecDepth 20000 in
theorem ggL_law_X8_answer : GoodIn wsL_law wsX8_answer := goodIn_r _ [736, 647, 646, 185, 97, 102, 191, 192, 5, 193, 737, 738, 739, 740, 766, 767, 768, 769, 770, 771, 772, 773, 774, 775, 776, 777, 778, 779] (by decide +kernel) (by decide +kernel)
set_option maxRecDepth 20000 in
theorem gL_law_X8_answer : GoodIn wsL_law (wsV RL 152 RX8 yX8_answer wsX8_answer) := goodIn_app (goodIn_of _ (by decide +kernel)) ggL_law_X8_answer
set_option maxRecDepth 20000 in
theorem ggL_law_L_termsFor : GoodIn wsL_law wsL_termsFor := goodIn_ca (goodIn_r _ [743, 107, 744, 745, 746, 2, 747, 113, 114, 32, 31, 30, 728, 729, 730, 607, 441, 442, 731, 132, 133, 732, 447, 448, 449, 450, 451, 748, 749, 750, 751, 752, 753, 754, 759, 760, 761, 762, 763, 764, 765] (by decide +kernel) (by decide +kernel)) (goodIn_sub (fun _ h => List.mem_append_left _ (List.mem_append_left _ (List.mem_append_right _ h))) (by decide +kernel))
set_option maxRecDepth 20000 in
theorem gL_law_L_termsFor : GoodIn wsL_law (va_wsS RL 153 yL_termsFor wsL_termsFor) := goodIn_app (goodIn_of _ (by decide +kernel)) ggL_law_L_termsFor
set_option maxRecDepth 20000 in
theorem ggL_law_X8_termsFor : GoodIn wsL_law wsX8_termsFor := goodIn_r _ [758, 185, 187, 646, 102, 191, 192, 5, 193, 737, 738, 739, 740, 766, 767, 768, 769, 770, 771, 772, 773, 774, 775, 776, 777, 778, 779] (by decide +kernel) (by decide +kernel)
set_option maxRecDepth 20000 in
theorem gL_law_X8_termsFor : GoodIn wsL_law (wsV RL 155 RX8 yX8_termsFor wsX8_termsFor) := goodIn_app (goodIn_of _ (by decide +kernel)) ggL_law_X8_termsFor

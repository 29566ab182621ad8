set_option maxRecDepth 20000 in
theorem ggX3_init_X2_init : GoodIn wsX3_init wsX2_init := goodIn_r _ [12, 13, 2, 3, 14, 15, 16, 17, 18, 19, 20, 21, 22] (by decide +kernel) (by decide +kernel)
set_option maxRecDepth 20000 in
theorem gX3_init_X2_init_n9 : GoodIn wsX3_init (wsX2_init) := ggX3_init_X2_init
set_option maxRecDepth 20000 in
theorem ggX3_add_X3_pattern : GoodIn wsX3_add wsX3_pattern := goodIn_r _ [6, 7, 8, 9, 24, 25, 26, 27] (by decide +kernel) (by decide +kernel)
set_option maxRecDepth 20000 in
theorem gX3_add_X3_pattern : GoodIn wsX3_add (wsV RX3 26 RX3 yX3_pattern wsX3_pattern) := goodIn_app (goodIn_of _ (by decide +kernel)) ggX3_add_X3_pattern
set_option maxRecDepth 20000 in
theorem ggX3_add_X2_tell : GoodIn wsX3_add wsX2_tell := goodIn_r _ [14, 15, 16, 17, 18, 19, 20, 21, 22, 13, 23, 28, 29, 30, 31] (by decide +kernel) (by decide +kernel)
set_option maxRecDepth 20000 in
theorem gX3_add_X2_tell : GoodIn wsX3_add (wsV RX3 30 RX2 yX2_tell wsX2_tell) := goodIn_app (goodIn_of _ (by decide +kernel)) ggX3_add_X2_tell
set_option maxRecDepth 20000 in
theorem ggX3_look_X3_pattern : GoodIn wsX3_look wsX3_pattern := goodIn_r _ [6, 7, 8, 9, 97, 98, 99, 100] (by decide +kernel) (by decide +kernel)
set_option maxRecDepth 20000 in
theorem gX3_look_X3_pattern : GoodIn wsX3_look (wsV RX3 26 RX3 yX3_pattern wsX3_pattern) := goodIn_app (goodIn_of _ (by decide +kernel)) ggX3_look_X3_pattern
set_option maxRecDepth 20000 in
theorem ggX3_look_X2_look : GoodIn wsX3_look wsX2_look := goodIn_r _ [14, 15, 16, 17, 18, 19, 20, 21, 22, 23, 24, 25, 26, 27, 28, 29, 30, 31, 32, 33, 34, 35, 13, 36, 37, 38, 39, 40, 41, 42, 43, 44, 45, 46, 47, 48, 49, 50, 51, 52, 53, 54, 55, 56, 57, 58, 59, 60, 61, 62, 63, 64, 65, 66, 67, 68, 69, 70, 71, 72, 73, 74, 75, 76, 77, 78, 79, 80, 81, 82, 83, 84, 85, 86, 87, 88, 89, 90, 91, 92, 93, 94, 95, 96, 101, 102, 103, 104, 105, 106, 107, 108, 109, 110, 111, 112] (by decide +kernel) (by decide +kernel)
set_option maxRecDepth 20000 in
theorem gX3_look_X2_look : GoodIn wsX3_look (wsV RX3 34 RX2 yX2_look wsX2_look) := goodIn_app (goodIn_of _ (by decide +kernel)) ggX3_look_X2_look
set_option maxRecDepth 20000 in
theorem ggX3_variableBits_X3_pattern : GoodIn wsX3_variableBits wsX3_pattern := goodIn_r _ [6, 7, 8, 9, 16, 17, 18, 19] (by decide +kernel) (by decide +kernel)
set_option maxRecDepth 20000 in
theorem gX3_variableBits_X3_pattern : GoodIn wsX3_variableBits (wsV RX3 26 RX3 yX3_pattern wsX3_pattern) := goodIn_app (goodIn_of _ (by decide +kernel)) ggX3_variableBits_X3_pattern
set_option maxRecDepth 20000 in
theorem ggX3_variableBits_X2_variableBits : GoodIn wsX3_variableBits wsX2_variableBits := goodIn_r _ [14, 15, 20, 21, 22, 23] (by decide +kernel) (by decide +kernel)
set_option maxRecDepth 20000 in
theorem gX3_variableBits_X2_variableBits : GoodIn wsX3_variableBits (wsV RX3 38 RX2 yX2_variableBits wsX2_variableBits) := goodIn_app (goodIn_of _ (by decide +kernel)) ggX3_variableBits_X2_variableBits
set_option maxRecDepth 20000 in
theorem ggX3_isStar_X2_part : GoodIn wsX3_isStar wsX2_part := goodIn_r _ [7, 8, 9, 10, 11, 23, 24, 25, 26] (by decide +kernel) (by decide +kernel)
set_option maxRecDepth 20000 in
theorem gX3_isStar_X2_part : GoodIn wsX3_isStar (wsV RX3 42 RX2 yX2_part wsX2_part) := goodIn_app (goodIn_of _ (by decide +kernel)) ggX3_isStar_X2_part
set_option maxRecDepth 20000 in
theorem ggX3_isStar_X3_pattern : GoodIn wsX3_isStar wsX3_pattern := goodIn_r _ [16, 17, 18, 2, 19, 20, 21, 22] (by decide +kernel) (by decide +kernel)
set_option maxRecDepth 20000 in
theorem gX3_isStar_X3_pattern : GoodIn wsX3_isStar (wsV RX3 26 RX3 yX3_pattern wsX3_pattern) := goodIn_app (goodIn_of _ (by decide +kernel)) ggX3_isStar_X3_pattern
set_option maxRecDepth 20000 in
theorem ggX3_isChain_X3_pattern : GoodIn wsX3_isChain wsX3_pattern := goodIn_r _ [6, 7, 8, 9, 19, 20, 21, 22] (by decide +kernel) (by decide +kernel)
set_option maxRecDepth 20000 in
theorem gX3_isChain_X3_pattern : GoodIn wsX3_isChain (wsV RX3 26 RX3 yX3_pattern wsX3_pattern) := goodIn_app (goodIn_of _ (by decide +kernel)) ggX3_isChain_X3_pattern
set_option maxRecDepth 20000 in
theorem ggX3_isChain_X2_part : GoodIn wsX3_isChain wsX2_part := goodIn_r _ [14, 15, 16, 17, 18, 23, 24, 25, 26] (by decide +kernel) (by decide +kernel)
set_option maxRecDepth 20000 in
theorem gX3_isChain_X2_part : GoodIn wsX3_isChain (wsV RX3 42 RX2 yX2_part wsX2_part) := goodIn_app (goodIn_of _ (by decide +kernel)) ggX3_isChain_X2_part
set_option maxRecDepth 20000 in
theorem ggX3_hasPatternWithoutMatch_X3_pattern : GoodIn wsX3_hasPatternWithoutMatch wsX3_pattern := goodIn_r _ [6, 7, 8, 9, 16, 17, 18, 19] (by decide +kernel) (by decide +kernel)
set_option maxRecDepth 20000 in
theorem gX3_hasPatternWithoutMatch_X3_pattern : GoodIn wsX3_hasPatternWithoutMatch (wsV RX3 26 RX3 yX3_pattern wsX3_pattern) := goodIn_app (goodIn_of _ (by decide +kernel)) ggX3_hasPatternWithoutMatch_X3_pattern
set_option maxRecDepth 20000 in
theorem ggX3_hasPatternWithoutMatch_X2_found : GoodIn wsX3_hasPatternWithoutMatch wsX2_found := goodIn_r _ [14, 15, 20, 21, 22, 23] (by decide +kernel) (by decide +kernel)
set_option maxRecDepth 20000 in
theorem gX3_hasPatternWithoutMatch_X2_found : GoodIn wsX3_hasPatternWithoutMatch (wsV RX3 46 RX2 yX2_found wsX2_found) := goodIn_app (goodIn_of _ (by decide +kernel)) ggX3_hasPatternWithoutMatch_X2_found
set_option maxRecDepth 20000 in
theorem ggX3_inJoinOrder_X3_bestLeft : GoodIn wsX3_inJoinOrder wsX3_bestLeft := goodIn_r _ [6, 1, 7, 8, 9, 10, 11, 12, 13, 14, 15, 16, 5, 17, 18, 19, 20, 21, 22, 23, 24, 25, 26, 27, 28, 29, 30, 31, 32, 33, 34, 35, 36, 37, 38, 39, 40, 41, 42, 43] (by decide +kernel) (by decide +kernel)
set_option maxRecDepth 20000 in
theorem gX3_inJoinOrder_X3_bestLeft : GoodIn wsX3_inJoinOrder (wsV RX3 49 RX3 yX3_bestLeft wsX3_bestLeft) := goodIn_app (goodIn_of _ (by decide +kernel)) ggX3_inJoinOrder_X3_bestLeft
set_option maxRecDepth 20000 in
theorem ggX3_inJoinOrder_X3_pattern : GoodIn wsX3_inJoinOrder wsX3_pattern := goodIn_r _ [21, 22, 23, 24, 36, 37, 38, 39] (by decide +kernel) (by decide +kernel)
set_option maxRecDepth 20000 in
theorem gX3_inJoinOrder_X3_pattern : GoodIn wsX3_inJoinOrder (wsV RX3 26 RX3 yX3_pattern wsX3_pattern) := goodIn_app (goodIn_of _ (by decide +kernel)) ggX3_inJoinOrder_X3_pattern
set_option maxRecDepth 20000 in
theorem ggX3_inJoinOrder_X2_variableBits : GoodIn wsX3_inJoinOrder wsX2_variableBits := goodIn_r _ [29, 30, 40, 41, 42, 43] (by decide +kernel) (by decide +kernel)
set_option maxRecDepth 20000 in
theorem gX3_inJoinOrder_X2_variableBits : GoodIn wsX3_inJoinOrder (wsV RX3 38 RX2 yX2_variableBits wsX2_variableBits) := goodIn_app (goodIn_of _ (by decide +kernel)) ggX3_inJoinOrder_X2_variableBits
set_option maxRecDepth 20000 in
theorem ggX3_bestLeft_X7_hasBit : GoodIn wsX3_bestLeft wsX7_hasBit := goodIn_r _ [8] (by decide +kernel) (by decide +kernel)
set_option maxRecDepth 20000 in
theorem gX3_bestLeft_X7_hasBit_n53 : GoodIn wsX3_bestLeft (wsX7_hasBit) := ggX3_bestLeft_X7_hasBit
set_option maxRecDepth 20000 in
theorem ggX3_bestLeft_X3_goesAhead : GoodIn wsX3_bestLeft wsX3_goesAhead := goodIn_r _ [13, 14, 15, 16, 12, 17, 18, 19, 20, 21, 22, 23, 24, 25, 26, 27, 28, 29, 30, 31, 32, 33, 34, 35, 36, 37, 38, 39] (by decide +kernel) (by decide +kernel)
set_option maxRecDepth 20000 in
theorem gX3_bestLeft_X3_goesAhead : GoodIn wsX3_bestLeft (wsV RX3 59 RX3 yX3_goesAhead wsX3_goesAhead) := goodIn_app (goodIn_of _ (by decide +kernel)) ggX3_bestLeft_X3_goesAhead
set_option maxRecDepth 20000 in
theorem ggX3_goesAhead_X3_pattern : GoodIn wsX3_goesAhead wsX3_pattern := goodIn_r _ [5, 6, 7, 8, 20, 21, 22, 23] (by decide +kernel) (by decide +kernel)
set_option maxRecDepth 20000 in
theorem gX3_goesAhead_X3_pattern : GoodIn wsX3_goesAhead (wsV RX3 26 RX3 yX3_pattern wsX3_pattern) := goodIn_app (goodIn_of _ (by decide +kernel)) ggX3_goesAhead_X3_pattern
set_option maxRecDepth 20000 in
theorem ggX3_goesAhead_X2_variableBits : GoodIn wsX3_goesAhead wsX2_variableBits := goodIn_r _ [13, 14, 24, 25, 26, 27] (by decide +kernel) (by decide +kernel)
set_option maxRecDepth 20000 in
theorem gX3_goesAhead_X2_variableBits : GoodIn wsX3_goesAhead (wsV RX3 38 RX2 yX2_variableBits wsX2_variableBits) := goodIn_app (goodIn_of _ (by decide +kernel)) ggX3_goesAhead_X2_variableBits
set_option maxRecDepth 20000 in
theorem ggX3_goesAhead_X2_found : GoodIn wsX3_goesAhead wsX2_found := goodIn_r _ [18, 19, 24, 25, 26, 27] (by decide +kernel) (by decide +kernel)
set_option maxRecDepth 20000 in
theorem gX3_goesAhead_X2_found : GoodIn wsX3_goesAhead (wsV RX3 46 RX2 yX2_found wsX2_found) := goodIn_app (goodIn_of _ (by decide +kernel)) ggX3_goesAhead_X2_found

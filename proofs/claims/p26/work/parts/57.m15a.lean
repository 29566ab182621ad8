set_option maxRecDepth 20000 in
theorem ggX2_tell_X7_put : GoodIn wsX2_tell wsX7_put := goodIn_r _ [5] (by decide +kernel) (by decide +kernel)
set_option maxRecDepth 20000 in
theorem gX2_tell_X7_put_n25 : GoodIn wsX2_tell (wsX7_put) := ggX2_tell_X7_put
set_option maxRecDepth 20000 in
theorem ggX2_tell_X2_bitOf : GoodIn wsX2_tell wsX2_bitOf := goodIn_r _ [10] (by decide +kernel) (by decide +kernel)
set_option maxRecDepth 20000 in
theorem gX2_tell_X2_bitOf : GoodIn wsX2_tell (wsV RX2 29 RX2 yX2_bitOf wsX2_bitOf) := goodIn_app (goodIn_of _ (by decide +kernel)) ggX2_tell_X2_bitOf
set_option maxRecDepth 20000 in
theorem ggX2_part_X7_at : GoodIn wsX2_part wsX7_at := goodIn_r _ [4] (by decide +kernel) (by decide +kernel)
set_option maxRecDepth 20000 in
theorem gX2_part_X7_at_n33 : GoodIn wsX2_part (wsX7_at) := ggX2_part_X7_at
set_option maxRecDepth 20000 in
theorem ggX2_look_X7_at : GoodIn wsX2_look wsX7_at := goodIn_r _ [6] (by decide +kernel) (by decide +kernel)
set_option maxRecDepth 20000 in
theorem gX2_look_X7_at_n33 : GoodIn wsX2_look (wsX7_at) := ggX2_look_X7_at
set_option maxRecDepth 20000 in
theorem ggX2_look_X0_number : GoodIn wsX2_look wsX0_number := goodIn_r _ [11, 12, 13, 14, 15, 10, 16, 4, 5, 6, 88, 89, 90] (by decide +kernel) (by decide +kernel)
set_option maxRecDepth 20000 in
theorem gX2_look_X0_number : GoodIn wsX2_look (wsV RX2 37 RX0 yX0_number wsX0_number) := goodIn_app (goodIn_of _ (by decide +kernel)) ggX2_look_X0_number
set_option maxRecDepth 20000 in
theorem ggX2_look_X7_put : GoodIn wsX2_look wsX7_put := goodIn_r _ [18] (by decide +kernel) (by decide +kernel)
set_option maxRecDepth 20000 in
theorem gX2_look_X7_put_n25 : GoodIn wsX2_look (wsX7_put) := ggX2_look_X7_put
set_option maxRecDepth 20000 in
theorem ggX2_look_X2_maskWith : GoodIn wsX2_look wsX2_maskWith := goodIn_r _ [23, 2, 4, 5, 6, 24, 25, 26, 27, 84, 85, 86, 87] (by decide +kernel) (by decide +kernel)
set_option maxRecDepth 20000 in
theorem gX2_look_X2_maskWith : GoodIn wsX2_look (wsV RX2 42 RX2 yX2_maskWith wsX2_maskWith) := goodIn_app (goodIn_of _ (by decide +kernel)) ggX2_look_X2_maskWith
set_option maxRecDepth 20000 in
theorem ggX2_look_X2_valueWith : GoodIn wsX2_look wsX2_valueWith := goodIn_r _ [31, 2, 1, 4, 5, 6, 26, 27, 24, 25, 32, 33, 34, 35, 36, 84, 85, 86, 87] (by decide +kernel) (by decide +kernel)
set_option maxRecDepth 20000 in
theorem gX2_look_X2_valueWith : GoodIn wsX2_look (wsV RX2 45 RX2 yX2_valueWith wsX2_valueWith) := goodIn_app (goodIn_of _ (by decide +kernel)) ggX2_look_X2_valueWith
set_option maxRecDepth 20000 in
theorem ggX2_look_X7_orderOf : GoodIn wsX2_look wsX7_orderOf := goodIn_r _ [38, 39, 40, 5, 41, 42, 26, 27] (by decide +kernel) (by decide +kernel)
set_option maxRecDepth 20000 in
theorem gX2_look_X7_orderOf_n49 : GoodIn wsX2_look (wsX7_orderOf) := ggX2_look_X7_orderOf
set_option maxRecDepth 20000 in
theorem ggX2_look_X5_end : GoodIn wsX2_look wsX5_end := goodIn_r _ [47, 48, 49, 50, 51, 46, 52, 53, 54, 55, 56, 5, 57, 58, 59, 60, 61, 62, 63, 64, 65, 4, 6, 91, 92, 93, 94, 95] (by decide +kernel) (by decide +kernel)
set_option maxRecDepth 20000 in
theorem gX2_look_X5_end : GoodIn wsX2_look (wsV RX2 52 RX5 yX5_end wsX5_end) := goodIn_app (goodIn_of _ (by decide +kernel)) ggX2_look_X5_end
set_option maxRecDepth 20000 in
theorem ggX2_look_X5_begin : GoodIn wsX2_look wsX5_begin := goodIn_r _ [69, 49, 50, 51, 46, 52, 53, 54, 55, 56, 5, 57, 58, 59, 60, 61, 62, 63, 64, 65, 4, 6, 91, 92, 93, 94, 95] (by decide +kernel) (by decide +kernel)
set_option maxRecDepth 20000 in
theorem gX2_look_X5_begin : GoodIn wsX2_look (wsV RX2 58 RX5 yX5_begin wsX5_begin) := goodIn_app (goodIn_of _ (by decide +kernel)) ggX2_look_X5_begin
set_option maxRecDepth 20000 in
theorem ggX2_look_X5_triple : GoodIn wsX2_look wsX5_triple := goodIn_r _ [73, 49, 50, 51, 46, 52, 53, 54, 55, 74, 75, 76, 62, 77, 65, 4, 5, 6, 78, 79, 58, 91, 92, 93, 94, 95] (by decide +kernel) (by decide +kernel)
set_option maxRecDepth 20000 in
theorem gX2_look_X5_triple : GoodIn wsX2_look (wsV RX2 61 RX5 yX5_triple wsX5_triple) := goodIn_app (goodIn_of _ (by decide +kernel)) ggX2_look_X5_triple
set_option maxRecDepth 20000 in
theorem ggX2_look_X2_widen : GoodIn wsX2_look wsX2_widen := goodIn_r _ [83, 2, 4, 5, 6, 40, 41, 42, 26, 27, 24, 25, 35, 36, 32, 33, 34, 84, 85, 86, 87] (by decide +kernel) (by decide +kernel)
set_option maxRecDepth 20000 in
theorem gX2_look_X2_widen : GoodIn wsX2_look (wsV RX2 64 RX2 yX2_widen wsX2_widen) := goodIn_app (goodIn_of _ (by decide +kernel)) ggX2_look_X2_widen
set_option maxRecDepth 20000 in
theorem ggX2_maskWith_X7_at : GoodIn wsX2_maskWith wsX7_at := goodIn_r _ [4] (by decide +kernel) (by decide +kernel)
set_option maxRecDepth 20000 in
theorem gX2_maskWith_X7_at_n33 : GoodIn wsX2_maskWith (wsX7_at) := ggX2_maskWith_X7_at
set_option maxRecDepth 20000 in
theorem ggX2_maskWith_X7_hasBit : GoodIn wsX2_maskWith wsX7_hasBit := goodIn_r _ [6] (by decide +kernel) (by decide +kernel)
set_option maxRecDepth 20000 in
theorem gX2_maskWith_X7_hasBit_n67 : GoodIn wsX2_maskWith (wsX7_hasBit) := ggX2_maskWith_X7_hasBit
set_option maxRecDepth 20000 in
theorem ggX2_maskWith_X7_partShift : GoodIn wsX2_maskWith wsX7_partShift := goodIn_r _ [8] (by decide +kernel) (by decide +kernel)
set_option maxRecDepth 20000 in
theorem gX2_maskWith_X7_partShift_n71 : GoodIn wsX2_maskWith (wsX7_partShift) := ggX2_maskWith_X7_partShift
set_option maxRecDepth 20000 in
theorem ggX2_valueWith_X7_at : GoodIn wsX2_valueWith wsX7_at := goodIn_r _ [5] (by decide +kernel) (by decide +kernel)
set_option maxRecDepth 20000 in
theorem gX2_valueWith_X7_at_n33 : GoodIn wsX2_valueWith (wsX7_at) := ggX2_valueWith_X7_at
set_option maxRecDepth 20000 in
theorem ggX2_valueWith_X7_partShift : GoodIn wsX2_valueWith wsX7_partShift := goodIn_r _ [7] (by decide +kernel) (by decide +kernel)
set_option maxRecDepth 20000 in
theorem gX2_valueWith_X7_partShift_n71 : GoodIn wsX2_valueWith (wsX7_partShift) := ggX2_valueWith_X7_partShift
set_option maxRecDepth 20000 in
theorem ggX2_valueWith_X7_hasBit : GoodIn wsX2_valueWith wsX7_hasBit := goodIn_r _ [9] (by decide +kernel) (by decide +kernel)
set_option maxRecDepth 20000 in
theorem gX2_valueWith_X7_hasBit_n67 : GoodIn wsX2_valueWith (wsX7_hasBit) := ggX2_valueWith_X7_hasBit
set_option maxRecDepth 20000 in
theorem ggX2_valueWith_X7_cellOf : GoodIn wsX2_valueWith wsX7_cellOf := goodIn_r _ [11, 12, 13, 4, 14] (by decide +kernel) (by decide +kernel)
set_option maxRecDepth 20000 in
theorem gX2_valueWith_X7_cellOf_n74 : GoodIn wsX2_valueWith (wsX7_cellOf) := ggX2_valueWith_X7_cellOf
set_option maxRecDepth 20000 in
theorem ggX2_widen_X7_at : GoodIn wsX2_widen wsX7_at := goodIn_r _ [4] (by decide +kernel) (by decide +kernel)
set_option maxRecDepth 20000 in
theorem gX2_widen_X7_at_n33 : GoodIn wsX2_widen (wsX7_at) := ggX2_widen_X7_at
set_option maxRecDepth 20000 in
theorem ggX2_widen_X7_partOf : GoodIn wsX2_widen wsX7_partOf := goodIn_r _ [6, 7, 8, 3, 9] (by decide +kernel) (by decide +kernel)
set_option maxRecDepth 20000 in
theorem gX2_widen_X7_partOf_n77 : GoodIn wsX2_widen (wsX7_partOf) := ggX2_widen_X7_partOf
set_option maxRecDepth 20000 in
theorem ggX2_widen_X7_hasBit : GoodIn wsX2_widen wsX7_hasBit := goodIn_r _ [11] (by decide +kernel) (by decide +kernel)
set_option maxRecDepth 20000 in
theorem gX2_widen_X7_hasBit_n67 : GoodIn wsX2_widen (wsX7_hasBit) := ggX2_widen_X7_hasBit
set_option maxRecDepth 20000 in
theorem ggX2_widen_X7_cellShift : GoodIn wsX2_widen wsX7_cellShift := goodIn_r _ [13] (by decide +kernel) (by decide +kernel)
set_option maxRecDepth 20000 in
theorem gX2_widen_X7_cellShift_n80 : GoodIn wsX2_widen (wsX7_cellShift) := ggX2_widen_X7_cellShift
set_option maxRecDepth 20000 in
theorem ggX2_widen_X7_cellOf : GoodIn wsX2_widen wsX7_cellOf := goodIn_r _ [15, 16, 12, 3, 13] (by decide +kernel) (by decide +kernel)
set_option maxRecDepth 20000 in
theorem gX2_widen_X7_cellOf_n74 : GoodIn wsX2_widen (wsX7_cellOf) := ggX2_widen_X7_cellOf

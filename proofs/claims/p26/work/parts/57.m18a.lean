set_option maxRecDepth 20000 in
theorem ggX7_init_X0_init : GoodIn wsX7_init wsX0_init := goodIn_r _ [25, 26, 2, 3, 20, 27, 28, 29, 83, 84, 85] (by decide +kernel) (by decide +kernel)
set_option maxRecDepth 20000 in
theorem gX7_init_X0_init_n9 : GoodIn wsX7_init (wsX0_init) := ggX7_init_X0_init
set_option maxRecDepth 20000 in
theorem ggX7_init_X5_init : GoodIn wsX7_init wsX5_init := goodIn_r _ [31, 32, 2, 3, 33, 34, 35, 36, 37, 38, 39, 40, 41, 20, 42, 43, 102, 103, 93, 94, 95] (by decide +kernel) (by decide +kernel)
set_option maxRecDepth 20000 in
theorem gX7_init_X5_init_n18 : GoodIn wsX7_init (wsX5_init) := ggX7_init_X5_init
set_option maxRecDepth 20000 in
theorem ggX7_init_X3_init : GoodIn wsX7_init wsX3_init := goodIn_r _ [45, 46, 2, 3, 47, 48, 49, 50, 51, 52, 53, 54, 55, 56, 20, 57, 58, 59, 60, 104, 105, 106, 107, 96, 97, 98, 99] (by decide +kernel) (by decide +kernel)
set_option maxRecDepth 20000 in
theorem gX7_init_X3_init_n25 : GoodIn wsX7_init (wsX3_init) := ggX7_init_X3_init
set_option maxRecDepth 20000 in
theorem ggX7_init_X1_init : GoodIn wsX7_init wsX1_init := goodIn_r _ [62, 63, 2, 3, 64, 65, 66, 67, 68, 69, 70, 71, 72, 20, 73, 74, 75, 76, 77, 78, 79, 80, 81, 82, 108, 109, 110, 111, 112, 113, 100, 101] (by decide +kernel) (by decide +kernel)
set_option maxRecDepth 20000 in
theorem gX7_init_X1_init_n32 : GoodIn wsX7_init (wsX1_init) := ggX7_init_X1_init
set_option maxRecDepth 20000 in
theorem ggX7_state_X7_isTerm : GoodIn wsX7_state wsX7_isTerm := goodIn_r _ [10] (by decide +kernel) (by decide +kernel)
set_option maxRecDepth 20000 in
theorem gX7_state_X7_isTerm : GoodIn wsX7_state (va_wsS RX7 48 yX7_isTerm wsX7_isTerm) := goodIn_app (goodIn_of _ (by decide +kernel)) ggX7_state_X7_isTerm
set_option maxRecDepth 20000 in
theorem ggX7_state_X0_pack : GoodIn wsX7_state wsX0_pack := goodIn_r _ [15, 16, 17, 18, 14, 19, 20, 21, 22, 23, 24, 25, 9, 26, 27, 28, 90, 91, 92] (by decide +kernel) (by decide +kernel)
set_option maxRecDepth 20000 in
theorem gX7_state_X0_pack : GoodIn wsX7_state (wsV RX7 59 RX0 yX0_pack wsX0_pack) := goodIn_app (goodIn_of _ (by decide +kernel)) ggX7_state_X0_pack
set_option maxRecDepth 20000 in
theorem ggX7_state_X5_holds : GoodIn wsX7_state wsX5_holds := goodIn_r _ [33, 34, 35, 36, 37, 38, 39, 40, 41, 42, 43, 44, 45, 25, 9, 26, 93, 94, 95, 96, 97] (by decide +kernel) (by decide +kernel)
set_option maxRecDepth 20000 in
theorem gX7_state_X5_holds : GoodIn wsX7_state (wsV RX7 63 RX5 yX5_holds wsX5_holds) := goodIn_app (goodIn_of _ (by decide +kernel)) ggX7_state_X5_holds
set_option maxRecDepth 20000 in
theorem ggX7_state_X5_size : GoodIn wsX7_state wsX5_size := goodIn_r _ [49, 34, 50, 51, 52, 38, 53, 40, 93, 94, 95, 96, 97] (by decide +kernel) (by decide +kernel)
set_option maxRecDepth 20000 in
theorem gX7_state_X5_size : GoodIn wsX7_state (wsV RX7 66 RX5 yX5_size wsX5_size) := goodIn_app (goodIn_of _ (by decide +kernel)) ggX7_state_X5_size
set_option maxRecDepth 20000 in
theorem ggX7_state_X0_sizeWith : GoodIn wsX7_state wsX0_sizeWith := goodIn_r _ [57, 58, 21, 22, 23, 14, 24, 20, 25, 9, 26, 90, 91, 92] (by decide +kernel) (by decide +kernel)
set_option maxRecDepth 20000 in
theorem gX7_state_X0_sizeWith : GoodIn wsX7_state (wsV RX7 75 RX0 yX0_sizeWith wsX0_sizeWith) := goodIn_app (goodIn_of _ (by decide +kernel)) ggX7_state_X0_sizeWith
set_option maxRecDepth 20000 in
theorem ggX7_state_X0_learn : GoodIn wsX7_state wsX0_learn := goodIn_r _ [62, 58, 63, 20, 21, 22, 23, 14, 24, 25, 9, 26, 64, 65, 90, 91, 92] (by decide +kernel) (by decide +kernel)
set_option maxRecDepth 20000 in
theorem gX7_state_X0_learn : GoodIn wsX7_state (wsV RX7 80 RX0 yX0_learn wsX0_learn) := goodIn_app (goodIn_of _ (by decide +kernel)) ggX7_state_X0_learn
set_option maxRecDepth 20000 in
theorem ggX7_state_X5_insert : GoodIn wsX7_state wsX5_insert := goodIn_r _ [69, 70, 71, 72, 32, 73, 74, 75, 34, 76, 9, 77, 78, 79, 80, 81, 38, 82, 40, 41, 42, 43, 44, 45, 25, 26, 64, 65, 93, 94, 95, 96, 97] (by decide +kernel) (by decide +kernel)
set_option maxRecDepth 20000 in
theorem gX7_state_X5_insert : GoodIn wsX7_state (wsV RX7 84 RX5 yX5_insert wsX5_insert) := goodIn_app (goodIn_of _ (by decide +kernel)) ggX7_state_X5_insert
set_option maxRecDepth 20000 in
theorem ggX7_takeBack_X7_isTerm : GoodIn wsX7_takeBack wsX7_isTerm := goodIn_r _ [8] (by decide +kernel) (by decide +kernel)
set_option maxRecDepth 20000 in
theorem gX7_takeBack_X7_isTerm : GoodIn wsX7_takeBack (va_wsS RX7 48 yX7_isTerm wsX7_isTerm) := goodIn_app (goodIn_of _ (by decide +kernel)) ggX7_takeBack_X7_isTerm
set_option maxRecDepth 20000 in
theorem ggX7_takeBack_X0_pack : GoodIn wsX7_takeBack wsX0_pack := goodIn_r _ [13, 14, 15, 16, 12, 17, 18, 19, 20, 21, 22, 23, 7, 24, 25, 26, 71, 72, 73] (by decide +kernel) (by decide +kernel)
set_option maxRecDepth 20000 in
theorem gX7_takeBack_X0_pack : GoodIn wsX7_takeBack (wsV RX7 59 RX0 yX0_pack wsX0_pack) := goodIn_app (goodIn_of _ (by decide +kernel)) ggX7_takeBack_X0_pack
set_option maxRecDepth 20000 in
theorem ggX7_takeBack_X5_holds : GoodIn wsX7_takeBack wsX5_holds := goodIn_r _ [31, 32, 33, 34, 35, 36, 37, 38, 39, 40, 41, 42, 43, 23, 7, 24, 74, 75, 76, 77, 78] (by decide +kernel) (by decide +kernel)
set_option maxRecDepth 20000 in
theorem gX7_takeBack_X5_holds : GoodIn wsX7_takeBack (wsV RX7 63 RX5 yX5_holds wsX5_holds) := goodIn_app (goodIn_of _ (by decide +kernel)) ggX7_takeBack_X5_holds
set_option maxRecDepth 20000 in
theorem ggX7_takeBack_X5_remove : GoodIn wsX7_takeBack wsX5_remove := goodIn_r _ [47, 48, 49, 50, 30, 51, 52, 53, 32, 54, 7, 55, 56, 57, 58, 59, 36, 60, 38, 39, 61, 34, 35, 37, 40, 41, 42, 43, 23, 24, 62, 63, 74, 75, 76, 77, 78] (by decide +kernel) (by decide +kernel)
set_option maxRecDepth 20000 in
theorem gX7_takeBack_X5_remove : GoodIn wsX7_takeBack (wsV RX7 87 RX5 yX5_remove wsX5_remove) := goodIn_app (goodIn_of _ (by decide +kernel)) ggX7_takeBack_X5_remove
set_option maxRecDepth 20000 in
theorem ggX7_triples_X5_size : GoodIn wsX7_triples wsX5_size := goodIn_r _ [6, 7, 8, 9, 10, 11, 12, 13, 21, 22, 23, 24, 25] (by decide +kernel) (by decide +kernel)
set_option maxRecDepth 20000 in
theorem gX7_triples_X5_size : GoodIn wsX7_triples (wsV RX7 66 RX5 yX5_size wsX5_size) := goodIn_app (goodIn_of _ (by decide +kernel)) ggX7_triples_X5_size
set_option maxRecDepth 20000 in
theorem ggX7_termAt_X7_isOrder : GoodIn wsX7_termAt wsX7_isOrder := goodIn_r _ [10] (by decide +kernel) (by decide +kernel)
set_option maxRecDepth 20000 in
theorem gX7_termAt_X7_isOrder : GoodIn wsX7_termAt (va_wsS RX7 90 yX7_isOrder wsX7_isOrder) := goodIn_app (goodIn_of _ (by decide +kernel)) ggX7_termAt_X7_isOrder
set_option maxRecDepth 20000 in
theorem ggX7_termAt_X5_size : GoodIn wsX7_termAt wsX5_size := goodIn_r _ [15, 16, 17, 18, 19, 20, 21, 22, 62, 63, 64, 65, 66] (by decide +kernel) (by decide +kernel)
set_option maxRecDepth 20000 in
theorem gX7_termAt_X5_size : GoodIn wsX7_termAt (wsV RX7 66 RX5 yX5_size wsX5_size) := goodIn_app (goodIn_of _ (by decide +kernel)) ggX7_termAt_X5_size
set_option maxRecDepth 20000 in
theorem ggX7_termAt_X5_triple : GoodIn wsX7_termAt wsX5_triple := goodIn_r _ [26, 27, 28, 29, 14, 30, 31, 32, 16, 33, 34, 35, 20, 36, 37, 38, 9, 39, 40, 41, 42, 62, 63, 64, 65, 66] (by decide +kernel) (by decide +kernel)
set_option maxRecDepth 20000 in
theorem gX7_termAt_X5_triple : GoodIn wsX7_termAt (wsV RX7 102 RX5 yX5_triple wsX5_triple) := goodIn_app (goodIn_of _ (by decide +kernel)) ggX7_termAt_X5_triple
set_option maxRecDepth 20000 in
theorem ggX7_termAt_X7_partOf : GoodIn wsX7_termAt wsX7_partOf := goodIn_r _ [45, 46, 47, 9, 48] (by decide +kernel) (by decide +kernel)
set_option maxRecDepth 20000 in
theorem gX7_termAt_X7_partOf : GoodIn wsX7_termAt (va_wsS RX7 106 yX7_partOf wsX7_partOf) := goodIn_app (goodIn_of _ (by decide +kernel)) ggX7_termAt_X7_partOf
set_option maxRecDepth 20000 in
theorem ggX7_termAt_X0_term : GoodIn wsX7_termAt wsX0_term := goodIn_r _ [53, 54, 38, 9, 39, 67, 68, 69] (by decide +kernel) (by decide +kernel)
set_option maxRecDepth 20000 in
theorem gX7_termAt_X0_term : GoodIn wsX7_termAt (wsV RX7 109 RX0 yX0_term wsX0_term) := goodIn_app (goodIn_of _ (by decide +kernel)) ggX7_termAt_X0_term
set_option maxRecDepth 20000 in
theorem ggX7_terms_X0_size : GoodIn wsX7_terms wsX0_size := goodIn_r _ [6, 7, 15, 16, 17] (by decide +kernel) (by decide +kernel)
set_option maxRecDepth 20000 in
theorem gX7_terms_X0_size : GoodIn wsX7_terms (wsV RX7 113 RX0 yX0_size wsX0_size) := goodIn_app (goodIn_of _ (by decide +kernel)) ggX7_terms_X0_size
set_option maxRecDepth 20000 in
theorem ggX7_numberOf_X7_isTerm : GoodIn wsX7_numberOf wsX7_isTerm := goodIn_r _ [7] (by decide +kernel) (by decide +kernel)
set_option maxRecDepth 20000 in
theorem gX7_numberOf_X7_isTerm : GoodIn wsX7_numberOf (va_wsS RX7 48 yX7_isTerm wsX7_isTerm) := goodIn_app (goodIn_of _ (by decide +kernel)) ggX7_numberOf_X7_isTerm
set_option maxRecDepth 20000 in
theorem ggX7_numberOf_X0_knows : GoodIn wsX7_numberOf wsX0_knows := goodIn_r _ [12, 13, 14, 6, 15, 28, 29, 30] (by decide +kernel) (by decide +kernel)
set_option maxRecDepth 20000 in
theorem gX7_numberOf_X0_knows : GoodIn wsX7_numberOf (wsV RX7 114 RX0 yX0_knows wsX0_knows) := goodIn_app (goodIn_of _ (by decide +kernel)) ggX7_numberOf_X0_knows
set_option maxRecDepth 20000 in
theorem ggX7_numberOf_X0_number : GoodIn wsX7_numberOf wsX0_number := goodIn_r _ [19, 13, 20, 9, 10, 11, 12, 14, 6, 15, 28, 29, 30] (by decide +kernel) (by decide +kernel)
set_option maxRecDepth 20000 in
theorem gX7_numberOf_X0_number : GoodIn wsX7_numberOf (wsV RX7 117 RX0 yX0_number wsX0_number) := goodIn_app (goodIn_of _ (by decide +kernel)) ggX7_numberOf_X0_number
set_option maxRecDepth 20000 in
theorem ggX7_termOf_X0_size : GoodIn wsX7_termOf wsX0_size := goodIn_r _ [8, 9, 25, 26, 27] (by decide +kernel) (by decide +kernel)
set_option maxRecDepth 20000 in
theorem gX7_termOf_X0_size : GoodIn wsX7_termOf (wsV RX7 113 RX0 yX0_size wsX0_size) := goodIn_app (goodIn_of _ (by decide +kernel)) ggX7_termOf_X0_size
set_option maxRecDepth 20000 in
theorem ggX7_termOf_X0_term : GoodIn wsX7_termOf wsX0_term := goodIn_r _ [13, 14, 15, 16, 17, 25, 26, 27] (by decide +kernel) (by decide +kernel)
set_option maxRecDepth 20000 in
theorem gX7_termOf_X0_term : GoodIn wsX7_termOf (wsV RX7 109 RX0 yX0_term wsX0_term) := goodIn_app (goodIn_of _ (by decide +kernel)) ggX7_termOf_X0_term
set_option maxRecDepth 20000 in
theorem ggX7_count_X7_isTermOrAny : GoodIn wsX7_count wsX7_isTermOrAny := goodIn_r _ [8] (by decide +kernel) (by decide +kernel)
set_option maxRecDepth 20000 in
theorem gX7_count_X7_isTermOrAny : GoodIn wsX7_count (va_wsS RX7 122 yX7_isTermOrAny wsX7_isTermOrAny) := goodIn_app (goodIn_of _ (by decide +kernel)) ggX7_count_X7_isTermOrAny
set_option maxRecDepth 20000 in
theorem ggX7_count_X7_maskFor : GoodIn wsX7_count wsX7_maskFor := goodIn_r _ [11, 12, 13, 7, 14] (by decide +kernel) (by decide +kernel)
set_option maxRecDepth 20000 in
theorem gX7_count_X7_maskFor : GoodIn wsX7_count (va_wsS RX7 127 yX7_maskFor wsX7_maskFor) := goodIn_app (goodIn_of _ (by decide +kernel)) ggX7_count_X7_maskFor
set_option maxRecDepth 20000 in
theorem ggX7_count_X0_pack : GoodIn wsX7_count wsX0_pack := goodIn_r _ [19, 20, 21, 22, 18, 23, 24, 25, 26, 27, 28, 29, 7, 30, 13, 14, 71, 72, 73] (by decide +kernel) (by decide +kernel)
set_option maxRecDepth 20000 in
theorem gX7_count_X0_pack : GoodIn wsX7_count (wsV RX7 59 RX0 yX0_pack wsX0_pack) := goodIn_app (goodIn_of _ (by decide +kernel)) ggX7_count_X0_pack
set_option maxRecDepth 20000 in
theorem ggX7_count_X7_orderOf : GoodIn wsX7_count wsX7_orderOf := goodIn_r _ [33, 34, 35, 7, 36, 12, 13, 14] (by decide +kernel) (by decide +kernel)
set_option maxRecDepth 20000 in
theorem gX7_count_X7_orderOf : GoodIn wsX7_count (va_wsS RX7 131 yX7_orderOf wsX7_orderOf) := goodIn_app (goodIn_of _ (by decide +kernel)) ggX7_count_X7_orderOf
set_option maxRecDepth 20000 in
theorem ggX7_count_X5_end : GoodIn wsX7_count wsX5_end := goodIn_r _ [41, 42, 43, 44, 45, 40, 46, 47, 48, 49, 50, 7, 51, 52, 53, 54, 55, 56, 57, 58, 59, 29, 30, 74, 75, 76, 77, 78] (by decide +kernel) (by decide +kernel)
set_option maxRecDepth 20000 in
theorem gX7_count_X5_end : GoodIn wsX7_count (wsV RX7 134 RX5 yX5_end wsX5_end) := goodIn_app (goodIn_of _ (by decide +kernel)) ggX7_count_X5_end
set_option maxRecDepth 20000 in
theorem ggX7_count_X5_begin : GoodIn wsX7_count wsX5_begin := goodIn_r _ [63, 43, 44, 45, 40, 46, 47, 48, 49, 50, 7, 51, 52, 53, 54, 55, 56, 57, 58, 59, 29, 30, 74, 75, 76, 77, 78] (by decide +kernel) (by decide +kernel)
set_option maxRecDepth 20000 in
theorem gX7_count_X5_begin : GoodIn wsX7_count (wsV RX7 137 RX5 yX5_begin wsX5_begin) := goodIn_app (goodIn_of _ (by decide +kernel)) ggX7_count_X5_begin
set_option maxRecDepth 20000 in
theorem ggX7_orderFor_X7_maskFor : GoodIn wsX7_orderFor wsX7_maskFor := goodIn_r _ [4, 5, 6, 3, 7] (by decide +kernel) (by decide +kernel)
set_option maxRecDepth 20000 in
theorem gX7_orderFor_X7_maskFor : GoodIn wsX7_orderFor (va_wsS RX7 127 yX7_maskFor wsX7_maskFor) := goodIn_app (goodIn_of _ (by decide +kernel)) ggX7_orderFor_X7_maskFor
set_option maxRecDepth 20000 in
theorem ggX7_orderFor_X7_orderOf : GoodIn wsX7_orderFor wsX7_orderOf := goodIn_r _ [10, 11, 12, 3, 13, 5, 6, 7] (by decide +kernel) (by decide +kernel)
set_option maxRecDepth 20000 in
theorem gX7_orderFor_X7_orderOf : GoodIn wsX7_orderFor (va_wsS RX7 131 yX7_orderOf wsX7_orderOf) := goodIn_app (goodIn_of _ (by decide +kernel)) ggX7_orderFor_X7_orderOf
set_option maxRecDepth 20000 in
theorem ggX7_seek_X7_isOrder : GoodIn wsX7_seek wsX7_isOrder := goodIn_r _ [10] (by decide +kernel) (by decide +kernel)
set_option maxRecDepth 20000 in
theorem gX7_seek_X7_isOrder : GoodIn wsX7_seek (va_wsS RX7 90 yX7_isOrder wsX7_isOrder) := goodIn_app (goodIn_of _ (by decide +kernel)) ggX7_seek_X7_isOrder
set_option maxRecDepth 20000 in
theorem ggX7_seek_X7_isTerm : GoodIn wsX7_seek wsX7_isTerm := goodIn_r _ [13] (by decide +kernel) (by decide +kernel)
set_option maxRecDepth 20000 in
theorem gX7_seek_X7_isTerm : GoodIn wsX7_seek (va_wsS RX7 48 yX7_isTerm wsX7_isTerm) := goodIn_app (goodIn_of _ (by decide +kernel)) ggX7_seek_X7_isTerm
set_option maxRecDepth 20000 in
theorem ggX7_seek_X0_knows : GoodIn wsX7_seek wsX0_knows := goodIn_r _ [18, 19, 20, 9, 21, 59, 60, 61] (by decide +kernel) (by decide +kernel)
set_option maxRecDepth 20000 in
theorem gX7_seek_X0_knows : GoodIn wsX7_seek (wsV RX7 114 RX0 yX0_knows wsX0_knows) := goodIn_app (goodIn_of _ (by decide +kernel)) ggX7_seek_X0_knows
set_option maxRecDepth 20000 in
theorem ggX7_seek_X0_number : GoodIn wsX7_seek wsX0_number := goodIn_r _ [25, 19, 26, 15, 16, 17, 18, 20, 9, 21, 59, 60, 61] (by decide +kernel) (by decide +kernel)
set_option maxRecDepth 20000 in
theorem gX7_seek_X0_number : GoodIn wsX7_seek (wsV RX7 117 RX0 yX0_number wsX0_number) := goodIn_app (goodIn_of _ (by decide +kernel)) ggX7_seek_X0_number
set_option maxRecDepth 20000 in
theorem ggX7_seek_X7_partShift : GoodIn wsX7_seek wsX7_partShift := goodIn_r _ [29] (by decide +kernel) (by decide +kernel)
set_option maxRecDepth 20000 in
theorem gX7_seek_X7_partShift : GoodIn wsX7_seek (va_wsS RX7 142 yX7_partShift wsX7_partShift) := goodIn_app (goodIn_of _ (by decide +kernel)) ggX7_seek_X7_partShift
set_option maxRecDepth 20000 in
theorem ggX7_seek_X5_begin : GoodIn wsX7_seek wsX5_begin := goodIn_r _ [34, 35, 36, 37, 33, 38, 39, 40, 41, 42, 9, 43, 44, 45, 46, 47, 48, 49, 50, 51, 20, 21, 62, 63, 64, 65, 66] (by decide +kernel) (by decide +kernel)
set_option maxRecDepth 20000 in
theorem gX7_seek_X5_begin : GoodIn wsX7_seek (wsV RX7 137 RX5 yX5_begin wsX5_begin) := goodIn_app (goodIn_of _ (by decide +kernel)) ggX7_seek_X5_begin
set_option maxRecDepth 20000 in
theorem ggX7_forget_X3_clear : GoodIn wsX7_forget wsX3_clear := goodIn_r _ [6, 7, 15, 16, 17, 18] (by decide +kernel) (by decide +kernel)
set_option maxRecDepth 20000 in
theorem gX7_forget_X3_clear : GoodIn wsX7_forget (wsV RX7 145 RX3 yX3_clear wsX3_clear) := goodIn_app (goodIn_of _ (by decide +kernel)) ggX7_forget_X3_clear
set_option maxRecDepth 20000 in
theorem ggX7_addPattern_X7_isTermOrVariable : GoodIn wsX7_addPattern wsX7_isTermOrVariable := goodIn_r _ [9] (by decide +kernel) (by decide +kernel)
set_option maxRecDepth 20000 in
theorem gX7_addPattern_X7_isTermOrVariable : GoodIn wsX7_addPattern (va_wsS RX7 148 yX7_isTermOrVariable wsX7_isTermOrVariable) := goodIn_app (goodIn_of _ (by decide +kernel)) ggX7_addPattern_X7_isTermOrVariable
set_option maxRecDepth 20000 in
theorem ggX7_addPattern_X3_size : GoodIn wsX7_addPattern wsX3_size := goodIn_r _ [14, 15, 47, 48, 49, 50] (by decide +kernel) (by decide +kernel)
set_option maxRecDepth 20000 in
theorem gX7_addPattern_X3_size : GoodIn wsX7_addPattern (wsV RX7 153 RX3 yX3_size wsX3_size) := goodIn_app (goodIn_of _ (by decide +kernel)) ggX7_addPattern_X3_size
set_option maxRecDepth 20000 in
theorem ggX7_addPattern_X3_add : GoodIn wsX7_addPattern wsX3_add := goodIn_r _ [19, 15, 20, 21, 22, 13, 23, 24, 25, 26, 27, 28, 29, 30, 31, 32, 33, 34, 8, 35, 36, 37, 38, 39, 47, 48, 49, 50, 51, 52, 53, 54] (by decide +kernel) (by decide +kernel)
set_option maxRecDepth 20000 in
theorem gX7_addPattern_X3_add : GoodIn wsX7_addPattern (wsV RX7 156 RX3 yX3_add wsX3_add) := goodIn_app (goodIn_of _ (by decide +kernel)) ggX7_addPattern_X3_add
set_option maxRecDepth 20000 in
theorem ggX7_patterns_X3_size : GoodIn wsX7_patterns wsX3_size := goodIn_r _ [6, 7, 15, 16, 17, 18] (by decide +kernel) (by decide +kernel)
set_option maxRecDepth 20000 in
theorem gX7_patterns_X3_size : GoodIn wsX7_patterns (wsV RX7 153 RX3 yX3_size wsX3_size) := goodIn_app (goodIn_of _ (by decide +kernel)) ggX7_patterns_X3_size
set_option maxRecDepth 20000 in
theorem ggX7_matches_X3_size : GoodIn wsX7_matches wsX3_size := goodIn_r _ [10, 11, 122, 123, 124, 125] (by decide +kernel) (by decide +kernel)
set_option maxRecDepth 20000 in
theorem gX7_matches_X3_size : GoodIn wsX7_matches (wsV RX7 153 RX3 yX3_size wsX3_size) := goodIn_app (goodIn_of _ (by decide +kernel)) ggX7_matches_X3_size
set_option maxRecDepth 20000 in
theorem ggX7_matches_X3_look : GoodIn wsX7_matches wsX3_look := goodIn_r _ [15, 11, 16, 17, 18, 9, 19, 20, 21, 22, 23, 24, 25, 26, 27, 28, 29, 30, 31, 32, 33, 34, 35, 36, 37, 38, 39, 40, 41, 42, 43, 44, 45, 46, 47, 48, 49, 50, 51, 52, 53, 54, 55, 56, 57, 58, 59, 60, 61, 62, 63, 64, 65, 66, 67, 68, 69, 70, 71, 72, 73, 74, 75, 76, 77, 78, 79, 80, 81, 82, 83, 84, 85, 86, 87, 88, 89, 90, 91, 92, 93, 94, 95, 96, 97, 98, 99, 100, 101, 102, 103, 104, 105, 106, 107, 108, 109, 122, 123, 124, 125, 126, 127, 128, 129, 130, 131, 132, 133, 134, 135, 136, 137] (by decide +kernel) (by decide +kernel)
set_option maxRecDepth 20000 in
theorem gX7_matches_X3_look : GoodIn wsX7_matches (wsV RX7 161 RX3 yX3_look wsX3_look) := goodIn_app (goodIn_of _ (by decide +kernel)) ggX7_matches_X3_look
set_option maxRecDepth 20000 in
theorem ggX7_matches_X3_pattern : GoodIn wsX7_matches wsX3_pattern := goodIn_r _ [19, 20, 21, 22, 122, 123, 124, 125] (by decide +kernel) (by decide +kernel)
set_option maxRecDepth 20000 in
theorem gX7_matches_X3_pattern : GoodIn wsX7_matches (wsV RX7 165 RX3 yX3_pattern wsX3_pattern) := goodIn_app (goodIn_of _ (by decide +kernel)) ggX7_matches_X3_pattern
set_option maxRecDepth 20000 in
theorem ggX7_matches_X2_found : GoodIn wsX7_matches wsX2_found := goodIn_r _ [114, 30, 126, 127, 128, 129] (by decide +kernel) (by decide +kernel)
set_option maxRecDepth 20000 in
theorem gX7_matches_X2_found : GoodIn wsX7_matches (wsV RX7 169 RX2 yX2_found wsX2_found) := goodIn_app (goodIn_of _ (by decide +kernel)) ggX7_matches_X2_found
set_option maxRecDepth 20000 in
theorem ggX7_variables_X3_variableBits : GoodIn wsX7_variables wsX3_variableBits := goodIn_r _ [6, 7, 8, 9, 10, 5, 11, 12, 13, 14, 15, 16, 17, 18, 19, 20, 28, 29, 30, 31, 32, 33, 34, 35] (by decide +kernel) (by decide +kernel)
set_option maxRecDepth 20000 in
theorem gX7_variables_X3_variableBits : GoodIn wsX7_variables (wsV RX7 174 RX3 yX3_variableBits wsX3_variableBits) := goodIn_app (goodIn_of _ (by decide +kernel)) ggX7_variables_X3_variableBits
set_option maxRecDepth 20000 in
theorem ggX7_shape_X3_isStar : GoodIn wsX7_shape wsX3_isStar := goodIn_r _ [6, 7, 8, 9, 10, 11, 12, 13, 14, 15, 16, 17, 18, 19, 20, 5, 21, 22, 23, 35, 36, 37, 38, 39, 40, 41, 42] (by decide +kernel) (by decide +kernel)
set_option maxRecDepth 20000 in
theorem gX7_shape_X3_isStar : GoodIn wsX7_shape (wsV RX7 177 RX3 yX3_isStar wsX3_isStar) := goodIn_app (goodIn_of _ (by decide +kernel)) ggX7_shape_X3_isStar
set_option maxRecDepth 20000 in
theorem ggX7_shape_X3_isChain : GoodIn wsX7_shape wsX3_isChain := goodIn_r _ [27, 7, 18, 19, 20, 5, 21, 22, 23, 8, 9, 10, 11, 12, 13, 14, 15, 16, 17, 35, 36, 37, 38, 39, 40, 41, 42] (by decide +kernel) (by decide +kernel)
set_option maxRecDepth 20000 in
theorem gX7_shape_X3_isChain : GoodIn wsX7_shape (wsV RX7 181 RX3 yX3_isChain wsX3_isChain) := goodIn_app (goodIn_of _ (by decide +kernel)) ggX7_shape_X3_isChain
set_option maxRecDepth 20000 in
theorem ggX7_joined_X3_size : GoodIn wsX7_joined wsX3_size := goodIn_r _ [10, 11, 142, 143, 144, 145] (by decide +kernel) (by decide +kernel)
set_option maxRecDepth 20000 in
theorem gX7_joined_X3_size : GoodIn wsX7_joined (wsV RX7 153 RX3 yX3_size wsX3_size) := goodIn_app (goodIn_of _ (by decide +kernel)) ggX7_joined_X3_size
set_option maxRecDepth 20000 in
theorem ggX7_joined_X3_look : GoodIn wsX7_joined wsX3_look := goodIn_r _ [15, 11, 16, 17, 18, 9, 19, 20, 21, 22, 23, 24, 25, 26, 27, 28, 29, 30, 31, 32, 33, 34, 35, 36, 37, 38, 39, 40, 41, 42, 43, 44, 45, 46, 47, 48, 49, 50, 51, 52, 53, 54, 55, 56, 57, 58, 59, 60, 61, 62, 63, 64, 65, 66, 67, 68, 69, 70, 71, 72, 73, 74, 75, 76, 77, 78, 79, 80, 81, 82, 83, 84, 85, 86, 87, 88, 89, 90, 91, 92, 93, 94, 95, 96, 97, 98, 99, 100, 101, 102, 103, 104, 105, 106, 107, 108, 109, 142, 143, 144, 145, 146, 147, 148, 149, 150, 151, 152, 153, 154, 155, 156, 157] (by decide +kernel) (by decide +kernel)
set_option maxRecDepth 20000 in
theorem gX7_joined_X3_look : GoodIn wsX7_joined (wsV RX7 161 RX3 yX3_look wsX3_look) := goodIn_app (goodIn_of _ (by decide +kernel)) ggX7_joined_X3_look
set_option maxRecDepth 20000 in
theorem ggX7_joined_X3_inJoinOrder : GoodIn wsX7_joined wsX3_inJoinOrder := goodIn_r _ [113, 11, 114, 115, 116, 9, 117, 118, 119, 120, 121, 50, 32, 51, 122, 123, 124, 125, 16, 17, 18, 19, 20, 21, 22, 126, 127, 128, 26, 129, 130, 131, 132, 133, 134, 30, 142, 143, 144, 145, 146, 147, 148, 149] (by decide +kernel) (by decide +kernel)
set_option maxRecDepth 20000 in
theorem gX7_joined_X3_inJoinOrder : GoodIn wsX7_joined (wsV RX7 186 RX3 yX3_inJoinOrder wsX3_inJoinOrder) := goodIn_app (goodIn_of _ (by decide +kernel)) ggX7_joined_X3_inJoinOrder
set_option maxRecDepth 20000 in
theorem ggX7_answerByMerging_X7_beginAnswering : GoodIn wsX7_answerByMerging wsX7_beginAnswering := goodIn_ca (goodIn_r _ [8, 9, 10, 2, 11, 3, 12, 13, 14, 15, 16, 17, 18, 19, 20, 21, 22, 23, 24, 25, 26, 27, 28, 29, 30, 31, 32, 33, 34, 35, 36, 37, 7, 38, 39, 40, 41, 42, 43, 44, 45, 46, 47, 48, 49, 50, 51, 52, 53, 54, 55, 56, 57, 58, 59, 60, 61, 62, 63, 64, 65, 66, 67, 68, 69, 70, 71, 72, 73, 74, 75, 76, 77, 78, 79, 80, 81, 82, 83, 84, 85, 86, 87, 88, 89, 90, 91, 92, 93, 94, 95, 96, 97, 98, 99, 100, 101, 102, 103, 104, 105, 106, 107, 108, 109, 110, 111, 112, 113, 114, 233, 234, 235, 236, 237, 238, 239, 240, 241, 242, 243, 244, 245, 246, 247, 248, 249, 250, 251, 252, 253, 254, 255] (by decide +kernel) (by decide +kernel)) (goodIn_sub (fun _ h => List.mem_cons_of_mem _ (List.mem_append_right _ h)) (by decide +kernel))
set_option maxRecDepth 20000 in
theorem gX7_answerByMerging_X7_beginAnswering : GoodIn wsX7_answerByMerging (wsV RX7 189 RX7 yX7_beginAnswering wsX7_beginAnswering) := goodIn_app (goodIn_of _ (by decide +kernel)) ggX7_answerByMerging_X7_beginAnswering
set_option maxRecDepth 20000 in
theorem ggX7_answerByMerging_X1_merge : GoodIn wsX7_answerByMerging wsX1_merge := goodIn_r _ [119, 120, 121, 122, 123, 124, 125, 126, 127, 128, 129, 130, 131, 132, 133, 134, 135, 136, 137, 138, 49, 7, 50, 139, 140, 141, 142, 143, 144, 13, 14, 15, 16, 17, 145, 146, 147, 148, 149, 150, 151, 152, 153, 154, 155, 156, 55, 56, 157, 158, 159, 160, 22, 23, 24, 25, 26, 27, 28, 161, 162, 163, 32, 164, 165, 166, 167, 168, 169, 36, 170, 171, 172, 173, 174, 118, 175, 176, 52, 53, 54, 35, 37, 38, 57, 58, 177, 60, 61, 62, 34, 63, 64, 65, 66, 67, 68, 69, 70, 71, 72, 73, 178, 75, 76, 77, 78, 79, 80, 81, 82, 83, 84, 85, 86, 87, 88, 89, 90, 91, 92, 93, 94, 95, 96, 179, 180, 98, 99, 100, 181, 102, 103, 104, 105, 106, 107, 108, 109, 110, 182, 112, 113, 114, 183, 184, 185, 186, 187, 188, 189, 190, 191, 192, 193, 194, 195, 196, 197, 198, 199, 200, 201, 202, 203, 204, 205, 206, 207, 208, 209, 210, 211, 212, 256, 257, 258, 259, 260, 261, 262, 263, 240, 241, 242, 243, 244, 245, 246, 247, 251, 252, 253, 254, 255] (by decide +kernel) (by decide +kernel)
set_option maxRecDepth 20000 in
theorem gX7_answerByMerging_X1_merge : GoodIn wsX7_answerByMerging (wsV RX7 192 RX1 yX1_merge wsX1_merge) := goodIn_app (goodIn_of _ (by decide +kernel)) ggX7_answerByMerging_X1_merge
set_option maxRecDepth 20000 in
theorem ggX7_answerByMerging_X7_keepAnswers : GoodIn wsX7_answerByMerging wsX7_keepAnswers := goodIn_ca (goodIn_r _ [216, 9, 10, 1, 2, 217, 218, 219, 220, 221, 222, 118, 223, 120, 224, 206, 207, 125, 208, 133, 225, 202, 203, 204, 131, 226, 227, 228, 15, 229, 17, 22, 23, 24, 25, 26, 27, 28, 161, 162, 163, 32, 164, 165, 230, 186, 187, 188, 55, 7, 56, 189, 190, 191, 192, 193, 143, 138, 132, 49, 50, 37, 38, 63, 64, 65, 66, 67, 139, 140, 141, 142, 231, 210, 211, 212, 232, 233, 234, 235, 236, 237, 238, 239, 256, 257, 258, 259, 260, 261, 262, 263, 240, 241, 242, 243, 244, 245, 246, 247] (by decide +kernel) (by decide +kernel)) (goodIn_sub (fun _ h => List.mem_cons_of_mem _ (List.mem_append_right _ h)) (by decide +kernel))
set_option maxRecDepth 20000 in
theorem gX7_answerByMerging_X7_keepAnswers : GoodIn wsX7_answerByMerging (wsV RX7 196 RX7 yX7_keepAnswers wsX7_keepAnswers) := goodIn_app (goodIn_of _ (by decide +kernel)) ggX7_answerByMerging_X7_keepAnswers
set_option maxRecDepth 20000 in
theorem ggX7_answerByVariables_X7_beginAnswering : GoodIn wsX7_answerByVariables wsX7_beginAnswering := goodIn_ca (goodIn_r _ [8, 9, 10, 2, 11, 3, 12, 13, 14, 15, 16, 17, 18, 19, 20, 21, 22, 23, 24, 25, 26, 27, 28, 29, 30, 31, 32, 33, 34, 35, 36, 37, 7, 38, 39, 40, 41, 42, 43, 44, 45, 46, 47, 48, 49, 50, 51, 52, 53, 54, 55, 56, 57, 58, 59, 60, 61, 62, 63, 64, 65, 66, 67, 68, 69, 70, 71, 72, 73, 74, 75, 76, 77, 78, 79, 80, 81, 82, 83, 84, 85, 86, 87, 88, 89, 90, 91, 92, 93, 94, 95, 96, 97, 98, 99, 100, 101, 102, 103, 104, 105, 106, 107, 108, 109, 110, 111, 112, 113, 114, 242, 243, 244, 245, 246, 247, 248, 249, 250, 251, 252, 253, 254, 255, 256, 257, 258, 259, 260, 261, 262, 263, 264] (by decide +kernel) (by decide +kernel)) (goodIn_sub (fun _ h => List.mem_cons_of_mem _ (List.mem_append_right _ h)) (by decide +kernel))
set_option maxRecDepth 20000 in
theorem gX7_answerByVariables_X7_beginAnswering : GoodIn wsX7_answerByVariables (wsV RX7 189 RX7 yX7_beginAnswering wsX7_beginAnswering) := goodIn_app (goodIn_of _ (by decide +kernel)) ggX7_answerByVariables_X7_beginAnswering
set_option maxRecDepth 20000 in
theorem ggX7_answerByVariables_X1_goByVariables : GoodIn wsX7_answerByVariables wsX1_goByVariables := goodIn_r _ [119, 120, 121, 122, 123, 124, 125, 126, 127, 128, 129, 130, 131, 132, 133, 134, 135, 136, 137, 49, 7, 50, 138, 139, 140, 141, 142, 143, 144, 145, 15, 146, 17, 22, 23, 24, 25, 26, 27, 28, 147, 148, 149, 32, 150, 36, 151, 152, 13, 14, 16, 153, 154, 155, 156, 157, 158, 159, 160, 161, 162, 163, 164, 55, 56, 165, 166, 167, 168, 169, 170, 171, 172, 173, 174, 175, 176, 177, 178, 118, 179, 180, 181, 182, 183, 184, 185, 186, 187, 188, 189, 190, 191, 192, 37, 38, 193, 194, 195, 196, 197, 198, 52, 53, 54, 35, 57, 58, 199, 60, 61, 62, 34, 63, 64, 65, 66, 67, 68, 69, 70, 71, 72, 73, 200, 75, 76, 77, 78, 79, 80, 81, 82, 83, 84, 85, 86, 87, 88, 89, 90, 91, 92, 93, 94, 95, 96, 201, 98, 99, 100, 202, 102, 103, 104, 105, 106, 107, 108, 109, 110, 203, 112, 113, 114, 204, 205, 206, 207, 208, 209, 210, 211, 212, 213, 265, 266, 267, 268, 269, 270, 271, 272, 249, 250, 251, 252, 253, 254, 255, 256, 260, 261, 262, 263, 264] (by decide +kernel) (by decide +kernel)
set_option maxRecDepth 20000 in
theorem gX7_answerByVariables_X1_goByVariables : GoodIn wsX7_answerByVariables (wsV RX7 199 RX1 yX1_goByVariables wsX1_goByVariables) := goodIn_app (goodIn_of _ (by decide +kernel)) ggX7_answerByVariables_X1_goByVariables
set_option maxRecDepth 20000 in
theorem ggX7_answerByVariables_X7_keepAnswers : GoodIn wsX7_answerByVariables wsX7_keepAnswers := goodIn_ca (goodIn_r _ [217, 9, 10, 1, 2, 218, 219, 220, 221, 222, 223, 118, 224, 120, 225, 186, 187, 124, 188, 132, 226, 182, 183, 184, 130, 227, 228, 229, 15, 230, 17, 22, 23, 24, 25, 26, 27, 28, 169, 170, 171, 32, 172, 173, 231, 232, 233, 234, 55, 7, 56, 235, 236, 237, 238, 239, 142, 137, 131, 49, 50, 37, 38, 63, 64, 65, 66, 67, 138, 139, 140, 141, 240, 190, 191, 192, 241, 242, 243, 244, 245, 246, 247, 248, 265, 266, 267, 268, 269, 270, 271, 272, 249, 250, 251, 252, 253, 254, 255, 256] (by decide +kernel) (by decide +kernel)) (goodIn_sub (fun _ h => List.mem_cons_of_mem _ (List.mem_append_right _ h)) (by decide +kernel))
set_option maxRecDepth 20000 in
theorem gX7_answerByVariables_X7_keepAnswers : GoodIn wsX7_answerByVariables (wsV RX7 196 RX7 yX7_keepAnswers wsX7_keepAnswers) := goodIn_app (goodIn_of _ (by decide +kernel)) ggX7_answerByVariables_X7_keepAnswers
set_option maxRecDepth 20000 in
theorem ggX7_answerByLoops_X7_beginAnswering : GoodIn wsX7_answerByLoops wsX7_beginAnswering := goodIn_ca (goodIn_r _ [8, 9, 10, 2, 11, 3, 12, 13, 14, 15, 16, 17, 18, 19, 20, 21, 22, 23, 24, 25, 26, 27, 28, 29, 30, 31, 32, 33, 34, 35, 36, 37, 7, 38, 39, 40, 41, 42, 43, 44, 45, 46, 47, 48, 49, 50, 51, 52, 53, 54, 55, 56, 57, 58, 59, 60, 61, 62, 63, 64, 65, 66, 67, 68, 69, 70, 71, 72, 73, 74, 75, 76, 77, 78, 79, 80, 81, 82, 83, 84, 85, 86, 87, 88, 89, 90, 91, 92, 93, 94, 95, 96, 97, 98, 99, 100, 101, 102, 103, 104, 105, 106, 107, 108, 109, 110, 111, 112, 113, 114, 209, 210, 211, 212, 213, 214, 215, 216, 217, 218, 219, 220, 221, 222, 223, 224, 225, 226, 227, 228, 229, 230, 231] (by decide +kernel) (by decide +kernel)) (goodIn_sub (fun _ h => List.mem_cons_of_mem _ (List.mem_append_right _ h)) (by decide +kernel))
set_option maxRecDepth 20000 in
theorem gX7_answerByLoops_X7_beginAnswering : GoodIn wsX7_answerByLoops (wsV RX7 189 RX7 yX7_beginAnswering wsX7_beginAnswering) := goodIn_app (goodIn_of _ (by decide +kernel)) ggX7_answerByLoops_X7_beginAnswering
set_option maxRecDepth 20000 in
theorem ggX7_answerByLoops_X1_loop : GoodIn wsX7_answerByLoops wsX1_loop := goodIn_r _ [119, 120, 121, 122, 123, 124, 125, 126, 127, 128, 129, 130, 131, 132, 133, 134, 135, 136, 137, 49, 7, 50, 138, 139, 140, 141, 142, 143, 13, 14, 15, 16, 17, 144, 23, 24, 25, 26, 27, 28, 145, 146, 147, 148, 149, 150, 151, 152, 153, 154, 155, 156, 37, 38, 157, 158, 159, 118, 160, 161, 52, 53, 32, 54, 35, 55, 56, 57, 58, 162, 60, 61, 62, 34, 63, 64, 65, 66, 67, 163, 164, 165, 77, 166, 86, 167, 168, 169, 93, 170, 95, 171, 106, 107, 108, 96, 172, 112, 113, 114, 71, 72, 73, 173, 174, 175, 176, 177, 178, 179, 232, 233, 234, 235, 236, 237, 238, 239, 216, 217, 218, 219, 220, 221, 222, 223, 227, 228, 229, 230, 231] (by decide +kernel) (by decide +kernel)
set_option maxRecDepth 20000 in
theorem gX7_answerByLoops_X1_loop : GoodIn wsX7_answerByLoops (wsV RX7 202 RX1 yX1_loop wsX1_loop) := goodIn_app (goodIn_of _ (by decide +kernel)) ggX7_answerByLoops_X1_loop
set_option maxRecDepth 20000 in
theorem ggX7_answerByLoops_X7_keepAnswers : GoodIn wsX7_answerByLoops wsX7_keepAnswers := goodIn_ca (goodIn_r _ [183, 9, 10, 1, 2, 184, 185, 186, 187, 188, 189, 118, 190, 120, 191, 150, 151, 124, 152, 132, 192, 146, 147, 148, 130, 193, 194, 195, 15, 196, 17, 22, 23, 24, 25, 26, 27, 28, 197, 176, 177, 32, 178, 179, 198, 199, 200, 201, 55, 7, 56, 202, 203, 204, 205, 206, 142, 137, 131, 49, 50, 37, 38, 63, 64, 65, 66, 67, 138, 139, 140, 141, 207, 154, 155, 156, 208, 209, 210, 211, 212, 213, 214, 215, 232, 233, 234, 235, 236, 237, 238, 239, 216, 217, 218, 219, 220, 221, 222, 223] (by decide +kernel) (by decide +kernel)) (goodIn_sub (fun _ h => List.mem_cons_of_mem _ (List.mem_append_right _ h)) (by decide +kernel))
set_option maxRecDepth 20000 in
theorem gX7_answerByLoops_X7_keepAnswers : GoodIn wsX7_answerByLoops (wsV RX7 196 RX7 yX7_keepAnswers wsX7_keepAnswers) := goodIn_app (goodIn_of _ (by decide +kernel)) ggX7_answerByLoops_X7_keepAnswers
set_option maxRecDepth 20000 in
theorem ggX7_answer_X7_isVariable : GoodIn wsX7_answer wsX7_isVariable := goodIn_r _ [12] (by decide +kernel) (by decide +kernel)
set_option maxRecDepth 20000 in
theorem gX7_answer_X7_isVariable : GoodIn wsX7_answer (va_wsS RX7 207 yX7_isVariable wsX7_isVariable) := goodIn_app (goodIn_of _ (by decide +kernel)) ggX7_answer_X7_isVariable
set_option maxRecDepth 20000 in
theorem ggX7_answer_X7_hasBit : GoodIn wsX7_answer wsX7_hasBit := goodIn_r _ [15] (by decide +kernel) (by decide +kernel)
set_option maxRecDepth 20000 in
theorem gX7_answer_X7_hasBit : GoodIn wsX7_answer (va_wsS RX7 212 yX7_hasBit wsX7_hasBit) := goodIn_app (goodIn_of _ (by decide +kernel)) ggX7_answer_X7_hasBit
set_option maxRecDepth 20000 in
theorem ggX7_answer_X7_at : GoodIn wsX7_answer wsX7_at := goodIn_r _ [18] (by decide +kernel) (by decide +kernel)
set_option maxRecDepth 20000 in
theorem gX7_answer_X7_at : GoodIn wsX7_answer (va_wsS RX7 218 yX7_at wsX7_at) := goodIn_app (goodIn_of _ (by decide +kernel)) ggX7_answer_X7_at
set_option maxRecDepth 20000 in
theorem ggX7_answer_X7_cellOf : GoodIn wsX7_answer wsX7_cellOf := goodIn_r _ [21, 22, 23, 11, 24] (by decide +kernel) (by decide +kernel)
set_option maxRecDepth 20000 in
theorem gX7_answer_X7_cellOf : GoodIn wsX7_answer (va_wsS RX7 222 yX7_cellOf wsX7_cellOf) := goodIn_app (goodIn_of _ (by decide +kernel)) ggX7_answer_X7_cellOf
set_option maxRecDepth 20000 in
theorem ggX7_answer_X0_term : GoodIn wsX7_answer wsX0_term := goodIn_r _ [29, 30, 17, 11, 18, 38, 39, 40] (by decide +kernel) (by decide +kernel)
set_option maxRecDepth 20000 in
theorem gX7_answer_X0_term : GoodIn wsX7_answer (wsV RX7 109 RX0 yX0_term wsX0_term) := goodIn_app (goodIn_of _ (by decide +kernel)) ggX7_answer_X0_term
set_option maxRecDepth 20000 in
theorem ggX7_termsFor_X7_isVariable : GoodIn wsX7_termsFor wsX7_isVariable := goodIn_r _ [9] (by decide +kernel) (by decide +kernel)
set_option maxRecDepth 20000 in
theorem gX7_termsFor_X7_isVariable : GoodIn wsX7_termsFor (va_wsS RX7 207 yX7_isVariable wsX7_isVariable) := goodIn_app (goodIn_of _ (by decide +kernel)) ggX7_termsFor_X7_isVariable
set_option maxRecDepth 20000 in
theorem ggX7_termsFor_X7_hasBit : GoodIn wsX7_termsFor wsX7_hasBit := goodIn_r _ [12] (by decide +kernel) (by decide +kernel)
set_option maxRecDepth 20000 in
theorem gX7_termsFor_X7_hasBit : GoodIn wsX7_termsFor (va_wsS RX7 212 yX7_hasBit wsX7_hasBit) := goodIn_app (goodIn_of _ (by decide +kernel)) ggX7_termsFor_X7_hasBit
set_option maxRecDepth 20000 in
theorem ggX7_termsFor_X7_at : GoodIn wsX7_termsFor wsX7_at := goodIn_r _ [15] (by decide +kernel) (by decide +kernel)
set_option maxRecDepth 20000 in
theorem gX7_termsFor_X7_at : GoodIn wsX7_termsFor (va_wsS RX7 218 yX7_at wsX7_at) := goodIn_app (goodIn_of _ (by decide +kernel)) ggX7_termsFor_X7_at
set_option maxRecDepth 20000 in
theorem ggX7_termsFor_X7_cellOf : GoodIn wsX7_termsFor wsX7_cellOf := goodIn_r _ [18, 19, 20, 8, 21] (by decide +kernel) (by decide +kernel)
set_option maxRecDepth 20000 in
theorem gX7_termsFor_X7_cellOf : GoodIn wsX7_termsFor (va_wsS RX7 222 yX7_cellOf wsX7_cellOf) := goodIn_app (goodIn_of _ (by decide +kernel)) ggX7_termsFor_X7_cellOf
set_option maxRecDepth 20000 in
theorem ggX7_termsFor_J13_bitCount_95d88 : GoodIn wsX7_termsFor wsJ13_bitCount_95d88 := goodIn_r _ [25, 26, 27, 28] (by decide +kernel) (by decide +kernel)
set_option maxRecDepth 20000 in
theorem gX7_termsFor_J13_bitCount_95d88 : GoodIn wsX7_termsFor (va_wsS RX7 225 yJ13_bitCount_95d88 wsJ13_bitCount_95d88) := goodIn_app (goodIn_of _ (by decide +kernel)) ggX7_termsFor_J13_bitCount_95d88
set_option maxRecDepth 20000 in
theorem ggX7_beginAnswering_X3_size : GoodIn wsX7_beginAnswering wsX3_size := goodIn_r _ [10, 11, 117, 118, 119, 120] (by decide +kernel) (by decide +kernel)
set_option maxRecDepth 20000 in
theorem gX7_beginAnswering_X3_size : GoodIn wsX7_beginAnswering (wsV RX7 153 RX3 yX3_size wsX3_size) := goodIn_app (goodIn_of _ (by decide +kernel)) ggX7_beginAnswering_X3_size
set_option maxRecDepth 20000 in
theorem ggX7_beginAnswering_X3_look : GoodIn wsX7_beginAnswering wsX3_look := goodIn_r _ [15, 11, 16, 17, 18, 9, 19, 20, 21, 22, 23, 24, 25, 26, 27, 28, 29, 30, 31, 32, 33, 34, 35, 36, 37, 38, 39, 40, 41, 42, 43, 44, 45, 46, 47, 48, 49, 50, 51, 52, 53, 54, 55, 56, 57, 58, 59, 60, 61, 62, 63, 64, 65, 66, 67, 68, 69, 70, 71, 72, 73, 74, 75, 76, 77, 78, 79, 80, 81, 82, 83, 84, 85, 86, 87, 88, 89, 90, 91, 92, 93, 94, 95, 96, 97, 98, 99, 100, 101, 102, 103, 104, 105, 106, 107, 108, 109, 117, 118, 119, 120, 121, 122, 123, 124, 125, 126, 127, 128, 129, 130, 131, 132] (by decide +kernel) (by decide +kernel)
set_option maxRecDepth 20000 in
theorem gX7_beginAnswering_X3_look : GoodIn wsX7_beginAnswering (wsV RX7 161 RX3 yX3_look wsX3_look) := goodIn_app (goodIn_of _ (by decide +kernel)) ggX7_beginAnswering_X3_look
set_option maxRecDepth 20000 in
theorem ggX7_keepAnswers_X1_made : GoodIn wsX7_keepAnswers wsX1_made := goodIn_r _ [12, 13, 84, 85] (by decide +kernel) (by decide +kernel)
set_option maxRecDepth 20000 in
theorem gX7_keepAnswers_X1_made : GoodIn wsX7_keepAnswers (wsV RX7 233 RX1 yX1_made wsX1_made) := goodIn_app (goodIn_of _ (by decide +kernel)) ggX7_keepAnswers_X1_made
set_option maxRecDepth 20000 in
theorem ggX7_keepAnswers_X6_isOver : GoodIn wsX7_keepAnswers wsX6_isOver := goodIn_r _ [18, 19, 86, 87, 88, 89, 90, 91] (by decide +kernel) (by decide +kernel)
set_option maxRecDepth 20000 in
theorem gX7_keepAnswers_X6_isOver : GoodIn wsX7_keepAnswers (wsV RX7 237 RX6 yX6_isOver wsX6_isOver) := goodIn_app (goodIn_of _ (by decide +kernel)) ggX7_keepAnswers_X6_isOver
set_option maxRecDepth 20000 in
theorem ggX7_keepAnswers_X6_size : GoodIn wsX7_keepAnswers wsX6_size := goodIn_r _ [23, 24, 86, 87, 88, 89, 90, 91] (by decide +kernel) (by decide +kernel)
set_option maxRecDepth 20000 in
theorem gX7_keepAnswers_X6_size : GoodIn wsX7_keepAnswers (wsV RX7 242 RX6 yX6_size wsX6_size) := goodIn_app (goodIn_of _ (by decide +kernel)) ggX7_keepAnswers_X6_size
set_option maxRecDepth 20000 in
theorem ggX7_keepAnswers_X3_variableBits : GoodIn wsX7_keepAnswers wsX3_variableBits := goodIn_r _ [29, 30, 31, 32, 33, 28, 34, 35, 36, 37, 38, 39, 40, 41, 42, 43, 92, 93, 94, 95, 96, 97, 98, 99] (by decide +kernel) (by decide +kernel)
set_option maxRecDepth 20000 in
theorem gX7_keepAnswers_X3_variableBits : GoodIn wsX7_keepAnswers (wsV RX7 174 RX3 yX3_variableBits wsX3_variableBits) := goodIn_app (goodIn_of _ (by decide +kernel)) ggX7_keepAnswers_X3_variableBits
set_option maxRecDepth 20000 in
theorem ggX7_keepAnswers_X6_sort : GoodIn wsX7_keepAnswers wsX6_sort := goodIn_r _ [47, 48, 49, 50, 51, 52, 53, 17, 54, 55, 24, 56, 57, 58, 59, 60, 61, 62, 63, 64, 65, 66, 67, 68, 69, 70, 71, 86, 87, 88, 89, 90, 91] (by decide +kernel) (by decide +kernel)
set_option maxRecDepth 20000 in
theorem gX7_keepAnswers_X6_sort : GoodIn wsX7_keepAnswers (wsV RX7 245 RX6 yX6_sort wsX6_sort) := goodIn_app (goodIn_of _ (by decide +kernel)) ggX7_keepAnswers_X6_sort
set_option maxRecDepth 20000 in
theorem ggX7_keepAnswers_X6_row : GoodIn wsX7_keepAnswers wsX6_row := goodIn_r _ [75, 56, 61, 49, 62, 86, 87, 88, 89, 90, 91] (by decide +kernel) (by decide +kernel)
set_option maxRecDepth 20000 in
theorem gX7_keepAnswers_X6_row : GoodIn wsX7_keepAnswers (wsV RX7 248 RX6 yX6_row wsX6_row) := goodIn_app (goodIn_of _ (by decide +kernel)) ggX7_keepAnswers_X6_row
set_option maxRecDepth 20000 in
theorem ggX7_keepAnswers_X7_put : GoodIn wsX7_keepAnswers wsX7_put := goodIn_r _ [60] (by decide +kernel) (by decide +kernel)
set_option maxRecDepth 20000 in
theorem gX7_keepAnswers_X7_put : GoodIn wsX7_keepAnswers (va_wsS RX7 251 yX7_put wsX7_put) := goodIn_app (goodIn_of _ (by decide +kernel)) ggX7_keepAnswers_X7_put

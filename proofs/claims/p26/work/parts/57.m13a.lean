set_option maxRecDepth 20000 in
theorem ggX5_init_X4_init : GoodIn wsX5_init wsX4_init := goodIn_r _ [11, 12, 2, 3, 13, 14, 15, 16, 17] (by decide +kernel) (by decide +kernel)
set_option maxRecDepth 20000 in
theorem gX5_init_X4_init_n11 : GoodIn wsX5_init (wsX4_init) := ggX5_init_X4_init
set_option maxRecDepth 20000 in
theorem ggX5_size_X4_size : GoodIn wsX5_size wsX4_size := goodIn_r _ [6, 7, 11, 12] (by decide +kernel) (by decide +kernel)
set_option maxRecDepth 20000 in
theorem gX5_size_X4_size : GoodIn wsX5_size (wsV RX5 24 RX4 yX4_size wsX4_size) := goodIn_app (goodIn_of _ (by decide +kernel)) ggX5_size_X4_size
set_option maxRecDepth 20000 in
theorem ggX5_holds_X4_holds : GoodIn wsX5_holds wsX4_holds := goodIn_r _ [6, 7, 8, 9, 10, 11, 5, 12, 13, 14, 15, 19, 20] (by decide +kernel) (by decide +kernel)
set_option maxRecDepth 20000 in
theorem gX5_holds_X4_holds : GoodIn wsX5_holds (wsV RX5 28 RX4 yX4_holds wsX4_holds) := goodIn_app (goodIn_of _ (by decide +kernel)) ggX5_holds_X4_holds
set_option maxRecDepth 20000 in
theorem ggX5_insert_X5_in : GoodIn wsX5_insert wsX5_in := goodIn_r _ [5, 6, 7, 8, 28, 29, 30] (by decide +kernel) (by decide +kernel)
set_option maxRecDepth 20000 in
theorem gX5_insert_X5_in : GoodIn wsX5_insert (wsV RX5 32 RX5 yX5_in wsX5_in) := goodIn_app (goodIn_of _ (by decide +kernel)) ggX5_insert_X5_in
set_option maxRecDepth 20000 in
theorem ggX5_insert_X7_rolled : GoodIn wsX5_insert wsX7_rolled := goodIn_r _ [11, 12] (by decide +kernel) (by decide +kernel)
set_option maxRecDepth 20000 in
theorem gX5_insert_X7_rolled_n36 : GoodIn wsX5_insert (wsX7_rolled) := ggX5_insert_X7_rolled
set_option maxRecDepth 20000 in
theorem ggX5_insert_X4_insert : GoodIn wsX5_insert wsX4_insert := goodIn_r _ [17, 18, 19, 20, 21, 22, 16, 23, 24, 10, 25, 26, 27, 31, 32] (by decide +kernel) (by decide +kernel)
set_option maxRecDepth 20000 in
theorem gX5_insert_X4_insert : GoodIn wsX5_insert (wsV RX5 40 RX4 yX4_insert wsX4_insert) := goodIn_app (goodIn_of _ (by decide +kernel)) ggX5_insert_X4_insert
set_option maxRecDepth 20000 in
theorem ggX5_remove_X5_in : GoodIn wsX5_remove wsX5_in := goodIn_r _ [5, 6, 7, 8, 32, 33, 34] (by decide +kernel) (by decide +kernel)
set_option maxRecDepth 20000 in
theorem gX5_remove_X5_in : GoodIn wsX5_remove (wsV RX5 32 RX5 yX5_in wsX5_in) := goodIn_app (goodIn_of _ (by decide +kernel)) ggX5_remove_X5_in
set_option maxRecDepth 20000 in
theorem ggX5_remove_X7_rolled : GoodIn wsX5_remove wsX7_rolled := goodIn_r _ [11, 12] (by decide +kernel) (by decide +kernel)
set_option maxRecDepth 20000 in
theorem gX5_remove_X7_rolled_n36 : GoodIn wsX5_remove (wsX7_rolled) := ggX5_remove_X7_rolled
set_option maxRecDepth 20000 in
theorem ggX5_remove_X4_remove : GoodIn wsX5_remove wsX4_remove := goodIn_r _ [17, 18, 19, 20, 21, 22, 16, 23, 24, 25, 26, 27, 28, 10, 29, 30, 31, 35, 36] (by decide +kernel) (by decide +kernel)
set_option maxRecDepth 20000 in
theorem gX5_remove_X4_remove : GoodIn wsX5_remove (wsV RX5 44 RX4 yX4_remove wsX4_remove) := goodIn_app (goodIn_of _ (by decide +kernel)) ggX5_remove_X4_remove
set_option maxRecDepth 20000 in
theorem ggX5_triple_X5_in : GoodIn wsX5_triple wsX5_in := goodIn_r _ [5, 6, 7, 8, 21, 22, 23] (by decide +kernel) (by decide +kernel)
set_option maxRecDepth 20000 in
theorem gX5_triple_X5_in : GoodIn wsX5_triple (wsV RX5 32 RX5 yX5_in wsX5_in) := goodIn_app (goodIn_of _ (by decide +kernel)) ggX5_triple_X5_in
set_option maxRecDepth 20000 in
theorem ggX5_triple_X4_key : GoodIn wsX5_triple wsX4_key := goodIn_r _ [13, 14, 15, 16, 17, 24, 25] (by decide +kernel) (by decide +kernel)
set_option maxRecDepth 20000 in
theorem gX5_triple_X4_key : GoodIn wsX5_triple (wsV RX5 47 RX4 yX4_key wsX4_key) := goodIn_app (goodIn_of _ (by decide +kernel)) ggX5_triple_X4_key
set_option maxRecDepth 20000 in
theorem ggX5_triple_X7_rolledBack : GoodIn wsX5_triple wsX7_rolledBack := goodIn_r _ [19, 20] (by decide +kernel) (by decide +kernel)
set_option maxRecDepth 20000 in
theorem gX5_triple_X7_rolledBack_n51 : GoodIn wsX5_triple (wsX7_rolledBack) := ggX5_triple_X7_rolledBack
set_option maxRecDepth 20000 in
theorem ggX5_begin_X5_in : GoodIn wsX5_begin wsX5_in := goodIn_r _ [5, 6, 7, 8, 22, 23, 24] (by decide +kernel) (by decide +kernel)
set_option maxRecDepth 20000 in
theorem gX5_begin_X5_in : GoodIn wsX5_begin (wsV RX5 32 RX5 yX5_in wsX5_in) := goodIn_app (goodIn_of _ (by decide +kernel)) ggX5_begin_X5_in
set_option maxRecDepth 20000 in
theorem ggX5_begin_X7_rolled : GoodIn wsX5_begin wsX7_rolled := goodIn_r _ [11, 12] (by decide +kernel) (by decide +kernel)
set_option maxRecDepth 20000 in
theorem gX5_begin_X7_rolled_n36 : GoodIn wsX5_begin (wsX7_rolled) := ggX5_begin_X7_rolled
set_option maxRecDepth 20000 in
theorem ggX5_begin_X4_placeOf : GoodIn wsX5_begin wsX4_placeOf := goodIn_r _ [17, 18, 19, 20, 10, 21, 25, 26] (by decide +kernel) (by decide +kernel)
set_option maxRecDepth 20000 in
theorem gX5_begin_X4_placeOf : GoodIn wsX5_begin (wsV RX5 54 RX4 yX4_placeOf wsX4_placeOf) := goodIn_app (goodIn_of _ (by decide +kernel)) ggX5_begin_X4_placeOf
set_option maxRecDepth 20000 in
theorem ggX5_end_X5_in : GoodIn wsX5_end wsX5_in := goodIn_r _ [6, 7, 8, 9, 23, 24, 25] (by decide +kernel) (by decide +kernel)
set_option maxRecDepth 20000 in
theorem gX5_end_X5_in : GoodIn wsX5_end (wsV RX5 32 RX5 yX5_in wsX5_in) := goodIn_app (goodIn_of _ (by decide +kernel)) ggX5_end_X5_in
set_option maxRecDepth 20000 in
theorem ggX5_end_X7_rolled : GoodIn wsX5_end wsX7_rolled := goodIn_r _ [12, 13] (by decide +kernel) (by decide +kernel)
set_option maxRecDepth 20000 in
theorem gX5_end_X7_rolled_n36 : GoodIn wsX5_end (wsX7_rolled) := ggX5_end_X7_rolled
set_option maxRecDepth 20000 in
theorem ggX5_end_X4_placeOf : GoodIn wsX5_end wsX4_placeOf := goodIn_r _ [18, 19, 20, 21, 11, 22, 26, 27] (by decide +kernel) (by decide +kernel)
set_option maxRecDepth 20000 in
theorem gX5_end_X4_placeOf : GoodIn wsX5_end (wsV RX5 54 RX4 yX4_placeOf wsX4_placeOf) := goodIn_app (goodIn_of _ (by decide +kernel)) ggX5_end_X4_placeOf

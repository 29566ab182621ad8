set_option maxRecDepth 20000 in
theorem ggX4_key_X7_at : GoodIn wsX4_key wsX7_at := goodIn_r _ [4] (by decide +kernel) (by decide +kernel)
set_option maxRecDepth 20000 in
theorem gX4_key_X7_at_n19 : GoodIn wsX4_key (wsX7_at) := ggX4_key_X7_at
set_option maxRecDepth 20000 in
theorem ggX4_placeOf_X7_at : GoodIn wsX4_placeOf wsX7_at := goodIn_r _ [5] (by decide +kernel) (by decide +kernel)
set_option maxRecDepth 20000 in
theorem gX4_placeOf_X7_at_n19 : GoodIn wsX4_placeOf (wsX7_at) := ggX4_placeOf_X7_at
set_option maxRecDepth 20000 in
theorem ggX4_holds_X4_placeOf : GoodIn wsX4_holds wsX4_placeOf := goodIn_r _ [7, 1, 2, 8, 9, 10, 11, 12] (by decide +kernel) (by decide +kernel)
set_option maxRecDepth 20000 in
theorem gX4_holds_X4_placeOf : GoodIn wsX4_holds (wsV RX4 23 RX4 yX4_placeOf wsX4_placeOf) := goodIn_app (goodIn_of _ (by decide +kernel)) ggX4_holds_X4_placeOf
set_option maxRecDepth 20000 in
theorem ggX4_holds_X7_at : GoodIn wsX4_holds wsX7_at := goodIn_r _ [10] (by decide +kernel) (by decide +kernel)
set_option maxRecDepth 20000 in
theorem gX4_holds_X7_at_n19 : GoodIn wsX4_holds (wsX7_at) := ggX4_holds_X7_at
set_option maxRecDepth 20000 in
theorem ggX4_insert_X4_placeOf : GoodIn wsX4_insert wsX4_placeOf := goodIn_r _ [7, 1, 2, 8, 9, 10, 13, 14] (by decide +kernel) (by decide +kernel)
set_option maxRecDepth 20000 in
theorem gX4_insert_X4_placeOf : GoodIn wsX4_insert (wsV RX4 23 RX4 yX4_placeOf wsX4_placeOf) := goodIn_app (goodIn_of _ (by decide +kernel)) ggX4_insert_X4_placeOf
set_option maxRecDepth 20000 in
theorem ggX4_insert_X7_at : GoodIn wsX4_insert wsX7_at := goodIn_r _ [10] (by decide +kernel) (by decide +kernel)
set_option maxRecDepth 20000 in
theorem gX4_insert_X7_at_n19 : GoodIn wsX4_insert (wsX7_at) := ggX4_insert_X7_at
set_option maxRecDepth 20000 in
theorem ggX4_insert_X7_put : GoodIn wsX4_insert wsX7_put := goodIn_r _ [12] (by decide +kernel) (by decide +kernel)
set_option maxRecDepth 20000 in
theorem gX4_insert_X7_put_n27 : GoodIn wsX4_insert (wsX7_put) := ggX4_insert_X7_put
set_option maxRecDepth 20000 in
theorem ggX4_remove_X4_holds : GoodIn wsX4_remove wsX4_holds := goodIn_r _ [7, 1, 2, 8, 9, 10, 6, 11, 12, 13, 14, 17, 18] (by decide +kernel) (by decide +kernel)
set_option maxRecDepth 20000 in
theorem gX4_remove_X4_holds : GoodIn wsX4_remove (wsV RX4 31 RX4 yX4_holds wsX4_holds) := goodIn_app (goodIn_of _ (by decide +kernel)) ggX4_remove_X4_holds
set_option maxRecDepth 20000 in
theorem ggX4_remove_X4_placeOf : GoodIn wsX4_remove wsX4_placeOf := goodIn_r _ [11, 1, 2, 12, 13, 14, 17, 18] (by decide +kernel) (by decide +kernel)
set_option maxRecDepth 20000 in
theorem gX4_remove_X4_placeOf : GoodIn wsX4_remove (wsV RX4 23 RX4 yX4_placeOf wsX4_placeOf) := goodIn_app (goodIn_of _ (by decide +kernel)) ggX4_remove_X4_placeOf
set_option maxRecDepth 20000 in
theorem ggX4_remove_X7_at : GoodIn wsX4_remove wsX7_at := goodIn_r _ [14] (by decide +kernel) (by decide +kernel)
set_option maxRecDepth 20000 in
theorem gX4_remove_X7_at_n19 : GoodIn wsX4_remove (wsX7_at) := ggX4_remove_X7_at
set_option maxRecDepth 20000 in
theorem ggX4_remove_X7_put : GoodIn wsX4_remove wsX7_put := goodIn_r _ [16] (by decide +kernel) (by decide +kernel)
set_option maxRecDepth 20000 in
theorem gX4_remove_X7_put_n27 : GoodIn wsX4_remove (wsX7_put) := ggX4_remove_X7_put

set_option maxRecDepth 20000 in
theorem ggX6_row_X7_at : GoodIn wsX6_row wsX7_at := goodIn_r _ [4] (by decide +kernel) (by decide +kernel)
set_option maxRecDepth 20000 in
theorem gX6_row_X7_at_n38 : GoodIn wsX6_row (wsX7_at) := ggX6_row_X7_at
set_option maxRecDepth 20000 in
theorem ggX6_beginWithNothingBound_X6_beginEmpty : GoodIn wsX6_beginWithNothingBound wsX6_beginEmpty := goodIn_r _ [5, 6, 7, 8, 22, 23, 24, 25, 26, 27] (by decide +kernel) (by decide +kernel)
set_option maxRecDepth 20000 in
theorem gX6_beginWithNothingBound_X6_beginEmpty : GoodIn wsX6_beginWithNothingBound (wsV RX6 42 RX6 yX6_beginEmpty wsX6_beginEmpty) := goodIn_app (goodIn_of _ (by decide +kernel)) ggX6_beginWithNothingBound_X6_beginEmpty
set_option maxRecDepth 20000 in
theorem ggX6_beginWithNothingBound_X6_add : GoodIn wsX6_beginWithNothingBound wsX6_add := goodIn_r _ [12, 7, 13, 8, 14, 15, 16, 22, 23, 24, 25, 26, 27] (by decide +kernel) (by decide +kernel)
set_option maxRecDepth 20000 in
theorem gX6_beginWithNothingBound_X6_add : GoodIn wsX6_beginWithNothingBound (wsV RX6 45 RX6 yX6_add wsX6_add) := goodIn_app (goodIn_of _ (by decide +kernel)) ggX6_beginWithNothingBound_X6_add
set_option maxRecDepth 20000 in
theorem ggX6_beginWithNothingBound_X6_turn : GoodIn wsX6_beginWithNothingBound wsX6_turn := goodIn_r _ [20, 21, 13, 7, 6, 22, 23, 24, 25, 26, 27] (by decide +kernel) (by decide +kernel)
set_option maxRecDepth 20000 in
theorem gX6_beginWithNothingBound_X6_turn : GoodIn wsX6_beginWithNothingBound (wsV RX6 49 RX6 yX6_turn wsX6_turn) := goodIn_app (goodIn_of _ (by decide +kernel)) ggX6_beginWithNothingBound_X6_turn
set_option maxRecDepth 20000 in
theorem ggX6_add_X7_put : GoodIn wsX6_add wsX7_put := goodIn_r _ [6] (by decide +kernel) (by decide +kernel)
set_option maxRecDepth 20000 in
theorem gX6_add_X7_put_n52 : GoodIn wsX6_add (wsX7_put) := ggX6_add_X7_put
set_option maxRecDepth 20000 in
theorem ggX6_sort_X7_hasBit : GoodIn wsX6_sort wsX7_hasBit := goodIn_r _ [3] (by decide +kernel) (by decide +kernel)
set_option maxRecDepth 20000 in
theorem gX6_sort_X7_hasBit_n56 : GoodIn wsX6_sort (wsX7_hasBit) := ggX6_sort_X7_hasBit
set_option maxRecDepth 20000 in
theorem ggX6_sort_X6_sortByOne : GoodIn wsX6_sort wsX6_sortByOne := goodIn_r _ [8, 9, 10, 11, 12, 13, 14, 2, 15, 16, 17, 18, 19, 20, 21, 22, 23, 24, 25, 7, 26, 27, 28, 29, 30, 31, 32] (by decide +kernel) (by decide +kernel)
set_option maxRecDepth 20000 in
theorem gX6_sort_X6_sortByOne : GoodIn wsX6_sort (wsV RX6 60 RX6 yX6_sortByOne wsX6_sortByOne) := goodIn_app (goodIn_of _ (by decide +kernel)) ggX6_sort_X6_sortByOne
set_option maxRecDepth 20000 in
theorem ggX6_sortByOne_X7_put : GoodIn wsX6_sortByOne wsX7_put := goodIn_r _ [8] (by decide +kernel) (by decide +kernel)
set_option maxRecDepth 20000 in
theorem gX6_sortByOne_X7_put_n52 : GoodIn wsX6_sortByOne (wsX7_put) := ggX6_sortByOne_X7_put
set_option maxRecDepth 20000 in
theorem ggX6_sortByOne_X7_at : GoodIn wsX6_sortByOne wsX7_at := goodIn_r _ [10] (by decide +kernel) (by decide +kernel)
set_option maxRecDepth 20000 in
theorem gX6_sortByOne_X7_at_n38 : GoodIn wsX6_sortByOne (wsX7_at) := ggX6_sortByOne_X7_at
set_option maxRecDepth 20000 in
theorem ggX6_sortByOne_X7_cellOf : GoodIn wsX6_sortByOne wsX7_cellOf := goodIn_r _ [12, 13, 14, 7, 15] (by decide +kernel) (by decide +kernel)
set_option maxRecDepth 20000 in
theorem gX6_sortByOne_X7_cellOf_n63 : GoodIn wsX6_sortByOne (wsX7_cellOf) := ggX6_sortByOne_X7_cellOf
set_option maxRecDepth 20000 in
theorem ggX6_sortByOne_X6_turn : GoodIn wsX6_sortByOne wsX6_turn := goodIn_r _ [20, 3, 4, 5, 2, 21, 22, 23, 24, 25, 26] (by decide +kernel) (by decide +kernel)
set_option maxRecDepth 20000 in
theorem gX6_sortByOne_X6_turn : GoodIn wsX6_sortByOne (wsV RX6 49 RX6 yX6_turn wsX6_turn) := goodIn_app (goodIn_of _ (by decide +kernel)) ggX6_sortByOne_X6_turn

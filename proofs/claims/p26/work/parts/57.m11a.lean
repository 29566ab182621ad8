set_option maxRecDepth 20000 in
theorem ggX0_knows_X7_at : GoodIn wsX0_knows wsX7_at := goodIn_r _ [4] (by decide +kernel) (by decide +kernel)
set_option maxRecDepth 20000 in
theorem gX0_knows_X7_at_n22 : GoodIn wsX0_knows (wsX7_at) := ggX0_knows_X7_at
set_option maxRecDepth 20000 in
theorem ggX0_number_X0_knows : GoodIn wsX0_number wsX0_knows := goodIn_r _ [6, 1, 7, 8, 9, 10, 11, 12] (by decide +kernel) (by decide +kernel)
set_option maxRecDepth 20000 in
theorem gX0_number_X0_knows : GoodIn wsX0_number (wsV RX0 26 RX0 yX0_knows wsX0_knows) := goodIn_app (goodIn_of _ (by decide +kernel)) ggX0_number_X0_knows
set_option maxRecDepth 20000 in
theorem ggX0_number_X7_at : GoodIn wsX0_number wsX7_at := goodIn_r _ [9] (by decide +kernel) (by decide +kernel)
set_option maxRecDepth 20000 in
theorem gX0_number_X7_at_n22 : GoodIn wsX0_number (wsX7_at) := ggX0_number_X7_at
set_option maxRecDepth 20000 in
theorem ggX0_term_X7_at : GoodIn wsX0_term wsX7_at := goodIn_r _ [4] (by decide +kernel) (by decide +kernel)
set_option maxRecDepth 20000 in
theorem gX0_term_X7_at_n22 : GoodIn wsX0_term (wsX7_at) := ggX0_term_X7_at
set_option maxRecDepth 20000 in
theorem ggX0_pack_X0_number : GoodIn wsX0_pack wsX0_number := goodIn_r _ [5, 6, 7, 8, 9, 4, 10, 11, 12, 13, 16, 17, 18] (by decide +kernel) (by decide +kernel)
set_option maxRecDepth 20000 in
theorem gX0_pack_X0_number : GoodIn wsX0_pack (wsV RX0 30 RX0 yX0_number wsX0_number) := goodIn_app (goodIn_of _ (by decide +kernel)) ggX0_pack_X0_number
set_option maxRecDepth 20000 in
theorem ggX0_pack_X7_partShift : GoodIn wsX0_pack wsX7_partShift := goodIn_r _ [15] (by decide +kernel) (by decide +kernel)
set_option maxRecDepth 20000 in
theorem gX0_pack_X7_partShift_n34 : GoodIn wsX0_pack (wsX7_partShift) := ggX0_pack_X7_partShift
set_option maxRecDepth 20000 in
theorem ggX0_sizeWith_X0_knows : GoodIn wsX0_sizeWith wsX0_knows := goodIn_r _ [6, 7, 8, 9, 10, 11, 12, 13] (by decide +kernel) (by decide +kernel)
set_option maxRecDepth 20000 in
theorem gX0_sizeWith_X0_knows : GoodIn wsX0_sizeWith (wsV RX0 26 RX0 yX0_knows wsX0_knows) := goodIn_app (goodIn_of _ (by decide +kernel)) ggX0_sizeWith_X0_knows
set_option maxRecDepth 20000 in
theorem ggX0_learn_X0_knows : GoodIn wsX0_learn wsX0_knows := goodIn_r _ [8, 3, 9, 10, 11, 14, 15, 16] (by decide +kernel) (by decide +kernel)
set_option maxRecDepth 20000 in
theorem gX0_learn_X0_knows : GoodIn wsX0_learn (wsV RX0 26 RX0 yX0_knows wsX0_knows) := goodIn_app (goodIn_of _ (by decide +kernel)) ggX0_learn_X0_knows
set_option maxRecDepth 20000 in
theorem ggX0_learn_X7_put : GoodIn wsX0_learn wsX7_put := goodIn_r _ [13] (by decide +kernel) (by decide +kernel)
set_option maxRecDepth 20000 in
theorem gX0_learn_X7_put_n37 : GoodIn wsX0_learn (wsX7_put) := ggX0_learn_X7_put

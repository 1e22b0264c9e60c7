set_option maxRecDepth 20000 in
theorem ggX3_step_X3_bit : GoodIn wsX3_step wsX3_bit := goodIn_r _ [20, 21, 26, 27, 28, 29, 30, 31, 32, 33, 34, 35, 36, 37, 38, 39, 40, 41] (by decide +kernel) (by decide +kernel)
set_option maxRecDepth 20000 in
theorem gX3_step_X3_bit : GoodIn wsX3_step (wsV RX3 89 RX3 yX3_bit wsX3_bit) := goodIn_app (goodIn_of _ (by decide +kernel)) ggX3_step_X3_bit
set_option maxRecDepth 20000 in
theorem ggX3_step_X3_both : GoodIn wsX3_step wsX3_both := goodIn_r _ [25, 2, 26, 27, 28, 29, 30, 31, 32, 33, 34, 35, 36, 37, 38, 39, 40, 41] (by decide +kernel) (by decide +kernel)
set_option maxRecDepth 20000 in
theorem gX3_step_X3_both : GoodIn wsX3_step (wsV RX3 97 RX3 yX3_both wsX3_both) := goodIn_app (goodIn_of _ (by decide +kernel)) ggX3_step_X3_both
set_option maxRecDepth 20000 in
theorem ggX3_out_X3_isSide : GoodIn wsX3_out wsX3_isSide := goodIn_r _ [8] (by decide +kernel) (by decide +kernel)
set_option maxRecDepth 20000 in
theorem gX3_out_X3_isSide : GoodIn wsX3_out (va_wsS RX3 61 yX3_isSide wsX3_isSide) := goodIn_app (goodIn_of _ (by decide +kernel)) ggX3_out_X3_isSide
set_option maxRecDepth 20000 in
theorem ggX3_out_X3_isIn : GoodIn wsX3_out wsX3_isIn := goodIn_r _ [11] (by decide +kernel) (by decide +kernel)
set_option maxRecDepth 20000 in
theorem gX3_out_X3_isIn : GoodIn wsX3_out (va_wsS RX3 77 yX3_isIn wsX3_isIn) := goodIn_app (goodIn_of _ (by decide +kernel)) ggX3_out_X3_isIn
set_option maxRecDepth 20000 in
theorem ggX3_state_X3_isSide : GoodIn wsX3_state wsX3_isSide := goodIn_r _ [7] (by decide +kernel) (by decide +kernel)
set_option maxRecDepth 20000 in
theorem gX3_state_X3_isSide : GoodIn wsX3_state (va_wsS RX3 61 yX3_isSide wsX3_isSide) := goodIn_app (goodIn_of _ (by decide +kernel)) ggX3_state_X3_isSide
set_option maxRecDepth 20000 in
theorem ggX3_state_X3_isIn : GoodIn wsX3_state wsX3_isIn := goodIn_r _ [10] (by decide +kernel) (by decide +kernel)
set_option maxRecDepth 20000 in
theorem gX3_state_X3_isIn : GoodIn wsX3_state (va_wsS RX3 77 yX3_isIn wsX3_isIn) := goodIn_app (goodIn_of _ (by decide +kernel)) ggX3_state_X3_isIn
set_option maxRecDepth 20000 in
theorem ggX3_count_X3_isIn : GoodIn wsX3_count wsX3_isIn := goodIn_r _ [9] (by decide +kernel) (by decide +kernel)
set_option maxRecDepth 20000 in
theorem gX3_count_X3_isIn : GoodIn wsX3_count (va_wsS RX3 77 yX3_isIn wsX3_isIn) := goodIn_app (goodIn_of _ (by decide +kernel)) ggX3_count_X3_isIn
set_option maxRecDepth 20000 in
theorem ggX3_count_X3_ands : GoodIn wsX3_count wsX3_ands := goodIn_r _ [13, 2, 14, 15, 16, 17, 18, 19, 20, 21, 22, 23, 24, 25, 26, 27, 28, 29, 30] (by decide +kernel) (by decide +kernel)
set_option maxRecDepth 20000 in
theorem gX3_count_X3_ands : GoodIn wsX3_count (wsV RX3 112 RX3 yX3_ands wsX3_ands) := goodIn_app (goodIn_of _ (by decide +kernel)) ggX3_count_X3_ands
set_option maxRecDepth 20000 in
theorem ggX3_clear_X3_start : GoodIn wsX3_clear wsX3_start := goodIn_r _ [12, 13, 14, 15, 16, 17, 18, 19, 20, 21, 22, 23, 24, 25, 26, 27, 28, 29, 30, 31, 32, 33] (by decide +kernel) (by decide +kernel)
set_option maxRecDepth 20000 in
theorem gX3_clear_X3_start : GoodIn wsX3_clear (wsV RX3 65 RX3 yX3_start wsX3_start) := goodIn_app (goodIn_of _ (by decide +kernel)) ggX3_clear_X3_start

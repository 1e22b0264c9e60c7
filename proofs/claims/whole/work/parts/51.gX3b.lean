set_option maxRecDepth 20000 in
theorem ggX3_isLeast_X3_areSame : GoodIn wsX3_isLeast wsX3_areSame := goodIn_r _ [5, 6, 7, 8, 9, 10, 11, 12, 13, 14, 15, 16, 17, 18, 19, 20, 21, 22, 23] (by decide +kernel) (by decide +kernel)
set_option maxRecDepth 20000 in
theorem gX3_isLeast_X3_areSame : GoodIn wsX3_isLeast (wsV RX3 80 RX3 yX3_areSame wsX3_areSame) := goodIn_app (goodIn_of _ (by decide +kernel)) ggX3_isLeast_X3_areSame
set_option maxRecDepth 20000 in
theorem ggX3_classes_X3_isLeast : GoodIn wsX3_classes wsX3_isLeast := goodIn_r _ [7, 8, 9, 10, 6, 11, 12, 13, 14, 15, 16, 17, 18, 19, 20, 21, 22, 23, 24, 25, 26, 27, 28, 29] (by decide +kernel) (by decide +kernel)
set_option maxRecDepth 20000 in
theorem gX3_classes_X3_isLeast : GoodIn wsX3_classes (wsV RX3 86 RX3 yX3_isLeast wsX3_isLeast) := goodIn_app (goodIn_of _ (by decide +kernel)) ggX3_classes_X3_isLeast
set_option maxRecDepth 20000 in
theorem ggX3_merged_X3_isSide : GoodIn wsX3_merged wsX3_isSide := goodIn_r _ [7] (by decide +kernel) (by decide +kernel)
set_option maxRecDepth 20000 in
theorem gX3_merged_X3_isSide : GoodIn wsX3_merged (va_wsS RX3 61 yX3_isSide wsX3_isSide) := goodIn_app (goodIn_of _ (by decide +kernel)) ggX3_merged_X3_isSide
set_option maxRecDepth 20000 in
theorem ggX3_merged_X3_isLeast : GoodIn wsX3_merged wsX3_isLeast := goodIn_r _ [11, 12, 13, 14, 6, 15, 16, 17, 18, 19, 20, 21, 22, 23, 24, 25, 26, 27, 28, 29, 30, 31, 32, 33] (by decide +kernel) (by decide +kernel)
set_option maxRecDepth 20000 in
theorem gX3_merged_X3_isLeast : GoodIn wsX3_merged (wsV RX3 86 RX3 yX3_isLeast wsX3_isLeast) := goodIn_app (goodIn_of _ (by decide +kernel)) ggX3_merged_X3_isLeast
set_option maxRecDepth 20000 in
theorem ggX3_hangs_X3_isLiteral : GoodIn wsX3_hangs wsX3_isLiteral := goodIn_r _ [6, 7, 13, 14, 15, 16, 17, 18, 19, 20, 21, 22, 23, 24, 25, 26, 27, 28] (by decide +kernel) (by decide +kernel)
set_option maxRecDepth 20000 in
theorem gX3_hangs_X3_isLiteral : GoodIn wsX3_hangs (wsV RX3 68 RX3 yX3_isLiteral wsX3_isLiteral) := goodIn_app (goodIn_of _ (by decide +kernel)) ggX3_hangs_X3_isLiteral
set_option maxRecDepth 20000 in
theorem ggX3_hangs_X3_bit : GoodIn wsX3_hangs wsX3_bit := goodIn_r _ [11, 12, 13, 14, 15, 16, 17, 18, 19, 20, 21, 22, 23, 24, 25, 26, 27, 28] (by decide +kernel) (by decide +kernel)
set_option maxRecDepth 20000 in
theorem gX3_hangs_X3_bit : GoodIn wsX3_hangs (wsV RX3 89 RX3 yX3_bit wsX3_bit) := goodIn_app (goodIn_of _ (by decide +kernel)) ggX3_hangs_X3_bit
set_option maxRecDepth 20000 in
theorem ggX3_ones_X3_isLiteral : GoodIn wsX3_ones wsX3_isLiteral := goodIn_r _ [6, 7, 19, 20, 21, 22, 23, 24, 25, 26, 27, 28, 29, 30, 31, 32, 33, 34] (by decide +kernel) (by decide +kernel)
set_option maxRecDepth 20000 in
theorem gX3_ones_X3_isLiteral : GoodIn wsX3_ones (wsV RX3 68 RX3 yX3_isLiteral wsX3_isLiteral) := goodIn_app (goodIn_of _ (by decide +kernel)) ggX3_ones_X3_isLiteral
set_option maxRecDepth 20000 in
theorem ggX3_ones_X3_present : GoodIn wsX3_ones wsX3_present := goodIn_r _ [11, 12, 13, 19, 20, 21, 22, 23, 24, 25, 26, 27, 28, 29, 30, 31, 32, 33, 34] (by decide +kernel) (by decide +kernel)
set_option maxRecDepth 20000 in
theorem gX3_ones_X3_present : GoodIn wsX3_ones (wsV RX3 93 RX3 yX3_present wsX3_present) := goodIn_app (goodIn_of _ (by decide +kernel)) ggX3_ones_X3_present
set_option maxRecDepth 20000 in
theorem ggX3_ones_X3_bit : GoodIn wsX3_ones wsX3_bit := goodIn_r _ [17, 18, 19, 20, 21, 22, 23, 24, 25, 26, 27, 28, 29, 30, 31, 32, 33, 34] (by decide +kernel) (by decide +kernel)
set_option maxRecDepth 20000 in
theorem gX3_ones_X3_bit : GoodIn wsX3_ones (wsV RX3 89 RX3 yX3_bit wsX3_bit) := goodIn_app (goodIn_of _ (by decide +kernel)) ggX3_ones_X3_bit
set_option maxRecDepth 20000 in
theorem ggX3_value_X3_isLiteral : GoodIn wsX3_value wsX3_isLiteral := goodIn_r _ [6, 7, 19, 20, 21, 22, 23, 24, 25, 26, 27, 28, 29, 30, 31, 32, 33, 34] (by decide +kernel) (by decide +kernel)
set_option maxRecDepth 20000 in
theorem gX3_value_X3_isLiteral : GoodIn wsX3_value (wsV RX3 68 RX3 yX3_isLiteral wsX3_isLiteral) := goodIn_app (goodIn_of _ (by decide +kernel)) ggX3_value_X3_isLiteral
set_option maxRecDepth 20000 in
theorem ggX3_value_X3_present : GoodIn wsX3_value wsX3_present := goodIn_r _ [11, 12, 13, 19, 20, 21, 22, 23, 24, 25, 26, 27, 28, 29, 30, 31, 32, 33, 34] (by decide +kernel) (by decide +kernel)
set_option maxRecDepth 20000 in
theorem gX3_value_X3_present : GoodIn wsX3_value (wsV RX3 93 RX3 yX3_present wsX3_present) := goodIn_app (goodIn_of _ (by decide +kernel)) ggX3_value_X3_present
set_option maxRecDepth 20000 in
theorem ggX3_value_X3_bit : GoodIn wsX3_value wsX3_bit := goodIn_r _ [17, 18, 19, 20, 21, 22, 23, 24, 25, 26, 27, 28, 29, 30, 31, 32, 33, 34] (by decide +kernel) (by decide +kernel)
set_option maxRecDepth 20000 in
theorem gX3_value_X3_bit : GoodIn wsX3_value (wsV RX3 89 RX3 yX3_bit wsX3_bit) := goodIn_app (goodIn_of _ (by decide +kernel)) ggX3_value_X3_bit
set_option maxRecDepth 20000 in
theorem ggX3_isApart_X3_both : GoodIn wsX3_isApart wsX3_both := goodIn_r _ [10, 5, 17, 18, 19, 20, 21, 22, 23, 24, 25, 26, 27, 28, 29, 30, 31, 32] (by decide +kernel) (by decide +kernel)
set_option maxRecDepth 20000 in
theorem gX3_isApart_X3_both : GoodIn wsX3_isApart (wsV RX3 97 RX3 yX3_both wsX3_both) := goodIn_app (goodIn_of _ (by decide +kernel)) ggX3_isApart_X3_both
set_option maxRecDepth 20000 in
theorem ggX3_isApart_X3_areSame : GoodIn wsX3_isApart wsX3_areSame := goodIn_r _ [14, 15, 16, 17, 18, 19, 20, 21, 22, 23, 24, 25, 26, 27, 28, 29, 30, 31, 32] (by decide +kernel) (by decide +kernel)
set_option maxRecDepth 20000 in
theorem gX3_isApart_X3_areSame : GoodIn wsX3_isApart (wsV RX3 80 RX3 yX3_areSame wsX3_areSame) := goodIn_app (goodIn_of _ (by decide +kernel)) ggX3_isApart_X3_areSame
set_option maxRecDepth 20000 in
theorem ggX3_differs_X3_isApart : GoodIn wsX3_differs wsX3_isApart := goodIn_r _ [6, 7, 8, 9, 10, 11, 12, 13, 14, 5, 15, 16, 17, 18, 19, 20, 21, 22, 23, 24, 25, 26, 27, 28, 29, 30, 31, 32, 33, 34, 35, 36, 37] (by decide +kernel) (by decide +kernel)
set_option maxRecDepth 20000 in
theorem gX3_differs_X3_isApart : GoodIn wsX3_differs (wsV RX3 100 RX3 yX3_isApart wsX3_isApart) := goodIn_app (goodIn_of _ (by decide +kernel)) ggX3_differs_X3_isApart
set_option maxRecDepth 20000 in
theorem ggX3_witness_X3_both : GoodIn wsX3_witness wsX3_both := goodIn_r _ [9, 10, 19, 20, 21, 22, 23, 24, 25, 26, 27, 28, 29, 30, 31, 32, 33, 34] (by decide +kernel) (by decide +kernel)
set_option maxRecDepth 20000 in
theorem gX3_witness_X3_both : GoodIn wsX3_witness (wsV RX3 97 RX3 yX3_both wsX3_both) := goodIn_app (goodIn_of _ (by decide +kernel)) ggX3_witness_X3_both
set_option maxRecDepth 20000 in
theorem ggX3_witness_X3_isIn : GoodIn wsX3_witness wsX3_isIn := goodIn_r _ [13] (by decide +kernel) (by decide +kernel)
set_option maxRecDepth 20000 in
theorem gX3_witness_X3_isIn : GoodIn wsX3_witness (va_wsS RX3 77 yX3_isIn wsX3_isIn) := goodIn_app (goodIn_of _ (by decide +kernel)) ggX3_witness_X3_isIn
set_option maxRecDepth 20000 in
theorem ggX3_witness_X3_bit : GoodIn wsX3_witness wsX3_bit := goodIn_r _ [17, 18, 19, 20, 21, 22, 23, 24, 25, 26, 27, 28, 29, 30, 31, 32, 33, 34] (by decide +kernel) (by decide +kernel)
set_option maxRecDepth 20000 in
theorem gX3_witness_X3_bit : GoodIn wsX3_witness (wsV RX3 89 RX3 yX3_bit wsX3_bit) := goodIn_app (goodIn_of _ (by decide +kernel)) ggX3_witness_X3_bit
set_option maxRecDepth 20000 in
theorem ggX3_reset_X3_start : GoodIn wsX3_reset wsX3_start := goodIn_r _ [6, 7, 8, 9, 10, 11, 12, 13, 14, 15, 16, 17, 18, 19, 20, 21, 22, 23, 24, 25, 26, 27] (by decide +kernel) (by decide +kernel)
set_option maxRecDepth 20000 in
theorem gX3_reset_X3_start : GoodIn wsX3_reset (wsV RX3 65 RX3 yX3_start wsX3_start) := goodIn_app (goodIn_of _ (by decide +kernel)) ggX3_reset_X3_start
set_option maxRecDepth 20000 in
theorem ggX3_step_X3_assignment : GoodIn wsX3_step wsX3_assignment := goodIn_r _ [15, 16, 6, 7, 26, 27, 28, 29, 30, 31, 32, 33, 34, 35, 36, 37, 38, 39, 40, 41] (by decide +kernel) (by decide +kernel)
set_option maxRecDepth 20000 in
theorem gX3_step_X3_assignment : GoodIn wsX3_step (wsV RX3 109 RX3 yX3_assignment wsX3_assignment) := goodIn_app (goodIn_of _ (by decide +kernel)) ggX3_step_X3_assignment

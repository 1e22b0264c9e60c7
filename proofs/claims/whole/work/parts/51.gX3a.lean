set_option maxRecDepth 20000 in
theorem ggX3_init_X3_clear : GoodIn wsX3_init wsX3_clear := goodIn_r _ [20, 21, 22, 5, 7, 23, 24, 12, 25, 26, 27, 19, 28, 11, 9, 29, 30, 15, 31, 32, 33, 34, 35, 36, 37, 38, 39, 40, 41, 42, 43, 44, 45, 46] (by decide +kernel) (by decide +kernel)
set_option maxRecDepth 20000 in
theorem gX3_init_X3_clear : GoodIn wsX3_init (wsV RX3 41 RX3 yX3_clear wsX3_clear) := goodIn_app (goodIn_of _ (by decide +kernel)) ggX3_init_X3_clear
set_option maxRecDepth 20000 in
theorem ggX3_input_X3_variable : GoodIn wsX3_input wsX3_variable := goodIn_r _ [8, 9, 2, 10, 11, 12, 13, 14, 15, 16, 17, 18, 19, 20, 21, 22, 23, 24, 25, 26] (by decide +kernel) (by decide +kernel)
set_option maxRecDepth 20000 in
theorem gX3_input_X3_variable : GoodIn wsX3_input (wsV RX3 57 RX3 yX3_variable wsX3_variable) := goodIn_app (goodIn_of _ (by decide +kernel)) ggX3_input_X3_variable
set_option maxRecDepth 20000 in
theorem ggX3_latch_X3_isSide : GoodIn wsX3_latch wsX3_isSide := goodIn_r _ [10] (by decide +kernel) (by decide +kernel)
set_option maxRecDepth 20000 in
theorem gX3_latch_X3_isSide : GoodIn wsX3_latch (va_wsS RX3 61 yX3_isSide wsX3_isSide) := goodIn_app (goodIn_of _ (by decide +kernel)) ggX3_latch_X3_isSide
set_option maxRecDepth 20000 in
theorem ggX3_latch_X3_variable : GoodIn wsX3_latch wsX3_variable := goodIn_r _ [14, 15, 2, 16, 25, 26, 27, 28, 29, 30, 31, 32, 33, 34, 35, 36, 37, 38, 39, 40] (by decide +kernel) (by decide +kernel)
set_option maxRecDepth 20000 in
theorem gX3_latch_X3_variable : GoodIn wsX3_latch (wsV RX3 57 RX3 yX3_variable wsX3_variable) := goodIn_app (goodIn_of _ (by decide +kernel)) ggX3_latch_X3_variable
set_option maxRecDepth 20000 in
theorem ggX3_latch_X3_start : GoodIn wsX3_latch wsX3_start := goodIn_r _ [20, 21, 5, 22, 23, 24, 25, 26, 27, 28, 29, 30, 31, 32, 33, 34, 35, 36, 37, 38, 39, 40] (by decide +kernel) (by decide +kernel)
set_option maxRecDepth 20000 in
theorem gX3_latch_X3_start : GoodIn wsX3_latch (wsV RX3 65 RX3 yX3_start wsX3_start) := goodIn_app (goodIn_of _ (by decide +kernel)) ggX3_latch_X3_start
set_option maxRecDepth 20000 in
theorem ggX3_and_X3_isSide : GoodIn wsX3_and wsX3_isSide := goodIn_r _ [9] (by decide +kernel) (by decide +kernel)
set_option maxRecDepth 20000 in
theorem gX3_and_X3_isSide : GoodIn wsX3_and (va_wsS RX3 61 yX3_isSide wsX3_isSide) := goodIn_app (goodIn_of _ (by decide +kernel)) ggX3_and_X3_isSide
set_option maxRecDepth 20000 in
theorem ggX3_and_X3_isLiteral : GoodIn wsX3_and wsX3_isLiteral := goodIn_r _ [13, 1, 18, 19, 20, 21, 22, 23, 24, 25, 26, 27, 28, 29, 30, 31, 32, 33] (by decide +kernel) (by decide +kernel)
set_option maxRecDepth 20000 in
theorem gX3_and_X3_isLiteral : GoodIn wsX3_and (wsV RX3 68 RX3 yX3_isLiteral wsX3_isLiteral) := goodIn_app (goodIn_of _ (by decide +kernel)) ggX3_and_X3_isLiteral
set_option maxRecDepth 20000 in
theorem ggX3_and_X3_isOther : GoodIn wsX3_and wsX3_isOther := goodIn_r _ [17, 5, 18, 19, 20, 21, 22, 23, 24, 25, 26, 27, 28, 29, 30, 31, 32, 33] (by decide +kernel) (by decide +kernel)
set_option maxRecDepth 20000 in
theorem gX3_and_X3_isOther : GoodIn wsX3_and (wsV RX3 71 RX3 yX3_isOther wsX3_isOther) := goodIn_app (goodIn_of _ (by decide +kernel)) ggX3_and_X3_isOther
set_option maxRecDepth 20000 in
theorem ggX3_output_X3_isSide : GoodIn wsX3_output wsX3_isSide := goodIn_r _ [7] (by decide +kernel) (by decide +kernel)
set_option maxRecDepth 20000 in
theorem gX3_output_X3_isSide : GoodIn wsX3_output (va_wsS RX3 61 yX3_isSide wsX3_isSide) := goodIn_app (goodIn_of _ (by decide +kernel)) ggX3_output_X3_isSide
set_option maxRecDepth 20000 in
theorem ggX3_output_X3_isLiteral : GoodIn wsX3_output wsX3_isLiteral := goodIn_r _ [11, 12, 18, 19, 20, 21, 22, 23, 24, 25, 26, 27, 28, 29, 30, 31, 32, 33] (by decide +kernel) (by decide +kernel)
set_option maxRecDepth 20000 in
theorem gX3_output_X3_isLiteral : GoodIn wsX3_output (wsV RX3 68 RX3 yX3_isLiteral wsX3_isLiteral) := goodIn_app (goodIn_of _ (by decide +kernel)) ggX3_output_X3_isLiteral
set_option maxRecDepth 20000 in
theorem ggX3_output_X3_isOther : GoodIn wsX3_output wsX3_isOther := goodIn_r _ [16, 17, 18, 19, 20, 21, 22, 23, 24, 25, 26, 27, 28, 29, 30, 31, 32, 33] (by decide +kernel) (by decide +kernel)
set_option maxRecDepth 20000 in
theorem gX3_output_X3_isOther : GoodIn wsX3_output (wsV RX3 71 RX3 yX3_isOther wsX3_isOther) := goodIn_app (goodIn_of _ (by decide +kernel)) ggX3_output_X3_isOther
set_option maxRecDepth 20000 in
theorem ggX3_next_X3_isSide : GoodIn wsX3_next wsX3_isSide := goodIn_r _ [7] (by decide +kernel) (by decide +kernel)
set_option maxRecDepth 20000 in
theorem gX3_next_X3_isSide : GoodIn wsX3_next (va_wsS RX3 61 yX3_isSide wsX3_isSide) := goodIn_app (goodIn_of _ (by decide +kernel)) ggX3_next_X3_isSide
set_option maxRecDepth 20000 in
theorem ggX3_next_X3_isIn : GoodIn wsX3_next wsX3_isIn := goodIn_r _ [10] (by decide +kernel) (by decide +kernel)
set_option maxRecDepth 20000 in
theorem gX3_next_X3_isIn : GoodIn wsX3_next (va_wsS RX3 77 yX3_isIn wsX3_isIn) := goodIn_app (goodIn_of _ (by decide +kernel)) ggX3_next_X3_isIn
set_option maxRecDepth 20000 in
theorem ggX3_next_X3_isLiteral : GoodIn wsX3_next wsX3_isLiteral := goodIn_r _ [14, 15, 21, 22, 23, 24, 25, 26, 27, 28, 29, 30, 31, 32, 33, 34, 35, 36] (by decide +kernel) (by decide +kernel)
set_option maxRecDepth 20000 in
theorem gX3_next_X3_isLiteral : GoodIn wsX3_next (wsV RX3 68 RX3 yX3_isLiteral wsX3_isLiteral) := goodIn_app (goodIn_of _ (by decide +kernel)) ggX3_next_X3_isLiteral
set_option maxRecDepth 20000 in
theorem ggX3_next_X3_isOther : GoodIn wsX3_next wsX3_isOther := goodIn_r _ [19, 20, 21, 22, 23, 24, 25, 26, 27, 28, 29, 30, 31, 32, 33, 34, 35, 36] (by decide +kernel) (by decide +kernel)
set_option maxRecDepth 20000 in
theorem gX3_next_X3_isOther : GoodIn wsX3_next (wsV RX3 71 RX3 yX3_isOther wsX3_isOther) := goodIn_app (goodIn_of _ (by decide +kernel)) ggX3_next_X3_isOther
set_option maxRecDepth 20000 in
theorem ggX3_same_X3_isLiteral : GoodIn wsX3_same wsX3_isLiteral := goodIn_r _ [6, 7, 14, 15, 16, 17, 18, 19, 20, 21, 22, 23, 24, 25, 26, 27, 28, 29] (by decide +kernel) (by decide +kernel)
set_option maxRecDepth 20000 in
theorem gX3_same_X3_isLiteral : GoodIn wsX3_same (wsV RX3 68 RX3 yX3_isLiteral wsX3_isLiteral) := goodIn_app (goodIn_of _ (by decide +kernel)) ggX3_same_X3_isLiteral
set_option maxRecDepth 20000 in
theorem ggX3_same_X3_areSame : GoodIn wsX3_same wsX3_areSame := goodIn_r _ [11, 12, 13, 14, 15, 16, 17, 18, 19, 20, 21, 22, 23, 24, 25, 26, 27, 28, 29] (by decide +kernel) (by decide +kernel)
set_option maxRecDepth 20000 in
theorem gX3_same_X3_areSame : GoodIn wsX3_same (wsV RX3 80 RX3 yX3_areSame wsX3_areSame) := goodIn_app (goodIn_of _ (by decide +kernel)) ggX3_same_X3_areSame
set_option maxRecDepth 20000 in
theorem ggX3_firstOf_X3_areSame : GoodIn wsX3_firstOf wsX3_areSame := goodIn_r _ [5, 6, 7, 8, 9, 10, 11, 12, 13, 14, 15, 16, 17, 18, 19, 20, 21, 22, 23] (by decide +kernel) (by decide +kernel)
set_option maxRecDepth 20000 in
theorem gX3_firstOf_X3_areSame : GoodIn wsX3_firstOf (wsV RX3 80 RX3 yX3_areSame wsX3_areSame) := goodIn_app (goodIn_of _ (by decide +kernel)) ggX3_firstOf_X3_areSame
set_option maxRecDepth 20000 in
theorem ggX3_first_X3_isLiteral : GoodIn wsX3_first wsX3_isLiteral := goodIn_r _ [6, 7, 18, 19, 20, 21, 22, 23, 24, 25, 26, 27, 28, 29, 30, 31, 32, 33] (by decide +kernel) (by decide +kernel)
set_option maxRecDepth 20000 in
theorem gX3_first_X3_isLiteral : GoodIn wsX3_first (wsV RX3 68 RX3 yX3_isLiteral wsX3_isLiteral) := goodIn_app (goodIn_of _ (by decide +kernel)) ggX3_first_X3_isLiteral
set_option maxRecDepth 20000 in
theorem ggX3_first_X3_firstOf : GoodIn wsX3_first wsX3_firstOf := goodIn_r _ [11, 12, 13, 14, 5, 15, 16, 17, 18, 19, 20, 21, 22, 23, 24, 25, 26, 27, 28, 29, 30, 31, 32, 33] (by decide +kernel) (by decide +kernel)
set_option maxRecDepth 20000 in
theorem gX3_first_X3_firstOf : GoodIn wsX3_first (wsV RX3 83 RX3 yX3_firstOf wsX3_firstOf) := goodIn_app (goodIn_of _ (by decide +kernel)) ggX3_first_X3_firstOf

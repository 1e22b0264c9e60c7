set_option maxRecDepth 20000 in
theorem ggX2_differs_X2_differentStartOrSize : GoodIn wsX2_differs wsX2_differentStartOrSize := goodIn_r _ [40, 3, 41, 5, 7, 13, 42, 43, 44, 45, 46, 47, 48, 49, 50, 51, 52, 53, 54, 55] (by decide +kernel) (by decide +kernel)
set_option maxRecDepth 20000 in
theorem gX2_differs_X2_differentStartOrSize : GoodIn wsX2_differs (wsV RX2 139 RX2 yX2_differentStartOrSize wsX2_differentStartOrSize) := goodIn_app (goodIn_of _ (by decide +kernel)) ggX2_differs_X2_differentStartOrSize
set_option maxRecDepth 20000 in
theorem ggX2_witness_X2_sharedOutputs : GoodIn wsX2_witness wsX2_sharedOutputs := goodIn_r _ [13, 4, 14, 6, 15, 16, 17, 18, 39, 40, 41, 42, 43, 44, 45, 46, 47, 48, 49, 50, 51, 52] (by decide +kernel) (by decide +kernel)
set_option maxRecDepth 20000 in
theorem gX2_witness_X2_sharedOutputs : GoodIn wsX2_witness (wsV RX2 125 RX2 yX2_sharedOutputs wsX2_sharedOutputs) := goodIn_app (goodIn_of _ (by decide +kernel)) ggX2_witness_X2_sharedOutputs
set_option maxRecDepth 20000 in
theorem ggX2_witness_X1_leastDifference : GoodIn wsX2_witness wsX1_leastDifference := goodIn_r _ [23, 24, 25, 26, 22, 27, 28, 29, 30, 31, 32, 33, 34, 35, 36, 37, 38, 53, 54, 55, 56, 57] (by decide +kernel) (by decide +kernel)
set_option maxRecDepth 20000 in
theorem gX2_witness_X1_leastDifference : GoodIn wsX2_witness (wsV RX2 142 RX1 yX1_leastDifference wsX1_leastDifference) := goodIn_app (goodIn_of _ (by decide +kernel)) ggX2_witness_X1_leastDifference
set_option maxRecDepth 20000 in
theorem ggX2_reset_X2_backToStarts : GoodIn wsX2_reset wsX2_backToStarts := goodIn_r _ [5, 6, 7, 8, 9, 10, 11, 12, 13, 14, 15, 16, 17, 18, 19, 20, 21, 22, 23, 24, 25, 26, 27, 28, 29, 30, 31] (by decide +kernel) (by decide +kernel)
set_option maxRecDepth 20000 in
theorem gX2_reset_X2_backToStarts : GoodIn wsX2_reset (wsV RX2 60 RX2 yX2_backToStarts wsX2_backToStarts) := goodIn_app (goodIn_of _ (by decide +kernel)) ggX2_reset_X2_backToStarts
set_option maxRecDepth 20000 in
theorem ggX2_step_X0_runStep : GoodIn wsX2_step wsX0_runStep := goodIn_r _ [11, 12, 13, 14, 15, 16, 17, 18, 19, 20, 21, 22, 23, 24, 25, 26, 27, 28, 47, 48, 49, 50, 51, 52, 53, 54, 55, 56, 57, 58] (by decide +kernel) (by decide +kernel)
set_option maxRecDepth 20000 in
theorem gX2_step_X0_runStep : GoodIn wsX2_step (wsV RX2 147 RX0 yX0_runStep wsX0_runStep) := goodIn_app (goodIn_of _ (by decide +kernel)) ggX2_step_X0_runStep
set_option maxRecDepth 20000 in
theorem ggX2_step_X2_showApart : GoodIn wsX2_step wsX2_showApart := goodIn_r _ [33, 1, 34, 4, 35, 36, 37, 38, 39, 40, 41, 42, 43, 44, 45, 46, 47, 48, 49, 50, 51, 52, 53] (by decide +kernel) (by decide +kernel)
set_option maxRecDepth 20000 in
theorem gX2_step_X2_showApart : GoodIn wsX2_step (wsV RX2 151 RX2 yX2_showApart wsX2_showApart) := goodIn_app (goodIn_of _ (by decide +kernel)) ggX2_step_X2_showApart
set_option maxRecDepth 20000 in
theorem ggX2_out_X2_needSide : GoodIn wsX2_out wsX2_needSide := goodIn_ca (goodIn_r _ [10, 1, 2] (by decide +kernel) (by decide +kernel)) (goodIn_sub (fun _ h => List.mem_cons_of_mem _ (List.mem_append_right _ h)) (by decide +kernel))
set_option maxRecDepth 20000 in
theorem gX2_out_X2_needSide : GoodIn wsX2_out (wsV RX2 63 RX2 yX2_needSide wsX2_needSide) := goodIn_app (goodIn_of _ (by decide +kernel)) ggX2_out_X2_needSide
set_option maxRecDepth 20000 in
theorem ggX2_out_X2_designOf : GoodIn wsX2_out wsX2_designOf := goodIn_r _ [14, 15, 16, 24, 25, 26, 27, 28, 29, 30] (by decide +kernel) (by decide +kernel)
set_option maxRecDepth 20000 in
theorem gX2_out_X2_designOf : GoodIn wsX2_out (wsV RX2 77 RX2 yX2_designOf wsX2_designOf) := goodIn_app (goodIn_of _ (by decide +kernel)) ggX2_out_X2_designOf
set_option maxRecDepth 20000 in
theorem ggX2_state_X2_needSide : GoodIn wsX2_state wsX2_needSide := goodIn_ca (goodIn_r _ [6, 7, 8] (by decide +kernel) (by decide +kernel)) (goodIn_sub (fun _ h => List.mem_cons_of_mem _ (List.mem_append_right _ h)) (by decide +kernel))
set_option maxRecDepth 20000 in
theorem gX2_state_X2_needSide : GoodIn wsX2_state (wsV RX2 63 RX2 yX2_needSide wsX2_needSide) := goodIn_app (goodIn_of _ (by decide +kernel)) ggX2_state_X2_needSide
set_option maxRecDepth 20000 in
theorem ggX2_state_X2_needLatch : GoodIn wsX2_state wsX2_needLatch := goodIn_ca (goodIn_r _ [12, 7, 8, 13, 27, 28, 29, 30, 31, 32, 33] (by decide +kernel) (by decide +kernel)) (goodIn_sub (fun _ h => List.mem_cons_of_mem _ (List.mem_append_right _ h)) (by decide +kernel))
set_option maxRecDepth 20000 in
theorem gX2_state_X2_needLatch : GoodIn wsX2_state (wsV RX2 89 RX2 yX2_needLatch wsX2_needLatch) := goodIn_app (goodIn_of _ (by decide +kernel)) ggX2_state_X2_needLatch
set_option maxRecDepth 20000 in
theorem ggX2_state_X2_designOf : GoodIn wsX2_state wsX2_designOf := goodIn_r _ [17, 18, 19, 27, 28, 29, 30, 31, 32, 33] (by decide +kernel) (by decide +kernel)
set_option maxRecDepth 20000 in
theorem gX2_state_X2_designOf : GoodIn wsX2_state (wsV RX2 77 RX2 yX2_designOf wsX2_designOf) := goodIn_app (goodIn_of _ (by decide +kernel)) ggX2_state_X2_designOf
set_option maxRecDepth 20000 in
theorem ggX2_count_X1_countAnds : GoodIn wsX2_count wsX1_countAnds := goodIn_r _ [14, 15, 16, 24, 25, 26, 27, 28] (by decide +kernel) (by decide +kernel)
set_option maxRecDepth 20000 in
theorem gX2_count_X1_countAnds : GoodIn wsX2_count (wsV RX2 172 RX1 yX1_countAnds wsX1_countAnds) := goodIn_app (goodIn_of _ (by decide +kernel)) ggX2_count_X1_countAnds
set_option maxRecDepth 20000 in
theorem ggX2_clear_X1_forget : GoodIn wsX2_clear wsX1_forget := goodIn_r _ [10, 11, 39, 40, 41, 42, 43] (by decide +kernel) (by decide +kernel)
set_option maxRecDepth 20000 in
theorem gX2_clear_X1_forget : GoodIn wsX2_clear (wsV RX2 177 RX1 yX1_forget wsX1_forget) := goodIn_app (goodIn_of _ (by decide +kernel)) ggX2_clear_X1_forget
set_option maxRecDepth 20000 in
theorem ggX2_clear_X0_forget : GoodIn wsX2_clear wsX0_forget := goodIn_r _ [16, 17, 18, 44, 45, 46, 47, 48, 49, 50] (by decide +kernel) (by decide +kernel)
set_option maxRecDepth 20000 in
theorem gX2_clear_X0_forget : GoodIn wsX2_clear (wsV RX2 180 RX0 yX0_forget wsX0_forget) := goodIn_app (goodIn_of _ (by decide +kernel)) ggX2_clear_X0_forget
set_option maxRecDepth 20000 in
theorem ggX2_clear_X2_backToStarts : GoodIn wsX2_clear wsX2_backToStarts := goodIn_r _ [23, 2, 3, 24, 25, 26, 27, 28, 15, 29, 18, 30, 31, 32, 33, 34, 35, 36, 37, 38, 44, 45, 46, 47, 48, 49, 50] (by decide +kernel) (by decide +kernel)
set_option maxRecDepth 20000 in
theorem gX2_clear_X2_backToStarts : GoodIn wsX2_clear (wsV RX2 60 RX2 yX2_backToStarts wsX2_backToStarts) := goodIn_app (goodIn_of _ (by decide +kernel)) ggX2_clear_X2_backToStarts
set_option maxRecDepth 20000 in
theorem ggX2_needOwn_X1_isOfOtherSide : GoodIn wsX2_needOwn wsX1_isOfOtherSide := goodIn_r _ [8, 9, 17, 18, 19, 20, 21] (by decide +kernel) (by decide +kernel)
set_option maxRecDepth 20000 in
theorem gX2_needOwn_X1_isOfOtherSide : GoodIn wsX2_needOwn (wsV RX2 194 RX1 yX1_isOfOtherSide wsX1_isOfOtherSide) := goodIn_app (goodIn_of _ (by decide +kernel)) ggX2_needOwn_X1_isOfOtherSide
set_option maxRecDepth 20000 in
theorem ggX2_backToStarts_X0_backToStarts : GoodIn wsX2_backToStarts wsX0_backToStarts := goodIn_r _ [9, 10, 11, 12, 20, 21, 22, 23, 24, 25, 26] (by decide +kernel) (by decide +kernel)
set_option maxRecDepth 20000 in
theorem gX2_backToStarts_X0_backToStarts : GoodIn wsX2_backToStarts (wsV RX2 199 RX0 yX0_backToStarts wsX0_backToStarts) := goodIn_app (goodIn_of _ (by decide +kernel)) ggX2_backToStarts_X0_backToStarts
set_option maxRecDepth 20000 in
theorem ggX2_countDifferent_X1_areSame : GoodIn wsX2_countDifferent wsX1_areSame := goodIn_r _ [6, 7, 8, 9, 5, 10, 11, 19, 20, 21, 22, 23] (by decide +kernel) (by decide +kernel)
set_option maxRecDepth 20000 in
theorem gX2_countDifferent_X1_areSame : GoodIn wsX2_countDifferent (wsV RX2 96 RX1 yX1_areSame wsX1_areSame) := goodIn_app (goodIn_of _ (by decide +kernel)) ggX2_countDifferent_X1_areSame
set_option maxRecDepth 20000 in
theorem ggX2_placeOfDifferent_X1_areSame : GoodIn wsX2_placeOfDifferent wsX1_areSame := goodIn_r _ [6, 7, 8, 9, 5, 10, 11, 19, 20, 21, 22, 23] (by decide +kernel) (by decide +kernel)
set_option maxRecDepth 20000 in
theorem gX2_placeOfDifferent_X1_areSame : GoodIn wsX2_placeOfDifferent (wsV RX2 96 RX1 yX1_areSame wsX1_areSame) := goodIn_app (goodIn_of _ (by decide +kernel)) ggX2_placeOfDifferent_X1_areSame

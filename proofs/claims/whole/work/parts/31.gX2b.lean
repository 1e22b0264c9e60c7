set_option maxRecDepth 20000 in
theorem ggX2_next_X2_needLatch : GoodIn wsX2_next wsX2_needLatch := goodIn_ca (goodIn_r _ [12, 7, 8, 13, 45, 46, 47, 48, 49, 50, 51] (by decide +kernel) (by decide +kernel)) (goodIn_sub (fun _ h => List.mem_cons_of_mem _ (List.mem_append_left _ (List.mem_append_right _ h))) (by decide +kernel))
set_option maxRecDepth 20000 in
theorem gX2_next_X2_needLatch : GoodIn wsX2_next (wsV RX2 89 RX2 yX2_needLatch wsX2_needLatch) := goodIn_app (goodIn_of _ (by decide +kernel)) ggX2_next_X2_needLatch
set_option maxRecDepth 20000 in
theorem ggX2_next_X2_needLiteral : GoodIn wsX2_next wsX2_needLiteral := goodIn_ca (goodIn_r _ [17, 7, 8, 18, 19, 45, 46, 47, 48, 49, 50, 51, 52, 53, 54, 55, 56] (by decide +kernel) (by decide +kernel)) (goodIn_sub (fun _ h => List.mem_cons_of_mem _ (List.mem_append_left _ (List.mem_append_right _ h))) (by decide +kernel))
set_option maxRecDepth 20000 in
theorem gX2_next_X2_needLiteral : GoodIn wsX2_next (wsV RX2 66 RX2 yX2_needLiteral wsX2_needLiteral) := goodIn_app (goodIn_of _ (by decide +kernel)) ggX2_next_X2_needLiteral
set_option maxRecDepth 20000 in
theorem ggX2_next_X2_needOwn : GoodIn wsX2_next wsX2_needOwn := goodIn_ca (goodIn_r _ [23, 24, 25, 18, 26, 27, 28, 29, 30, 31, 45, 46, 47, 48, 49, 50, 51, 52, 53, 54, 55, 56] (by decide +kernel) (by decide +kernel)) (goodIn_sub (fun _ h => List.mem_cons_of_mem _ (List.mem_append_right _ h)) (by decide +kernel))
set_option maxRecDepth 20000 in
theorem gX2_next_X2_needOwn : GoodIn wsX2_next (wsV RX2 69 RX2 yX2_needOwn wsX2_needOwn) := goodIn_app (goodIn_of _ (by decide +kernel)) ggX2_next_X2_needOwn
set_option maxRecDepth 20000 in
theorem ggX2_next_X2_designOf : GoodIn wsX2_next wsX2_designOf := goodIn_r _ [35, 36, 37, 45, 46, 47, 48, 49, 50, 51] (by decide +kernel) (by decide +kernel)
set_option maxRecDepth 20000 in
theorem gX2_next_X2_designOf : GoodIn wsX2_next (wsV RX2 77 RX2 yX2_designOf wsX2_designOf) := goodIn_app (goodIn_of _ (by decide +kernel)) ggX2_next_X2_designOf
set_option maxRecDepth 20000 in
theorem ggX2_same_X2_needLiteral : GoodIn wsX2_same wsX2_needLiteral := goodIn_ca (goodIn_r _ [6, 7, 8, 1, 9, 20, 21, 22, 23, 24, 25, 26, 27, 28, 29, 30, 31] (by decide +kernel) (by decide +kernel)) (goodIn_sub (fun _ h => List.mem_cons_of_mem _ (List.mem_append_right _ h)) (by decide +kernel))
set_option maxRecDepth 20000 in
theorem gX2_same_X2_needLiteral : GoodIn wsX2_same (wsV RX2 66 RX2 yX2_needLiteral wsX2_needLiteral) := goodIn_app (goodIn_of _ (by decide +kernel)) ggX2_same_X2_needLiteral
set_option maxRecDepth 20000 in
theorem ggX2_same_X1_areSame : GoodIn wsX2_same wsX1_areSame := goodIn_r _ [14, 15, 16, 17, 13, 18, 19, 27, 28, 29, 30, 31] (by decide +kernel) (by decide +kernel)
set_option maxRecDepth 20000 in
theorem gX2_same_X1_areSame : GoodIn wsX2_same (wsV RX2 96 RX1 yX1_areSame wsX1_areSame) := goodIn_app (goodIn_of _ (by decide +kernel)) ggX2_same_X1_areSame
set_option maxRecDepth 20000 in
theorem ggX2_first_X2_needLiteral : GoodIn wsX2_first wsX2_needLiteral := goodIn_ca (goodIn_r _ [6, 7, 8, 1, 9, 16, 17, 18, 19, 20, 21, 22, 23, 24, 25, 26, 27] (by decide +kernel) (by decide +kernel)) (goodIn_sub (fun _ h => List.mem_cons_of_mem _ (List.mem_append_right _ h)) (by decide +kernel))
set_option maxRecDepth 20000 in
theorem gX2_first_X2_needLiteral : GoodIn wsX2_first (wsV RX2 66 RX2 yX2_needLiteral wsX2_needLiteral) := goodIn_app (goodIn_of _ (by decide +kernel)) ggX2_first_X2_needLiteral
set_option maxRecDepth 20000 in
theorem ggX2_first_X1_firstOf : GoodIn wsX2_first wsX1_firstOf := goodIn_r _ [14, 15, 23, 24, 25, 26, 27] (by decide +kernel) (by decide +kernel)
set_option maxRecDepth 20000 in
theorem gX2_first_X1_firstOf : GoodIn wsX2_first (wsV RX2 100 RX1 yX1_firstOf wsX1_firstOf) := goodIn_app (goodIn_of _ (by decide +kernel)) ggX2_first_X1_firstOf
set_option maxRecDepth 20000 in
theorem ggX2_classes_X1_countClasses : GoodIn wsX2_classes wsX1_countClasses := goodIn_r _ [6, 7, 8, 9, 10, 5, 11, 12, 20, 21, 22, 23, 24] (by decide +kernel) (by decide +kernel)
set_option maxRecDepth 20000 in
theorem gX2_classes_X1_countClasses : GoodIn wsX2_classes (wsV RX2 103 RX1 yX1_countClasses wsX1_countClasses) := goodIn_app (goodIn_of _ (by decide +kernel)) ggX2_classes_X1_countClasses
set_option maxRecDepth 20000 in
theorem ggX2_merged_X2_needSide : GoodIn wsX2_merged wsX2_needSide := goodIn_ca (goodIn_r _ [6, 7, 8] (by decide +kernel) (by decide +kernel)) (goodIn_sub (fun _ h => List.mem_cons_of_mem _ (List.mem_append_right _ h)) (by decide +kernel))
set_option maxRecDepth 20000 in
theorem gX2_merged_X2_needSide : GoodIn wsX2_merged (wsV RX2 63 RX2 yX2_needSide wsX2_needSide) := goodIn_app (goodIn_of _ (by decide +kernel)) ggX2_merged_X2_needSide
set_option maxRecDepth 20000 in
theorem ggX2_merged_X1_countMerged : GoodIn wsX2_merged wsX1_countMerged := goodIn_r _ [13, 14, 15, 16, 17, 18, 12, 19, 20, 28, 29, 30, 31, 32] (by decide +kernel) (by decide +kernel)
set_option maxRecDepth 20000 in
theorem gX2_merged_X1_countMerged : GoodIn wsX2_merged (wsV RX2 107 RX1 yX1_countMerged wsX1_countMerged) := goodIn_app (goodIn_of _ (by decide +kernel)) ggX2_merged_X1_countMerged
set_option maxRecDepth 20000 in
theorem ggX2_hangs_X2_needLiteral : GoodIn wsX2_hangs wsX2_needLiteral := goodIn_ca (goodIn_r _ [6, 7, 8, 1, 9, 30, 31, 32, 33, 34, 35, 36, 37, 38, 39, 40, 41] (by decide +kernel) (by decide +kernel)) (goodIn_sub (fun _ h => List.mem_cons_of_mem _ (List.mem_append_right _ h)) (by decide +kernel))
set_option maxRecDepth 20000 in
theorem gX2_hangs_X2_needLiteral : GoodIn wsX2_hangs (wsV RX2 66 RX2 yX2_needLiteral wsX2_needLiteral) := goodIn_app (goodIn_of _ (by decide +kernel)) ggX2_hangs_X2_needLiteral
set_option maxRecDepth 20000 in
theorem ggX2_hangs_X1_supportOf : GoodIn wsX2_hangs wsX1_supportOf := goodIn_r _ [14, 15, 16, 17, 13, 18, 19, 20, 21, 22, 23, 24, 25, 26, 27, 28, 29, 37, 38, 39, 40, 41] (by decide +kernel) (by decide +kernel)
set_option maxRecDepth 20000 in
theorem gX2_hangs_X1_supportOf : GoodIn wsX2_hangs (wsV RX2 110 RX1 yX1_supportOf wsX1_supportOf) := goodIn_app (goodIn_of _ (by decide +kernel)) ggX2_hangs_X1_supportOf
set_option maxRecDepth 20000 in
theorem ggX2_ones_X2_needLiteral : GoodIn wsX2_ones wsX2_needLiteral := goodIn_ca (goodIn_r _ [8, 9, 10, 1, 11, 30, 31, 32, 33, 34, 35, 36, 37, 38, 39, 40, 41] (by decide +kernel) (by decide +kernel)) (goodIn_sub (fun _ h => List.mem_cons_of_mem _ (List.mem_append_right _ h)) (by decide +kernel))
set_option maxRecDepth 20000 in
theorem gX2_ones_X2_needLiteral : GoodIn wsX2_ones (wsV RX2 66 RX2 yX2_needLiteral wsX2_needLiteral) := goodIn_app (goodIn_of _ (by decide +kernel)) ggX2_ones_X2_needLiteral
set_option maxRecDepth 20000 in
theorem ggX2_ones_X1_countOnes : GoodIn wsX2_ones wsX1_countOnes := goodIn_r _ [16, 17, 18, 19, 15, 20, 21, 22, 23, 24, 25, 26, 27, 28, 29, 37, 38, 39, 40, 41] (by decide +kernel) (by decide +kernel)
set_option maxRecDepth 20000 in
theorem gX2_ones_X1_countOnes : GoodIn wsX2_ones (wsV RX2 113 RX1 yX1_countOnes wsX1_countOnes) := goodIn_app (goodIn_of _ (by decide +kernel)) ggX2_ones_X1_countOnes
set_option maxRecDepth 20000 in
theorem ggX2_value_X2_needLiteral : GoodIn wsX2_value wsX2_needLiteral := goodIn_ca (goodIn_r _ [6, 7, 8, 1, 9, 21, 22, 23, 24, 25, 26, 27, 28, 29, 30, 31, 32] (by decide +kernel) (by decide +kernel)) (goodIn_sub (fun _ h => List.mem_cons_of_mem _ (List.mem_append_right _ h)) (by decide +kernel))
set_option maxRecDepth 20000 in
theorem gX2_value_X2_needLiteral : GoodIn wsX2_value (wsV RX2 66 RX2 yX2_needLiteral wsX2_needLiteral) := goodIn_app (goodIn_of _ (by decide +kernel)) ggX2_value_X2_needLiteral
set_option maxRecDepth 20000 in
theorem ggX2_value_X1_valueIn : GoodIn wsX2_value wsX1_valueIn := goodIn_r _ [14, 15, 16, 17, 13, 18, 19, 20, 28, 29, 30, 31, 32] (by decide +kernel) (by decide +kernel)
set_option maxRecDepth 20000 in
theorem gX2_value_X1_valueIn : GoodIn wsX2_value (wsV RX2 116 RX1 yX1_valueIn wsX1_valueIn) := goodIn_app (goodIn_of _ (by decide +kernel)) ggX2_value_X1_valueIn
set_option maxRecDepth 20000 in
theorem ggX2_differs_X2_sharedOutputs : GoodIn wsX2_differs wsX2_sharedOutputs := goodIn_r _ [12, 3, 13, 5, 14, 15, 16, 17, 42, 43, 44, 45, 46, 47, 48, 49, 50, 51, 52, 53, 54, 55] (by decide +kernel) (by decide +kernel)
set_option maxRecDepth 20000 in
theorem gX2_differs_X2_sharedOutputs : GoodIn wsX2_differs (wsV RX2 125 RX2 yX2_sharedOutputs wsX2_sharedOutputs) := goodIn_app (goodIn_of _ (by decide +kernel)) ggX2_differs_X2_sharedOutputs
set_option maxRecDepth 20000 in
theorem ggX2_differs_X2_countDifferent : GoodIn wsX2_differs wsX2_countDifferent := goodIn_r _ [21, 22, 23, 24, 25, 26, 27, 28, 29, 30, 31, 32, 42, 43, 44, 45, 46, 47, 48, 56, 57, 58, 59, 60] (by decide +kernel) (by decide +kernel)
set_option maxRecDepth 20000 in
theorem gX2_differs_X2_countDifferent : GoodIn wsX2_differs (wsV RX2 131 RX2 yX2_countDifferent wsX2_countDifferent) := goodIn_app (goodIn_of _ (by decide +kernel)) ggX2_differs_X2_countDifferent
set_option maxRecDepth 20000 in
theorem ggX2_differs_X2_placeOfDifferent : GoodIn wsX2_differs wsX2_placeOfDifferent := goodIn_r _ [36, 22, 23, 24, 25, 26, 27, 28, 29, 30, 31, 32, 42, 43, 44, 45, 46, 47, 48, 56, 57, 58, 59, 60] (by decide +kernel) (by decide +kernel)
set_option maxRecDepth 20000 in
theorem gX2_differs_X2_placeOfDifferent : GoodIn wsX2_differs (wsV RX2 135 RX2 yX2_placeOfDifferent wsX2_placeOfDifferent) := goodIn_app (goodIn_of _ (by decide +kernel)) ggX2_differs_X2_placeOfDifferent

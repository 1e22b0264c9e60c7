set_option maxRecDepth 20000 in
theorem ggL_law_X3_same : GoodIn wsL_law wsX3_same := goodIn_r _ [296, 57, 230, 231, 232, 5, 233, 58, 297, 298, 299, 300, 229, 44, 567, 568, 569, 570, 571, 572, 573, 574, 575, 576, 577, 578, 579, 580, 581, 582] (by decide +kernel) (by decide +kernel)
set_option maxRecDepth 20000 in
theorem gL_law_X3_same : GoodIn wsL_law (wsV RL 97 RX3 yX3_same wsX3_same) := goodIn_app (goodIn_of _ (by decide +kernel)) ggL_law_X3_same
set_option maxRecDepth 20000 in
theorem ggL_law_L_first : GoodIn wsL_law wsL_first := goodIn_ca (goodIn_r _ [303, 198, 304, 305, 306, 2, 307, 16, 209, 210, 211, 212, 207, 208, 83, 308, 290, 291, 15, 292, 30, 560, 561, 562, 563, 564, 565, 566, 583, 584, 585, 586] (by decide +kernel) (by decide +kernel)) (goodIn_sub (fun _ h => List.mem_append_right _ h) (by decide +kernel))
set_option maxRecDepth 20000 in
theorem gL_law_L_first : GoodIn wsL_law (va_wsS RL 98 yL_first wsL_first) := goodIn_app (goodIn_of _ (by decide +kernel)) ggL_law_L_first
set_option maxRecDepth 20000 in
theorem ggL_law_X3_first : GoodIn wsL_law wsX3_first := goodIn_r _ [312, 57, 230, 231, 232, 5, 233, 58, 313, 314, 315, 316, 297, 298, 299, 300, 229, 44, 567, 568, 569, 570, 571, 572, 573, 574, 575, 576, 577, 578, 579, 580, 581, 582] (by decide +kernel) (by decide +kernel)
set_option maxRecDepth 20000 in
theorem gL_law_X3_first : GoodIn wsL_law (wsV RL 101 RX3 yX3_first wsX3_first) := goodIn_app (goodIn_of _ (by decide +kernel)) ggL_law_X3_first
set_option maxRecDepth 20000 in
theorem ggL_law_X2_classes : GoodIn wsL_law wsX2_classes := goodIn_r _ [320, 16, 321, 322, 323, 15, 324, 27, 325, 326, 327, 328, 30, 560, 561, 562, 563, 564, 565, 566, 583, 584, 585, 586] (by decide +kernel) (by decide +kernel)
set_option maxRecDepth 20000 in
theorem gL_law_X2_classes : GoodIn wsL_law (wsV RL 102 RX2 yX2_classes wsX2_classes) := goodIn_app (goodIn_of _ (by decide +kernel)) ggL_law_X2_classes
set_option maxRecDepth 20000 in
theorem ggL_law_X3_classes : GoodIn wsL_law wsX3_classes := goodIn_r _ [332, 57, 58, 333, 334, 335, 5, 336, 297, 298, 299, 300, 229, 44, 567, 568, 569, 570, 571, 572, 573, 574, 575, 576, 577, 578, 579, 580, 581, 582] (by decide +kernel) (by decide +kernel)
set_option maxRecDepth 20000 in
theorem gL_law_X3_classes : GoodIn wsL_law (wsV RL 105 RX3 yX3_classes wsX3_classes) := goodIn_app (goodIn_of _ (by decide +kernel)) ggL_law_X3_classes
set_option maxRecDepth 20000 in
theorem ggL_law_L_merged : GoodIn wsL_law wsL_merged := goodIn_ca (goodIn_r _ [339, 198, 340, 341, 342, 2, 343, 16, 203, 204, 205, 206, 207, 208, 344, 345, 346, 15, 347, 27, 29, 325, 326, 327, 328, 30, 560, 561, 562, 563, 564, 565, 566, 583, 584, 585, 586] (by decide +kernel) (by decide +kernel)) (goodIn_sub (fun _ h => List.mem_append_right _ h) (by decide +kernel))
set_option maxRecDepth 20000 in
theorem gL_law_L_merged : GoodIn wsL_law (va_wsS RL 106 yL_merged wsL_merged) := goodIn_app (goodIn_of _ (by decide +kernel)) ggL_law_L_merged
set_option maxRecDepth 20000 in
theorem ggL_law_X3_merged : GoodIn wsL_law wsX3_merged := goodIn_r _ [351, 57, 58, 43, 192, 193, 5, 194, 333, 334, 335, 336, 297, 298, 299, 300, 229, 44, 567, 568, 569, 570, 571, 572, 573, 574, 575, 576, 577, 578, 579, 580, 581, 582] (by decide +kernel) (by decide +kernel)
set_option maxRecDepth 20000 in
theorem gL_law_X3_merged : GoodIn wsL_law (wsV RL 108 RX3 yX3_merged wsX3_merged) := goodIn_app (goodIn_of _ (by decide +kernel)) ggL_law_X3_merged
set_option maxRecDepth 20000 in
theorem ggL_law_L_hangs : GoodIn wsL_law wsL_hangs := goodIn_ca (goodIn_r _ [354, 198, 355, 356, 357, 2, 358, 16, 209, 210, 211, 212, 207, 208, 83, 359, 360, 361, 15, 362, 363, 364, 365, 366, 367, 368, 369, 370, 114, 115, 128, 129, 130, 131, 31, 560, 561, 562, 563, 564, 565, 566, 583, 584, 585, 586] (by decide +kernel) (by decide +kernel)) (goodIn_sub (fun _ h => List.mem_append_right _ h) (by decide +kernel))
set_option maxRecDepth 20000 in
theorem gL_law_L_hangs : GoodIn wsL_law (va_wsS RL 109 yL_hangs wsL_hangs) := goodIn_app (goodIn_of _ (by decide +kernel)) ggL_law_L_hangs
set_option maxRecDepth 20000 in
theorem ggL_law_X3_hangs : GoodIn wsL_law wsX3_hangs := goodIn_r _ [374, 57, 230, 231, 232, 5, 233, 58, 375, 376, 377, 378, 44, 567, 568, 569, 570, 571, 572, 573, 574, 575, 576, 577, 578, 579, 580, 581, 582] (by decide +kernel) (by decide +kernel)
set_option maxRecDepth 20000 in
theorem gL_law_X3_hangs : GoodIn wsL_law (wsV RL 111 RX3 yX3_hangs wsX3_hangs) := goodIn_app (goodIn_of _ (by decide +kernel)) ggL_law_X3_hangs
set_option maxRecDepth 20000 in
theorem ggL_law_L_ones : GoodIn wsL_law wsL_ones := goodIn_ca (goodIn_r _ [381, 198, 382, 383, 384, 2, 385, 16, 78, 165, 209, 210, 211, 212, 207, 208, 83, 386, 387, 388, 15, 389, 128, 129, 130, 131, 31, 115, 390, 391, 138, 392, 393, 394, 395, 560, 561, 562, 563, 564, 565, 566, 583, 584, 585, 586] (by decide +kernel) (by decide +kernel)) (goodIn_sub (fun _ h => List.mem_append_right _ h) (by decide +kernel))
set_option maxRecDepth 20000 in
theorem gL_law_L_ones : GoodIn wsL_law (va_wsS RL 112 yL_ones wsL_ones) := goodIn_app (goodIn_of _ (by decide +kernel)) ggL_law_L_ones

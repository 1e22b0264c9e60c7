set_option maxRecDepth 20000 in
theorem ggL_law_X3_same : GoodIn wsL_law wsX3_same := goodIn_r _ [302, 58, 236, 237, 238, 5, 239, 59, 303, 304, 305, 306, 235, 45, 573, 574, 575, 576, 577, 578, 579, 580, 581, 582, 583, 584, 585, 586, 587, 588] (by decide +kernel) (by decide +kernel)
set_option maxRecDepth 20000 in
theorem gL_law_X3_same : GoodIn wsL_law (wsV RL 97 RX3 yX3_same wsX3_same) := goodIn_app (goodIn_of _ (by decide +kernel)) ggL_law_X3_same
set_option maxRecDepth 20000 in
theorem ggL_law_L_first : GoodIn wsL_law wsL_first := goodIn_ca (goodIn_r _ [309, 204, 310, 311, 312, 2, 313, 16, 215, 216, 217, 218, 213, 214, 84, 314, 296, 297, 15, 298, 30, 566, 567, 568, 569, 570, 571, 572, 589, 590, 591, 592, 593] (by decide +kernel) (by decide +kernel)) (goodIn_sub (fun _ h => List.mem_append_right _ h) (by decide +kernel))
set_option maxRecDepth 20000 in
theorem gL_law_L_first : GoodIn wsL_law (va_wsS RL 98 yL_first wsL_first) := goodIn_app (goodIn_of _ (by decide +kernel)) ggL_law_L_first
set_option maxRecDepth 20000 in
theorem ggL_law_X3_first : GoodIn wsL_law wsX3_first := goodIn_r _ [318, 58, 236, 237, 238, 5, 239, 59, 319, 320, 321, 322, 303, 304, 305, 306, 235, 45, 573, 574, 575, 576, 577, 578, 579, 580, 581, 582, 583, 584, 585, 586, 587, 588] (by decide +kernel) (by decide +kernel)
set_option maxRecDepth 20000 in
theorem gL_law_X3_first : GoodIn wsL_law (wsV RL 101 RX3 yX3_first wsX3_first) := goodIn_app (goodIn_of _ (by decide +kernel)) ggL_law_X3_first
set_option maxRecDepth 20000 in
theorem ggL_law_X2_classes : GoodIn wsL_law wsX2_classes := goodIn_r _ [326, 16, 327, 328, 329, 15, 330, 27, 331, 332, 333, 334, 30, 566, 567, 568, 569, 570, 571, 572, 589, 590, 591, 592, 593] (by decide +kernel) (by decide +kernel)
set_option maxRecDepth 20000 in
theorem gL_law_X2_classes : GoodIn wsL_law (wsV RL 102 RX2 yX2_classes wsX2_classes) := goodIn_app (goodIn_of _ (by decide +kernel)) ggL_law_X2_classes
set_option maxRecDepth 20000 in
theorem ggL_law_X3_classes : GoodIn wsL_law wsX3_classes := goodIn_r _ [338, 58, 59, 339, 340, 341, 5, 342, 303, 304, 305, 306, 235, 45, 573, 574, 575, 576, 577, 578, 579, 580, 581, 582, 583, 584, 585, 586, 587, 588] (by decide +kernel) (by decide +kernel)
set_option maxRecDepth 20000 in
theorem gL_law_X3_classes : GoodIn wsL_law (wsV RL 105 RX3 yX3_classes wsX3_classes) := goodIn_app (goodIn_of _ (by decide +kernel)) ggL_law_X3_classes
set_option maxRecDepth 20000 in
theorem ggL_law_L_merged : GoodIn wsL_law wsL_merged := goodIn_ca (goodIn_r _ [345, 204, 346, 347, 348, 2, 349, 16, 209, 210, 211, 212, 213, 214, 350, 351, 352, 15, 353, 27, 29, 331, 332, 333, 334, 30, 566, 567, 568, 569, 570, 571, 572, 589, 590, 591, 592, 593] (by decide +kernel) (by decide +kernel)) (goodIn_sub (fun _ h => List.mem_append_right _ h) (by decide +kernel))
set_option maxRecDepth 20000 in
theorem gL_law_L_merged : GoodIn wsL_law (va_wsS RL 106 yL_merged wsL_merged) := goodIn_app (goodIn_of _ (by decide +kernel)) ggL_law_L_merged
set_option maxRecDepth 20000 in
theorem ggL_law_X3_merged : GoodIn wsL_law wsX3_merged := goodIn_r _ [357, 58, 59, 44, 198, 199, 5, 200, 339, 340, 341, 342, 303, 304, 305, 306, 235, 45, 573, 574, 575, 576, 577, 578, 579, 580, 581, 582, 583, 584, 585, 586, 587, 588] (by decide +kernel) (by decide +kernel)
set_option maxRecDepth 20000 in
theorem gL_law_X3_merged : GoodIn wsL_law (wsV RL 108 RX3 yX3_merged wsX3_merged) := goodIn_app (goodIn_of _ (by decide +kernel)) ggL_law_X3_merged
set_option maxRecDepth 20000 in
theorem ggL_law_L_hangs : GoodIn wsL_law wsL_hangs := goodIn_ca (goodIn_r _ [360, 204, 361, 362, 363, 2, 364, 16, 215, 216, 217, 218, 213, 214, 84, 365, 366, 367, 15, 368, 369, 370, 371, 372, 373, 374, 375, 376, 115, 116, 134, 135, 136, 137, 32, 566, 567, 568, 569, 570, 571, 572, 589, 590, 591, 592, 593] (by decide +kernel) (by decide +kernel)) (goodIn_sub (fun _ h => List.mem_append_right _ h) (by decide +kernel))
set_option maxRecDepth 20000 in
theorem gL_law_L_hangs : GoodIn wsL_law (va_wsS RL 109 yL_hangs wsL_hangs) := goodIn_app (goodIn_of _ (by decide +kernel)) ggL_law_L_hangs
set_option maxRecDepth 20000 in
theorem ggL_law_X3_hangs : GoodIn wsL_law wsX3_hangs := goodIn_r _ [380, 58, 236, 237, 238, 5, 239, 59, 381, 382, 383, 384, 45, 573, 574, 575, 576, 577, 578, 579, 580, 581, 582, 583, 584, 585, 586, 587, 588] (by decide +kernel) (by decide +kernel)
set_option maxRecDepth 20000 in
theorem gL_law_X3_hangs : GoodIn wsL_law (wsV RL 111 RX3 yX3_hangs wsX3_hangs) := goodIn_app (goodIn_of _ (by decide +kernel)) ggL_law_X3_hangs
set_option maxRecDepth 20000 in
theorem ggL_law_L_ones : GoodIn wsL_law wsL_ones := goodIn_ca (goodIn_r _ [387, 204, 388, 389, 390, 2, 391, 16, 79, 171, 215, 216, 217, 218, 213, 214, 84, 392, 393, 394, 15, 395, 134, 135, 136, 137, 32, 116, 396, 397, 144, 398, 399, 400, 401, 566, 567, 568, 569, 570, 571, 572, 589, 590, 591, 592, 593] (by decide +kernel) (by decide +kernel)) (goodIn_sub (fun _ h => List.mem_append_right _ h) (by decide +kernel))
set_option maxRecDepth 20000 in
theorem gL_law_L_ones : GoodIn wsL_law (va_wsS RL 112 yL_ones wsL_ones) := goodIn_app (goodIn_of _ (by decide +kernel)) ggL_law_L_ones

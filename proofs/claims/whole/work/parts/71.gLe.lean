set_option maxRecDepth 20000 in
theorem ggL_law_X3_ones : GoodIn wsL_law wsX3_ones := goodIn_r _ [399, 57, 230, 231, 232, 5, 233, 58, 400, 401, 402, 403, 59, 60, 375, 376, 377, 378, 44, 567, 568, 569, 570, 571, 572, 573, 574, 575, 576, 577, 578, 579, 580, 581, 582] (by decide +kernel) (by decide +kernel)
set_option maxRecDepth 20000 in
theorem gL_law_X3_ones : GoodIn wsL_law (wsV RL 114 RX3 yX3_ones wsX3_ones) := goodIn_app (goodIn_of _ (by decide +kernel)) ggL_law_X3_ones
set_option maxRecDepth 20000 in
theorem ggL_law_L_value : GoodIn wsL_law wsL_value := goodIn_ca (goodIn_r _ [406, 198, 407, 408, 409, 2, 410, 16, 209, 210, 211, 212, 207, 208, 83, 411, 125, 126, 15, 127, 128, 129, 130, 131, 31, 115, 560, 561, 562, 563, 564, 565, 566, 583, 584, 585, 586] (by decide +kernel) (by decide +kernel)) (goodIn_sub (fun _ h => List.mem_append_right _ h) (by decide +kernel))
set_option maxRecDepth 20000 in
theorem gL_law_L_value : GoodIn wsL_law (va_wsS RL 115 yL_value wsL_value) := goodIn_app (goodIn_of _ (by decide +kernel)) ggL_law_L_value
set_option maxRecDepth 20000 in
theorem ggL_law_X3_value : GoodIn wsL_law wsX3_value := goodIn_r _ [415, 57, 230, 231, 232, 5, 233, 58, 400, 401, 402, 403, 59, 60, 375, 376, 377, 378, 44, 567, 568, 569, 570, 571, 572, 573, 574, 575, 576, 577, 578, 579, 580, 581, 582] (by decide +kernel) (by decide +kernel)
set_option maxRecDepth 20000 in
theorem gL_law_X3_value : GoodIn wsL_law (wsV RL 117 RX3 yX3_value wsX3_value) := goodIn_app (goodIn_of _ (by decide +kernel)) ggL_law_X3_value
set_option maxRecDepth 20000 in
theorem ggL_law_L_differs : GoodIn wsL_law wsL_differs := goodIn_ca (goodIn_r _ [418, 198, 419, 420, 421, 2, 422, 207, 208, 20, 423, 21, 266, 165, 424, 425, 426, 427, 245, 428, 93, 94, 95, 429, 430, 431, 432, 16, 285, 286, 287, 15, 288, 289, 290, 291, 292, 30, 433, 434, 435, 436, 437, 438, 439, 440, 441, 560, 561, 562, 563, 564, 565, 566, 587, 588, 589, 590, 591, 592, 593, 583, 584, 585, 586] (by decide +kernel) (by decide +kernel)) (goodIn_sub (fun _ h => List.mem_append_right _ h) (by decide +kernel))
set_option maxRecDepth 20000 in
theorem gL_law_L_differs : GoodIn wsL_law (va_wsS RL 118 yL_differs wsL_differs) := goodIn_app (goodIn_of _ (by decide +kernel)) ggL_law_L_differs
set_option maxRecDepth 20000 in
theorem ggL_law_X3_differs : GoodIn wsL_law wsX3_differs := goodIn_r _ [445, 57, 446, 447, 448, 5, 449, 50, 60, 47, 46, 49, 450, 451, 452, 453, 297, 298, 299, 300, 229, 44, 567, 568, 569, 570, 571, 572, 573, 574, 575, 576, 577, 578, 579, 580, 581, 582] (by decide +kernel) (by decide +kernel)
set_option maxRecDepth 20000 in
theorem gL_law_X3_differs : GoodIn wsL_law (wsV RL 120 RX3 yX3_differs wsX3_differs) := goodIn_app (goodIn_of _ (by decide +kernel)) ggL_law_X3_differs
set_option maxRecDepth 20000 in
theorem ggL_law_L_witness : GoodIn wsL_law wsL_witness := goodIn_ca (goodIn_r _ [456, 198, 457, 458, 459, 2, 460, 207, 208, 16, 20, 423, 21, 165, 266, 424, 425, 426, 427, 245, 428, 93, 94, 95, 461, 133, 134, 15, 135, 128, 129, 130, 131, 31, 115, 136, 137, 138, 139, 140, 141, 142, 143, 144, 560, 561, 562, 563, 564, 565, 566, 587, 588, 589, 590, 591, 592, 593, 583, 584, 585, 586] (by decide +kernel) (by decide +kernel)) (goodIn_sub (fun _ h => List.mem_append_right _ h) (by decide +kernel))
set_option maxRecDepth 20000 in
theorem gL_law_L_witness : GoodIn wsL_law (va_wsS RL 121 yL_witness wsL_witness) := goodIn_app (goodIn_of _ (by decide +kernel)) ggL_law_L_witness
set_option maxRecDepth 20000 in
theorem ggL_law_X3_witness : GoodIn wsL_law wsX3_witness := goodIn_r _ [465, 60, 57, 50, 47, 450, 451, 452, 5, 453, 49, 275, 276, 277, 375, 376, 377, 378, 44, 567, 568, 569, 570, 571, 572, 573, 574, 575, 576, 577, 578, 579, 580, 581, 582] (by decide +kernel) (by decide +kernel)
set_option maxRecDepth 20000 in
theorem gL_law_X3_witness : GoodIn wsL_law (wsV RL 123 RX3 yX3_witness wsX3_witness) := goodIn_app (goodIn_of _ (by decide +kernel)) ggL_law_X3_witness
set_option maxRecDepth 20000 in
theorem ggL_law_X2_reset : GoodIn wsL_law wsX2_reset := goodIn_r _ [469, 177, 178, 179, 2, 180, 20, 21, 181, 22, 182, 183, 184, 19, 185, 176, 186, 187, 560, 561, 562, 563, 564, 565, 566, 587, 588, 589, 590, 591, 592, 593] (by decide +kernel) (by decide +kernel)
set_option maxRecDepth 20000 in
theorem gL_law_X2_reset : GoodIn wsL_law (wsV RL 124 RX2 yX2_reset wsX2_reset) := goodIn_app (goodIn_of _ (by decide +kernel)) ggL_law_X2_reset
set_option maxRecDepth 20000 in
theorem ggL_law_X3_reset : GoodIn wsL_law wsX3_reset := goodIn_r _ [473, 57, 61, 62, 63, 5, 64, 48, 46, 65, 66, 52, 567, 568, 569, 570, 571, 572, 573, 574, 575, 576, 577, 578, 579, 580, 581, 582] (by decide +kernel) (by decide +kernel)
set_option maxRecDepth 20000 in
theorem gL_law_X3_reset : GoodIn wsL_law (wsV RL 127 RX3 yX3_reset wsX3_reset) := goodIn_app (goodIn_of _ (by decide +kernel)) ggL_law_X3_reset
set_option maxRecDepth 20000 in
theorem ggL_law_X2_step : GoodIn wsL_law wsX2_step := goodIn_r _ [477, 20, 16, 165, 21, 22, 181, 478, 479, 480, 19, 481, 186, 254, 38, 36, 187, 37, 482, 125, 126, 15, 127, 128, 129, 130, 131, 31, 115, 483, 484, 485, 2, 486, 487, 428, 93, 94, 95, 488, 560, 561, 562, 563, 564, 565, 566, 587, 588, 589, 590, 591, 592, 593, 583, 584, 585, 586] (by decide +kernel) (by decide +kernel)
set_option maxRecDepth 20000 in
theorem gL_law_X2_step : GoodIn wsL_law (wsV RL 128 RX2 yX2_step wsX2_step) := goodIn_app (goodIn_of _ (by decide +kernel)) ggL_law_X2_step

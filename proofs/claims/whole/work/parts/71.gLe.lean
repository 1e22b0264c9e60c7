set_option maxRecDepth 20000 in
theorem ggL_law_X3_ones : GoodIn wsL_law wsX3_ones := goodIn_r _ [405, 58, 236, 237, 238, 5, 239, 59, 406, 407, 408, 409, 60, 61, 381, 382, 383, 384, 45, 573, 574, 575, 576, 577, 578, 579, 580, 581, 582, 583, 584, 585, 586, 587, 588] (by decide +kernel) (by decide +kernel)
set_option maxRecDepth 20000 in
theorem gL_law_X3_ones : GoodIn wsL_law (wsV RL 114 RX3 yX3_ones wsX3_ones) := goodIn_app (goodIn_of _ (by decide +kernel)) ggL_law_X3_ones
set_option maxRecDepth 20000 in
theorem ggL_law_L_value : GoodIn wsL_law wsL_value := goodIn_ca (goodIn_r _ [412, 204, 413, 414, 415, 2, 416, 16, 215, 216, 217, 218, 213, 214, 84, 417, 131, 132, 15, 133, 134, 135, 136, 137, 32, 116, 566, 567, 568, 569, 570, 571, 572, 589, 590, 591, 592, 593] (by decide +kernel) (by decide +kernel)) (goodIn_sub (fun _ h => List.mem_append_right _ h) (by decide +kernel))
set_option maxRecDepth 20000 in
theorem gL_law_L_value : GoodIn wsL_law (va_wsS RL 115 yL_value wsL_value) := goodIn_app (goodIn_of _ (by decide +kernel)) ggL_law_L_value
set_option maxRecDepth 20000 in
theorem ggL_law_X3_value : GoodIn wsL_law wsX3_value := goodIn_r _ [421, 58, 236, 237, 238, 5, 239, 59, 406, 407, 408, 409, 60, 61, 381, 382, 383, 384, 45, 573, 574, 575, 576, 577, 578, 579, 580, 581, 582, 583, 584, 585, 586, 587, 588] (by decide +kernel) (by decide +kernel)
set_option maxRecDepth 20000 in
theorem gL_law_X3_value : GoodIn wsL_law (wsV RL 117 RX3 yX3_value wsX3_value) := goodIn_app (goodIn_of _ (by decide +kernel)) ggL_law_X3_value
set_option maxRecDepth 20000 in
theorem ggL_law_L_differs : GoodIn wsL_law wsL_differs := goodIn_ca (goodIn_r _ [424, 204, 425, 426, 427, 2, 428, 213, 214, 20, 429, 21, 272, 171, 430, 431, 432, 433, 251, 434, 94, 95, 96, 435, 436, 437, 438, 16, 291, 292, 293, 15, 294, 295, 296, 297, 298, 30, 439, 440, 441, 442, 443, 444, 445, 446, 447, 566, 567, 568, 569, 570, 571, 572, 594, 595, 596, 597, 598, 599, 600, 589, 590, 591, 592, 593] (by decide +kernel) (by decide +kernel)) (goodIn_sub (fun _ h => List.mem_append_right _ h) (by decide +kernel))
set_option maxRecDepth 20000 in
theorem gL_law_L_differs : GoodIn wsL_law (va_wsS RL 118 yL_differs wsL_differs) := goodIn_app (goodIn_of _ (by decide +kernel)) ggL_law_L_differs
set_option maxRecDepth 20000 in
theorem ggL_law_X3_differs : GoodIn wsL_law wsX3_differs := goodIn_r _ [451, 58, 452, 453, 454, 5, 455, 51, 61, 48, 47, 50, 456, 457, 458, 459, 303, 304, 305, 306, 235, 45, 573, 574, 575, 576, 577, 578, 579, 580, 581, 582, 583, 584, 585, 586, 587, 588] (by decide +kernel) (by decide +kernel)
set_option maxRecDepth 20000 in
theorem gL_law_X3_differs : GoodIn wsL_law (wsV RL 120 RX3 yX3_differs wsX3_differs) := goodIn_app (goodIn_of _ (by decide +kernel)) ggL_law_X3_differs
set_option maxRecDepth 20000 in
theorem ggL_law_L_witness : GoodIn wsL_law wsL_witness := goodIn_ca (goodIn_r _ [462, 204, 463, 464, 465, 2, 466, 213, 214, 16, 20, 429, 21, 171, 272, 430, 431, 432, 433, 251, 434, 94, 95, 96, 467, 139, 140, 15, 141, 134, 135, 136, 137, 32, 116, 142, 143, 144, 145, 146, 147, 148, 149, 150, 566, 567, 568, 569, 570, 571, 572, 594, 595, 596, 597, 598, 599, 600, 589, 590, 591, 592, 593] (by decide +kernel) (by decide +kernel)) (goodIn_sub (fun _ h => List.mem_append_right _ h) (by decide +kernel))
set_option maxRecDepth 20000 in
theorem gL_law_L_witness : GoodIn wsL_law (va_wsS RL 121 yL_witness wsL_witness) := goodIn_app (goodIn_of _ (by decide +kernel)) ggL_law_L_witness
set_option maxRecDepth 20000 in
theorem ggL_law_X3_witness : GoodIn wsL_law wsX3_witness := goodIn_r _ [471, 61, 58, 51, 48, 456, 457, 458, 5, 459, 50, 281, 282, 283, 381, 382, 383, 384, 45, 573, 574, 575, 576, 577, 578, 579, 580, 581, 582, 583, 584, 585, 586, 587, 588] (by decide +kernel) (by decide +kernel)
set_option maxRecDepth 20000 in
theorem gL_law_X3_witness : GoodIn wsL_law (wsV RL 123 RX3 yX3_witness wsX3_witness) := goodIn_app (goodIn_of _ (by decide +kernel)) ggL_law_X3_witness
set_option maxRecDepth 20000 in
theorem ggL_law_X2_reset : GoodIn wsL_law wsX2_reset := goodIn_r _ [475, 183, 184, 185, 2, 186, 20, 21, 187, 22, 188, 189, 190, 19, 191, 182, 192, 193, 566, 567, 568, 569, 570, 571, 572, 594, 595, 596, 597, 598, 599, 600] (by decide +kernel) (by decide +kernel)
set_option maxRecDepth 20000 in
theorem gL_law_X2_reset : GoodIn wsL_law (wsV RL 124 RX2 yX2_reset wsX2_reset) := goodIn_app (goodIn_of _ (by decide +kernel)) ggL_law_X2_reset
set_option maxRecDepth 20000 in
theorem ggL_law_X3_reset : GoodIn wsL_law wsX3_reset := goodIn_r _ [479, 58, 62, 63, 64, 5, 65, 49, 47, 66, 67, 53, 573, 574, 575, 576, 577, 578, 579, 580, 581, 582, 583, 584, 585, 586, 587, 588] (by decide +kernel) (by decide +kernel)
set_option maxRecDepth 20000 in
theorem gL_law_X3_reset : GoodIn wsL_law (wsV RL 127 RX3 yX3_reset wsX3_reset) := goodIn_app (goodIn_of _ (by decide +kernel)) ggL_law_X3_reset
set_option maxRecDepth 20000 in
theorem ggL_law_X2_step : GoodIn wsL_law wsX2_step := goodIn_r _ [483, 20, 16, 171, 21, 22, 187, 484, 485, 486, 19, 487, 192, 260, 39, 37, 193, 38, 488, 131, 132, 15, 133, 134, 135, 136, 137, 32, 116, 489, 490, 491, 2, 492, 493, 434, 94, 95, 96, 494, 566, 567, 568, 569, 570, 571, 572, 594, 595, 596, 597, 598, 599, 600, 589, 590, 591, 592, 593] (by decide +kernel) (by decide +kernel)
set_option maxRecDepth 20000 in
theorem gL_law_X2_step : GoodIn wsL_law (wsV RL 128 RX2 yX2_step wsX2_step) := goodIn_app (goodIn_of _ (by decide +kernel)) ggL_law_X2_step

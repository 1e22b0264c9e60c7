set_option maxRecDepth 20000 in
theorem ggL_law_X3_step : GoodIn wsL_law wsX3_step := goodIn_r _ [498, 58, 50, 52, 51, 53, 61, 49, 48, 67, 66, 499, 500, 501, 5, 502, 60, 381, 382, 383, 384, 45, 456, 457, 458, 459, 573, 574, 575, 576, 577, 578, 579, 580, 581, 582, 583, 584, 585, 586, 587, 588] (by decide +kernel) (by decide +kernel)
set_option maxRecDepth 20000 in
theorem gL_law_X3_step : GoodIn wsL_law (wsV RL 131 RX3 yX3_step wsX3_step) := goodIn_app (goodIn_of _ (by decide +kernel)) ggL_law_X3_step
set_option maxRecDepth 20000 in
theorem ggL_law_L_out : GoodIn wsL_law wsL_out := goodIn_ca (goodIn_r _ [505, 204, 506, 507, 508, 2, 509, 213, 214, 251, 493, 494, 209, 210, 211, 212, 252, 253, 254, 255, 20, 21, 594, 595, 596, 597, 598, 599, 600, 566, 567, 568, 569, 570, 571, 572] (by decide +kernel) (by decide +kernel)) (goodIn_sub (fun _ h => List.mem_append_right _ h) (by decide +kernel))
set_option maxRecDepth 20000 in
theorem gL_law_L_out : GoodIn wsL_law (va_wsS RL 132 yL_out wsL_out) := goodIn_app (goodIn_of _ (by decide +kernel)) ggL_law_L_out
set_option maxRecDepth 20000 in
theorem ggL_law_X3_out : GoodIn wsL_law wsX3_out := goodIn_r _ [513, 50, 58, 53, 52, 198, 199, 5, 200, 281, 282, 283, 573, 574, 575, 576, 577, 578, 579, 580, 581, 582, 583, 584, 585, 586, 587, 588] (by decide +kernel) (by decide +kernel)
set_option maxRecDepth 20000 in
theorem gL_law_X3_out : GoodIn wsL_law (wsV RL 134 RX3 yX3_out wsX3_out) := goodIn_app (goodIn_of _ (by decide +kernel)) ggL_law_X3_out
set_option maxRecDepth 20000 in
theorem ggL_law_L_state : GoodIn wsL_law wsL_state := goodIn_ca (goodIn_r _ [516, 204, 517, 518, 519, 2, 520, 521, 209, 210, 211, 212, 213, 214, 273, 274, 275, 276, 171, 252, 253, 254, 255, 20, 21, 594, 595, 596, 597, 598, 599, 600, 566, 567, 568, 569, 570, 571, 572] (by decide +kernel) (by decide +kernel)) (goodIn_sub (fun _ h => List.mem_append_right _ h) (by decide +kernel))
set_option maxRecDepth 20000 in
theorem gL_law_L_state : GoodIn wsL_law (va_wsS RL 135 yL_state wsL_state) := goodIn_app (goodIn_of _ (by decide +kernel)) ggL_law_L_state
set_option maxRecDepth 20000 in
theorem ggL_law_X3_state : GoodIn wsL_law wsX3_state := goodIn_r _ [525, 61, 58, 49, 198, 199, 5, 200, 281, 282, 283, 573, 574, 575, 576, 577, 578, 579, 580, 581, 582, 583, 584, 585, 586, 587, 588] (by decide +kernel) (by decide +kernel)
set_option maxRecDepth 20000 in
theorem gL_law_X3_state : GoodIn wsL_law (wsV RL 137 RX3 yX3_state wsX3_state) := goodIn_app (goodIn_of _ (by decide +kernel)) ggL_law_X3_state
set_option maxRecDepth 20000 in
theorem ggL_law_X2_apart : GoodIn wsL_law wsX2_apart := goodIn_r _ [529, 22, 566, 567, 568, 569, 570, 571, 572] (by decide +kernel) (by decide +kernel)
set_option maxRecDepth 20000 in
theorem gL_law_X2_apart : GoodIn wsL_law (wsV RL 138 RX2 yX2_apart wsX2_apart) := goodIn_app (goodIn_of _ (by decide +kernel)) ggL_law_X2_apart
set_option maxRecDepth 20000 in
theorem ggL_law_X3_apart : GoodIn wsL_law wsX3_apart := goodIn_r _ [533, 58, 67, 573, 574, 575, 576, 577, 578, 579, 580, 581, 582, 583, 584, 585, 586, 587, 588] (by decide +kernel) (by decide +kernel)
set_option maxRecDepth 20000 in
theorem gL_law_X3_apart : GoodIn wsL_law (wsV RL 141 RX3 yX3_apart wsX3_apart) := goodIn_app (goodIn_of _ (by decide +kernel)) ggL_law_X3_apart
set_option maxRecDepth 20000 in
theorem ggL_law_L_count : GoodIn wsL_law wsL_count := goodIn_ca (goodIn_r _ [536, 204, 537, 538, 539, 2, 540, 213, 214, 16, 84, 79, 171, 20, 251, 21, 541, 542, 543, 15, 544, 27, 29, 566, 567, 568, 569, 570, 571, 572, 589, 590, 591, 592, 593, 594, 595, 596, 597, 598, 599, 600] (by decide +kernel) (by decide +kernel)) (goodIn_sub (fun _ h => List.mem_append_right _ h) (by decide +kernel))
set_option maxRecDepth 20000 in
theorem gL_law_L_count : GoodIn wsL_law (va_wsS RL 142 yL_count wsL_count) := goodIn_app (goodIn_of _ (by decide +kernel)) ggL_law_L_count
set_option maxRecDepth 20000 in
theorem ggL_law_X3_count : GoodIn wsL_law wsX3_count := goodIn_r _ [548, 58, 59, 60, 61, 50, 281, 282, 5, 283, 549, 550, 551, 552, 44, 573, 574, 575, 576, 577, 578, 579, 580, 581, 582, 583, 584, 585, 586, 587, 588] (by decide +kernel) (by decide +kernel)
set_option maxRecDepth 20000 in
theorem gL_law_X3_count : GoodIn wsL_law (wsV RL 144 RX3 yX3_count wsX3_count) := goodIn_app (goodIn_of _ (by decide +kernel)) ggL_law_X3_count
set_option maxRecDepth 20000 in
theorem ggL_law_X2_clear : GoodIn wsL_law wsX2_clear := goodIn_r _ [556, 16, 20, 21, 79, 171, 557, 558, 559, 15, 560, 27, 561, 562, 563, 19, 564, 260, 182, 183, 184, 185, 2, 186, 187, 22, 188, 189, 190, 191, 192, 193, 566, 567, 568, 569, 570, 571, 572, 589, 590, 591, 592, 593, 594, 595, 596, 597, 598, 599, 600] (by decide +kernel) (by decide +kernel)
set_option maxRecDepth 20000 in
theorem gL_law_X2_clear : GoodIn wsL_law (wsV RL 145 RX2 yX2_clear wsX2_clear) := goodIn_app (goodIn_of _ (by decide +kernel)) ggL_law_X2_clear

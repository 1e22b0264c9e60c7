set_option maxRecDepth 20000 in
theorem ggL_law_X3_thrown : GoodIn wsL_law wsX3_thrown := goodIn_r _ [156, 57, 567, 568, 569, 570, 571, 572, 573, 574, 575, 576, 577, 578, 579, 580, 581, 582] (by decide +kernel) (by decide +kernel)
set_option maxRecDepth 20000 in
theorem gL_law_X3_thrown : GoodIn wsL_law (wsV RL 78 RX3 yX3_thrown wsX3_thrown) := goodIn_app (goodIn_of _ (by decide +kernel)) ggL_law_X3_thrown
set_option maxRecDepth 20000 in
theorem ggL_law_L_latch : GoodIn wsL_law wsL_latch := goodIn_ca (goodIn_ca (goodIn_r _ [159, 71, 160, 161, 162, 163, 2, 164, 76, 77, 165, 16, 20, 21, 79, 80, 81, 82, 83, 166, 167, 168, 169, 170, 171, 84, 85, 86, 15, 87, 27, 31, 88, 89, 90, 91, 92, 93, 94, 95, 96, 97, 98, 99, 100, 101, 102, 103, 104, 105, 6, 106, 107, 108, 109, 110, 111, 112, 113, 114, 115, 116, 117, 118, 119, 29, 30, 120, 121, 122, 123, 124, 125, 126, 127, 128, 129, 130, 131, 132, 133, 134, 135, 136, 137, 138, 139, 140, 141, 142, 143, 144, 172, 173, 174, 19, 175, 176, 37, 177, 178, 179, 180, 181, 22, 182, 183, 184, 185, 186, 187, 560, 561, 562, 563, 564, 565, 566, 583, 584, 585, 586, 587, 588, 589, 590, 591, 592, 593] (by decide +kernel) (by decide +kernel)) (goodIn_sub (fun _ h => List.mem_append_left _ (List.mem_append_left _ (List.mem_append_right _ h))) (by decide +kernel))) (goodIn_sub (fun _ h => List.mem_append_left _ (List.mem_append_right _ h)) (by decide +kernel))
set_option maxRecDepth 20000 in
theorem gL_law_L_latch : GoodIn wsL_law (va_wsS RL 81 yL_latch wsL_latch) := goodIn_app (goodIn_of _ (by decide +kernel)) ggL_law_L_latch
set_option maxRecDepth 20000 in
theorem ggL_law_X3_latch : GoodIn wsL_law wsX3_latch := goodIn_r _ [191, 60, 58, 57, 45, 46, 47, 192, 193, 5, 194, 149, 150, 151, 152, 44, 43, 61, 62, 63, 64, 48, 65, 66, 52, 567, 568, 569, 570, 571, 572, 573, 574, 575, 576, 577, 578, 579, 580, 581, 582] (by decide +kernel) (by decide +kernel)
set_option maxRecDepth 20000 in
theorem gL_law_X3_latch : GoodIn wsL_law (wsV RL 84 RX3 yX3_latch wsX3_latch) := goodIn_app (goodIn_of _ (by decide +kernel)) ggL_law_X3_latch
set_option maxRecDepth 20000 in
theorem ggL_law_L_and : GoodIn wsL_law wsL_and := goodIn_ca (goodIn_ca (goodIn_ca (goodIn_r _ [197, 198, 71, 160, 199, 200, 201, 2, 202, 16, 203, 204, 205, 206, 207, 208, 209, 210, 211, 212, 83, 79, 80, 81, 82, 76, 77, 213, 214, 215, 216, 170, 171, 217, 218, 219, 15, 220, 29, 221, 222, 223, 224, 27, 31, 88, 89, 90, 91, 92, 93, 94, 95, 96, 97, 98, 99, 100, 101, 102, 103, 104, 105, 6, 106, 107, 108, 109, 110, 128, 129, 130, 131, 115, 116, 117, 118, 119, 30, 120, 121, 122, 123, 124, 125, 126, 127, 132, 133, 134, 135, 136, 137, 138, 139, 140, 141, 142, 143, 144, 560, 561, 562, 563, 564, 565, 566, 583, 584, 585, 586] (by decide +kernel) (by decide +kernel)) (goodIn_sub (fun _ h => List.mem_append_right _ h) (by decide +kernel))) (goodIn_sub (fun _ h => List.mem_append_left _ (List.mem_append_left _ (List.mem_append_right _ h))) (by decide +kernel))) (goodIn_sub (fun _ h => List.mem_append_left _ (List.mem_append_right _ h)) (by decide +kernel))
set_option maxRecDepth 20000 in
theorem gL_law_L_and : GoodIn wsL_law (va_wsS RL 85 yL_and wsL_and) := goodIn_app (goodIn_of _ (by decide +kernel)) ggL_law_L_and
set_option maxRecDepth 20000 in
theorem ggL_law_X3_and : GoodIn wsL_law wsX3_and := goodIn_r _ [228, 58, 57, 229, 44, 43, 192, 193, 5, 194, 230, 231, 232, 233, 234, 235, 236, 237, 567, 568, 569, 570, 571, 572, 573, 574, 575, 576, 577, 578, 579, 580, 581, 582] (by decide +kernel) (by decide +kernel)
set_option maxRecDepth 20000 in
theorem gL_law_X3_and : GoodIn wsL_law (wsV RL 88 RX3 yX3_and wsX3_and) := goodIn_app (goodIn_of _ (by decide +kernel)) ggL_law_X3_and
set_option maxRecDepth 20000 in
theorem ggL_law_L_output : GoodIn wsL_law wsL_output := goodIn_ca (goodIn_ca (goodIn_ca (goodIn_r _ [240, 198, 71, 160, 241, 242, 243, 2, 244, 76, 77, 245, 203, 204, 205, 206, 207, 208, 209, 210, 211, 212, 16, 83, 246, 247, 248, 249, 20, 21, 213, 214, 215, 216, 170, 171, 217, 218, 219, 15, 220, 29, 250, 251, 252, 19, 253, 36, 254, 587, 588, 589, 590, 591, 592, 593, 560, 561, 562, 563, 564, 565, 566, 583, 584, 585, 586] (by decide +kernel) (by decide +kernel)) (goodIn_sub (fun _ h => List.mem_append_left _ (List.mem_append_left _ (List.mem_append_right _ h))) (by decide +kernel))) (goodIn_sub (fun _ h => List.mem_append_right _ h) (by decide +kernel))) (goodIn_sub (fun _ h => List.mem_append_left _ (List.mem_append_right _ h)) (by decide +kernel))
set_option maxRecDepth 20000 in
theorem gL_law_L_output : GoodIn wsL_law (va_wsS RL 89 yL_output wsL_output) := goodIn_app (goodIn_of _ (by decide +kernel)) ggL_law_L_output
set_option maxRecDepth 20000 in
theorem ggL_law_X3_output : GoodIn wsL_law wsX3_output := goodIn_r _ [258, 49, 57, 50, 192, 193, 5, 194, 230, 231, 232, 233, 58, 234, 235, 236, 237, 43, 567, 568, 569, 570, 571, 572, 573, 574, 575, 576, 577, 578, 579, 580, 581, 582] (by decide +kernel) (by decide +kernel)
set_option maxRecDepth 20000 in
theorem gL_law_X3_output : GoodIn wsL_law (wsV RL 91 RX3 yX3_output wsX3_output) := goodIn_app (goodIn_of _ (by decide +kernel)) ggL_law_X3_output
set_option maxRecDepth 20000 in
theorem ggL_law_L_next : GoodIn wsL_law wsL_next := goodIn_ca (goodIn_ca (goodIn_r _ [261, 198, 160, 262, 263, 264, 2, 265, 266, 203, 204, 205, 206, 207, 208, 267, 268, 269, 270, 165, 209, 210, 211, 212, 16, 83, 213, 214, 215, 216, 170, 171, 217, 218, 219, 15, 220, 29, 246, 247, 248, 249, 20, 21, 587, 588, 589, 590, 591, 592, 593, 560, 561, 562, 563, 564, 565, 566, 583, 584, 585, 586] (by decide +kernel) (by decide +kernel)) (goodIn_sub (fun _ h => List.mem_append_right _ h) (by decide +kernel))) (goodIn_sub (fun _ h => List.mem_append_left _ (List.mem_append_right _ h)) (by decide +kernel))
set_option maxRecDepth 20000 in
theorem gL_law_L_next : GoodIn wsL_law (va_wsS RL 92 yL_next wsL_next) := goodIn_app (goodIn_of _ (by decide +kernel)) ggL_law_L_next
set_option maxRecDepth 20000 in
theorem ggL_law_X3_next : GoodIn wsL_law wsX3_next := goodIn_r _ [274, 60, 57, 47, 192, 193, 5, 194, 275, 276, 277, 230, 231, 232, 233, 58, 234, 235, 236, 237, 43, 567, 568, 569, 570, 571, 572, 573, 574, 575, 576, 577, 578, 579, 580, 581, 582] (by decide +kernel) (by decide +kernel)
set_option maxRecDepth 20000 in
theorem gL_law_X3_next : GoodIn wsL_law (wsV RL 94 RX3 yX3_next wsX3_next) := goodIn_app (goodIn_of _ (by decide +kernel)) ggL_law_X3_next
set_option maxRecDepth 20000 in
theorem ggL_law_L_same : GoodIn wsL_law wsL_same := goodIn_ca (goodIn_r _ [280, 198, 281, 282, 283, 2, 284, 16, 209, 210, 211, 212, 207, 208, 83, 285, 286, 287, 15, 288, 289, 290, 291, 292, 30, 560, 561, 562, 563, 564, 565, 566, 583, 584, 585, 586] (by decide +kernel) (by decide +kernel)) (goodIn_sub (fun _ h => List.mem_append_right _ h) (by decide +kernel))
set_option maxRecDepth 20000 in
theorem gL_law_L_same : GoodIn wsL_law (va_wsS RL 95 yL_same wsL_same) := goodIn_app (goodIn_of _ (by decide +kernel)) ggL_law_L_same

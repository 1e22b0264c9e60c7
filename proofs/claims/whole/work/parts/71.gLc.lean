set_option maxRecDepth 20000 in
theorem ggL_law_X3_thrown : GoodIn wsL_law wsX3_thrown := goodIn_r _ [162, 58, 573, 574, 575, 576, 577, 578, 579, 580, 581, 582, 583, 584, 585, 586, 587, 588] (by decide +kernel) (by decide +kernel)
set_option maxRecDepth 20000 in
theorem gL_law_X3_thrown : GoodIn wsL_law (wsV RL 78 RX3 yX3_thrown wsX3_thrown) := goodIn_app (goodIn_of _ (by decide +kernel)) ggL_law_X3_thrown
set_option maxRecDepth 20000 in
theorem ggL_law_L_latch : GoodIn wsL_law wsL_latch := goodIn_ca (goodIn_ca (goodIn_r _ [165, 72, 166, 167, 168, 169, 2, 170, 77, 78, 171, 16, 20, 21, 80, 81, 82, 83, 84, 172, 173, 174, 175, 176, 177, 85, 86, 87, 15, 88, 27, 32, 89, 90, 91, 92, 93, 94, 95, 96, 97, 98, 99, 100, 101, 102, 103, 104, 105, 106, 6, 107, 108, 109, 110, 111, 112, 113, 114, 115, 116, 117, 118, 119, 120, 29, 31, 30, 121, 122, 123, 124, 125, 126, 127, 128, 129, 130, 131, 132, 133, 134, 135, 136, 137, 138, 139, 140, 141, 142, 143, 144, 145, 146, 147, 148, 149, 150, 178, 179, 180, 19, 181, 182, 38, 183, 184, 185, 186, 187, 22, 188, 189, 190, 191, 192, 193, 566, 567, 568, 569, 570, 571, 572, 589, 590, 591, 592, 593, 594, 595, 596, 597, 598, 599, 600] (by decide +kernel) (by decide +kernel)) (goodIn_sub (fun _ h => List.mem_append_left _ (List.mem_append_left _ (List.mem_append_right _ h))) (by decide +kernel))) (goodIn_sub (fun _ h => List.mem_append_left _ (List.mem_append_right _ h)) (by decide +kernel))
set_option maxRecDepth 20000 in
theorem gL_law_L_latch : GoodIn wsL_law (va_wsS RL 81 yL_latch wsL_latch) := goodIn_app (goodIn_of _ (by decide +kernel)) ggL_law_L_latch
set_option maxRecDepth 20000 in
theorem ggL_law_X3_latch : GoodIn wsL_law wsX3_latch := goodIn_r _ [197, 61, 59, 58, 46, 47, 48, 198, 199, 5, 200, 155, 156, 157, 158, 45, 44, 62, 63, 64, 65, 49, 66, 67, 53, 573, 574, 575, 576, 577, 578, 579, 580, 581, 582, 583, 584, 585, 586, 587, 588] (by decide +kernel) (by decide +kernel)
set_option maxRecDepth 20000 in
theorem gL_law_X3_latch : GoodIn wsL_law (wsV RL 84 RX3 yX3_latch wsX3_latch) := goodIn_app (goodIn_of _ (by decide +kernel)) ggL_law_X3_latch
set_option maxRecDepth 20000 in
theorem ggL_law_L_and : GoodIn wsL_law wsL_and := goodIn_ca (goodIn_ca (goodIn_ca (goodIn_r _ [203, 204, 72, 166, 205, 206, 207, 2, 208, 16, 209, 210, 211, 212, 213, 214, 215, 216, 217, 218, 84, 80, 81, 82, 83, 77, 78, 219, 220, 221, 222, 176, 177, 223, 224, 225, 15, 226, 29, 227, 228, 229, 230, 27, 32, 89, 90, 91, 92, 93, 94, 95, 96, 97, 98, 99, 100, 101, 102, 103, 104, 105, 106, 6, 107, 108, 109, 110, 111, 134, 135, 136, 137, 116, 117, 118, 119, 120, 31, 30, 121, 122, 123, 124, 125, 126, 127, 128, 129, 130, 131, 132, 133, 138, 139, 140, 141, 142, 143, 144, 145, 146, 147, 148, 149, 150, 566, 567, 568, 569, 570, 571, 572, 589, 590, 591, 592, 593] (by decide +kernel) (by decide +kernel)) (goodIn_sub (fun _ h => List.mem_append_right _ h) (by decide +kernel))) (goodIn_sub (fun _ h => List.mem_append_left _ (List.mem_append_left _ (List.mem_append_right _ h))) (by decide +kernel))) (goodIn_sub (fun _ h => List.mem_append_left _ (List.mem_append_right _ h)) (by decide +kernel))
set_option maxRecDepth 20000 in
theorem gL_law_L_and : GoodIn wsL_law (va_wsS RL 85 yL_and wsL_and) := goodIn_app (goodIn_of _ (by decide +kernel)) ggL_law_L_and
set_option maxRecDepth 20000 in
theorem ggL_law_X3_and : GoodIn wsL_law wsX3_and := goodIn_r _ [234, 59, 58, 235, 45, 44, 198, 199, 5, 200, 236, 237, 238, 239, 240, 241, 242, 243, 573, 574, 575, 576, 577, 578, 579, 580, 581, 582, 583, 584, 585, 586, 587, 588] (by decide +kernel) (by decide +kernel)
set_option maxRecDepth 20000 in
theorem gL_law_X3_and : GoodIn wsL_law (wsV RL 88 RX3 yX3_and wsX3_and) := goodIn_app (goodIn_of _ (by decide +kernel)) ggL_law_X3_and
set_option maxRecDepth 20000 in
theorem ggL_law_L_output : GoodIn wsL_law wsL_output := goodIn_ca (goodIn_ca (goodIn_ca (goodIn_r _ [246, 204, 72, 166, 247, 248, 249, 2, 250, 77, 78, 251, 209, 210, 211, 212, 213, 214, 215, 216, 217, 218, 16, 84, 252, 253, 254, 255, 20, 21, 219, 220, 221, 222, 176, 177, 223, 224, 225, 15, 226, 29, 256, 257, 258, 19, 259, 37, 260, 594, 595, 596, 597, 598, 599, 600, 566, 567, 568, 569, 570, 571, 572, 589, 590, 591, 592, 593] (by decide +kernel) (by decide +kernel)) (goodIn_sub (fun _ h => List.mem_append_left _ (List.mem_append_left _ (List.mem_append_right _ h))) (by decide +kernel))) (goodIn_sub (fun _ h => List.mem_append_right _ h) (by decide +kernel))) (goodIn_sub (fun _ h => List.mem_append_left _ (List.mem_append_right _ h)) (by decide +kernel))
set_option maxRecDepth 20000 in
theorem gL_law_L_output : GoodIn wsL_law (va_wsS RL 89 yL_output wsL_output) := goodIn_app (goodIn_of _ (by decide +kernel)) ggL_law_L_output
set_option maxRecDepth 20000 in
theorem ggL_law_X3_output : GoodIn wsL_law wsX3_output := goodIn_r _ [264, 50, 58, 51, 198, 199, 5, 200, 236, 237, 238, 239, 59, 240, 241, 242, 243, 44, 573, 574, 575, 576, 577, 578, 579, 580, 581, 582, 583, 584, 585, 586, 587, 588] (by decide +kernel) (by decide +kernel)
set_option maxRecDepth 20000 in
theorem gL_law_X3_output : GoodIn wsL_law (wsV RL 91 RX3 yX3_output wsX3_output) := goodIn_app (goodIn_of _ (by decide +kernel)) ggL_law_X3_output
set_option maxRecDepth 20000 in
theorem ggL_law_L_next : GoodIn wsL_law wsL_next := goodIn_ca (goodIn_ca (goodIn_r _ [267, 204, 166, 268, 269, 270, 2, 271, 272, 209, 210, 211, 212, 213, 214, 273, 274, 275, 276, 171, 215, 216, 217, 218, 16, 84, 219, 220, 221, 222, 176, 177, 223, 224, 225, 15, 226, 29, 252, 253, 254, 255, 20, 21, 594, 595, 596, 597, 598, 599, 600, 566, 567, 568, 569, 570, 571, 572, 589, 590, 591, 592, 593] (by decide +kernel) (by decide +kernel)) (goodIn_sub (fun _ h => List.mem_append_right _ h) (by decide +kernel))) (goodIn_sub (fun _ h => List.mem_append_left _ (List.mem_append_right _ h)) (by decide +kernel))
set_option maxRecDepth 20000 in
theorem gL_law_L_next : GoodIn wsL_law (va_wsS RL 92 yL_next wsL_next) := goodIn_app (goodIn_of _ (by decide +kernel)) ggL_law_L_next
set_option maxRecDepth 20000 in
theorem ggL_law_X3_next : GoodIn wsL_law wsX3_next := goodIn_r _ [280, 61, 58, 48, 198, 199, 5, 200, 281, 282, 283, 236, 237, 238, 239, 59, 240, 241, 242, 243, 44, 573, 574, 575, 576, 577, 578, 579, 580, 581, 582, 583, 584, 585, 586, 587, 588] (by decide +kernel) (by decide +kernel)
set_option maxRecDepth 20000 in
theorem gL_law_X3_next : GoodIn wsL_law (wsV RL 94 RX3 yX3_next wsX3_next) := goodIn_app (goodIn_of _ (by decide +kernel)) ggL_law_X3_next
set_option maxRecDepth 20000 in
theorem ggL_law_L_same : GoodIn wsL_law wsL_same := goodIn_ca (goodIn_r _ [286, 204, 287, 288, 289, 2, 290, 16, 215, 216, 217, 218, 213, 214, 84, 291, 292, 293, 15, 294, 295, 296, 297, 298, 30, 566, 567, 568, 569, 570, 571, 572, 589, 590, 591, 592, 593] (by decide +kernel) (by decide +kernel)) (goodIn_sub (fun _ h => List.mem_append_right _ h) (by decide +kernel))
set_option maxRecDepth 20000 in
theorem gL_law_L_same : GoodIn wsL_law (va_wsS RL 95 yL_same wsL_same) := goodIn_app (goodIn_of _ (by decide +kernel)) ggL_law_L_same

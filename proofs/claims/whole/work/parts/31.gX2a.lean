set_option maxRecDepth 20000 in
theorem ggX2_init_X1_init : GoodIn wsX2_init wsX1_init := goodIn_r _ [16, 17, 2, 3, 18, 19, 20, 21, 22, 23, 24, 32, 33, 34, 35, 36] (by decide +kernel) (by decide +kernel)
set_option maxRecDepth 20000 in
theorem gX2_init_X1_init : GoodIn wsX2_init (wsX1_init) := ggX2_init_X1_init
set_option maxRecDepth 20000 in
theorem ggX2_init_X0_init : GoodIn wsX2_init wsX0_init := goodIn_r _ [27, 28, 2, 3, 19, 29, 30, 31, 44, 45, 46, 47, 48, 49, 50] (by decide +kernel) (by decide +kernel)
set_option maxRecDepth 20000 in
theorem gX2_init_X0_init : GoodIn wsX2_init (wsX0_init) := ggX2_init_X0_init
set_option maxRecDepth 20000 in
theorem ggX2_input_X2_needRoomForNode : GoodIn wsX2_input wsX2_needRoomForNode := goodIn_ca (goodIn_r _ [9, 1, 2, 4, 10, 84, 85, 86, 87, 88, 89, 90, 91, 92, 93, 94, 95] (by decide +kernel) (by decide +kernel)) (goodIn_sub (fun _ h => List.mem_cons_of_mem _ (List.mem_append_right _ h)) (by decide +kernel))
set_option maxRecDepth 20000 in
theorem gX2_input_X2_needRoomForNode : GoodIn wsX2_input (wsV RX2 40 RX2 yX2_needRoomForNode wsX2_needRoomForNode) := goodIn_app (goodIn_of _ (by decide +kernel)) ggX2_input_X2_needRoomForNode
set_option maxRecDepth 20000 in
theorem ggX2_input_X1_addVariable : GoodIn wsX2_input wsX1_addVariable := goodIn_r _ [15, 16, 17, 18, 19, 20, 14, 21, 22, 23, 24, 25, 26, 27, 28, 29, 30, 31, 32, 33, 34, 35, 36, 37, 38, 39, 40, 41, 42, 43, 44, 45, 46, 47, 48, 49, 50, 51, 52, 53, 54, 55, 56, 57, 58, 59, 60, 61, 62, 63, 64, 65, 66, 67, 68, 69, 70, 71, 72, 73, 74, 75, 76, 77, 78, 79, 80, 81, 82, 83, 91, 92, 93, 94, 95] (by decide +kernel) (by decide +kernel)
set_option maxRecDepth 20000 in
theorem gX2_input_X1_addVariable : GoodIn wsX2_input (wsV RX2 43 RX1 yX1_addVariable wsX1_addVariable) := goodIn_app (goodIn_of _ (by decide +kernel)) ggX2_input_X1_addVariable
set_option maxRecDepth 20000 in
theorem ggX2_latch_X2_needRoomForNode : GoodIn wsX2_latch wsX2_needRoomForNode := goodIn_ca (goodIn_r _ [11, 1, 2, 4, 12, 111, 112, 113, 114, 115, 116, 117, 118, 119, 120, 121, 122] (by decide +kernel) (by decide +kernel)) (goodIn_sub (fun _ h => List.mem_cons_of_mem _ (List.mem_append_left _ (List.mem_append_right _ h))) (by decide +kernel))
set_option maxRecDepth 20000 in
theorem gX2_latch_X2_needRoomForNode : GoodIn wsX2_latch (wsV RX2 40 RX2 yX2_needRoomForNode wsX2_needRoomForNode) := goodIn_app (goodIn_of _ (by decide +kernel)) ggX2_latch_X2_needRoomForNode
set_option maxRecDepth 20000 in
theorem ggX2_latch_X2_needStart : GoodIn wsX2_latch wsX2_needStart := goodIn_ca (goodIn_r _ [16, 17, 18] (by decide +kernel) (by decide +kernel)) (goodIn_sub (fun _ h => List.mem_cons_of_mem _ (List.mem_append_right _ h)) (by decide +kernel))
set_option maxRecDepth 20000 in
theorem gX2_latch_X2_needStart : GoodIn wsX2_latch (wsV RX2 52 RX2 yX2_needStart wsX2_needStart) := goodIn_app (goodIn_of _ (by decide +kernel)) ggX2_latch_X2_needStart
set_option maxRecDepth 20000 in
theorem ggX2_latch_X1_addVariable : GoodIn wsX2_latch wsX1_addVariable := goodIn_r _ [23, 24, 25, 26, 27, 28, 22, 29, 30, 31, 32, 33, 34, 35, 36, 37, 38, 39, 40, 41, 42, 43, 44, 45, 46, 47, 48, 49, 50, 51, 52, 53, 54, 55, 56, 57, 58, 59, 60, 61, 62, 63, 64, 65, 66, 67, 68, 69, 70, 71, 72, 73, 74, 75, 76, 77, 78, 79, 80, 81, 82, 83, 84, 85, 86, 87, 88, 89, 90, 91, 118, 119, 120, 121, 122] (by decide +kernel) (by decide +kernel)
set_option maxRecDepth 20000 in
theorem gX2_latch_X1_addVariable : GoodIn wsX2_latch (wsV RX2 43 RX1 yX1_addVariable wsX1_addVariable) := goodIn_app (goodIn_of _ (by decide +kernel)) ggX2_latch_X1_addVariable
set_option maxRecDepth 20000 in
theorem ggX2_latch_X0_addLatch : GoodIn wsX2_latch wsX0_addLatch := goodIn_r _ [96, 97, 98, 123, 124, 125, 126, 127, 128, 129] (by decide +kernel) (by decide +kernel)
set_option maxRecDepth 20000 in
theorem gX2_latch_X0_addLatch : GoodIn wsX2_latch (wsV RX2 56 RX0 yX0_addLatch wsX0_addLatch) := goodIn_app (goodIn_of _ (by decide +kernel)) ggX2_latch_X0_addLatch
set_option maxRecDepth 20000 in
theorem ggX2_latch_X2_backToStarts : GoodIn wsX2_latch wsX2_backToStarts := goodIn_r _ [102, 5, 6, 103, 104, 105, 106, 107, 95, 108, 97, 109, 110, 111, 112, 113, 114, 115, 116, 117, 123, 124, 125, 126, 127, 128, 129] (by decide +kernel) (by decide +kernel)
set_option maxRecDepth 20000 in
theorem gX2_latch_X2_backToStarts : GoodIn wsX2_latch (wsV RX2 60 RX2 yX2_backToStarts wsX2_backToStarts) := goodIn_app (goodIn_of _ (by decide +kernel)) ggX2_latch_X2_backToStarts
set_option maxRecDepth 20000 in
theorem ggX2_and_X2_needSide : GoodIn wsX2_and wsX2_needSide := goodIn_ca (goodIn_r _ [6, 7, 8] (by decide +kernel) (by decide +kernel)) (goodIn_sub (fun _ h => List.mem_cons_of_mem _ (List.mem_append_left _ (List.mem_append_left _ (List.mem_append_right _ h)))) (by decide +kernel))
set_option maxRecDepth 20000 in
theorem gX2_and_X2_needSide : GoodIn wsX2_and (wsV RX2 63 RX2 yX2_needSide wsX2_needSide) := goodIn_app (goodIn_of _ (by decide +kernel)) ggX2_and_X2_needSide
set_option maxRecDepth 20000 in
theorem ggX2_and_X2_needLiteral : GoodIn wsX2_and wsX2_needLiteral := goodIn_ca (goodIn_r _ [12, 7, 8, 1, 13, 99, 100, 101, 102, 103, 104, 105, 106, 107, 108, 109, 110] (by decide +kernel) (by decide +kernel)) (goodIn_sub (fun _ h => List.mem_cons_of_mem _ (List.mem_append_left _ (List.mem_append_left _ (List.mem_append_right _ h)))) (by decide +kernel))
set_option maxRecDepth 20000 in
theorem gX2_and_X2_needLiteral : GoodIn wsX2_and (wsV RX2 66 RX2 yX2_needLiteral wsX2_needLiteral) := goodIn_app (goodIn_of _ (by decide +kernel)) ggX2_and_X2_needLiteral
set_option maxRecDepth 20000 in
theorem ggX2_and_X2_needRoomForNode : GoodIn wsX2_and wsX2_needRoomForNode := goodIn_ca (goodIn_r _ [17, 18, 19, 1, 13, 99, 100, 101, 102, 103, 104, 105, 106, 107, 108, 109, 110] (by decide +kernel) (by decide +kernel)) (goodIn_sub (fun _ h => List.mem_cons_of_mem _ (List.mem_append_left _ (List.mem_append_right _ h))) (by decide +kernel))
set_option maxRecDepth 20000 in
theorem gX2_and_X2_needRoomForNode : GoodIn wsX2_and (wsV RX2 40 RX2 yX2_needRoomForNode wsX2_needRoomForNode) := goodIn_app (goodIn_of _ (by decide +kernel)) ggX2_and_X2_needRoomForNode
set_option maxRecDepth 20000 in
theorem ggX2_and_X2_needOwn : GoodIn wsX2_and wsX2_needOwn := goodIn_ca (goodIn_r _ [23, 24, 25, 1, 26, 27, 28, 29, 30, 31, 99, 100, 101, 102, 103, 104, 105, 106, 107, 108, 109, 110] (by decide +kernel) (by decide +kernel)) (goodIn_sub (fun _ h => List.mem_cons_of_mem _ (List.mem_append_right _ h)) (by decide +kernel))
set_option maxRecDepth 20000 in
theorem gX2_and_X2_needOwn : GoodIn wsX2_and (wsV RX2 69 RX2 yX2_needOwn wsX2_needOwn) := goodIn_app (goodIn_of _ (by decide +kernel)) ggX2_and_X2_needOwn
set_option maxRecDepth 20000 in
theorem ggX2_and_X1_addAnd : GoodIn wsX2_and wsX1_addAnd := goodIn_r _ [35, 36, 37, 38, 39, 40, 29, 41, 42, 43, 44, 45, 46, 47, 48, 49, 50, 51, 52, 53, 54, 55, 56, 57, 58, 59, 60, 61, 62, 63, 64, 65, 66, 67, 68, 69, 70, 31, 71, 72, 73, 74, 75, 76, 77, 78, 79, 80, 81, 82, 83, 84, 85, 86, 87, 88, 89, 90, 91, 92, 93, 94, 95, 96, 97, 98, 106, 107, 108, 109, 110] (by decide +kernel) (by decide +kernel)
set_option maxRecDepth 20000 in
theorem gX2_and_X1_addAnd : GoodIn wsX2_and (wsV RX2 73 RX1 yX1_addAnd wsX1_addAnd) := goodIn_app (goodIn_of _ (by decide +kernel)) ggX2_and_X1_addAnd
set_option maxRecDepth 20000 in
theorem ggX2_output_X2_needSide : GoodIn wsX2_output wsX2_needSide := goodIn_ca (goodIn_r _ [8, 9, 10] (by decide +kernel) (by decide +kernel)) (goodIn_sub (fun _ h => List.mem_cons_of_mem _ (List.mem_append_left _ (List.mem_append_right _ h))) (by decide +kernel))
set_option maxRecDepth 20000 in
theorem gX2_output_X2_needSide : GoodIn wsX2_output (wsV RX2 63 RX2 yX2_needSide wsX2_needSide) := goodIn_app (goodIn_of _ (by decide +kernel)) ggX2_output_X2_needSide
set_option maxRecDepth 20000 in
theorem ggX2_output_X2_needLiteral : GoodIn wsX2_output wsX2_needLiteral := goodIn_ca (goodIn_r _ [14, 9, 10, 15, 16, 49, 50, 51, 52, 53, 54, 55, 56, 57, 58, 59, 60] (by decide +kernel) (by decide +kernel)) (goodIn_sub (fun _ h => List.mem_cons_of_mem _ (List.mem_append_left _ (List.mem_append_right _ h))) (by decide +kernel))
set_option maxRecDepth 20000 in
theorem gX2_output_X2_needLiteral : GoodIn wsX2_output (wsV RX2 66 RX2 yX2_needLiteral wsX2_needLiteral) := goodIn_app (goodIn_of _ (by decide +kernel)) ggX2_output_X2_needLiteral
set_option maxRecDepth 20000 in
theorem ggX2_output_X2_designOf : GoodIn wsX2_output wsX2_designOf := goodIn_r _ [20, 21, 22, 49, 50, 51, 52, 53, 54, 55] (by decide +kernel) (by decide +kernel)
set_option maxRecDepth 20000 in
theorem gX2_output_X2_designOf : GoodIn wsX2_output (wsV RX2 77 RX2 yX2_designOf wsX2_designOf) := goodIn_app (goodIn_of _ (by decide +kernel)) ggX2_output_X2_designOf
set_option maxRecDepth 20000 in
theorem ggX2_output_X2_needOwn : GoodIn wsX2_output wsX2_needOwn := goodIn_ca (goodIn_r _ [26, 27, 28, 15, 29, 30, 31, 32, 33, 34, 49, 50, 51, 52, 53, 54, 55, 56, 57, 58, 59, 60] (by decide +kernel) (by decide +kernel)) (goodIn_sub (fun _ h => List.mem_cons_of_mem _ (List.mem_append_right _ h)) (by decide +kernel))
set_option maxRecDepth 20000 in
theorem gX2_output_X2_needOwn : GoodIn wsX2_output (wsV RX2 69 RX2 yX2_needOwn wsX2_needOwn) := goodIn_app (goodIn_of _ (by decide +kernel)) ggX2_output_X2_needOwn
set_option maxRecDepth 20000 in
theorem ggX2_output_X0_addOutput : GoodIn wsX2_output wsX0_addOutput := goodIn_r _ [39, 40, 41, 42, 43, 44, 45, 46, 47, 48] (by decide +kernel) (by decide +kernel)
set_option maxRecDepth 20000 in
theorem gX2_output_X0_addOutput : GoodIn wsX2_output (wsV RX2 86 RX0 yX0_addOutput wsX0_addOutput) := goodIn_app (goodIn_of _ (by decide +kernel)) ggX2_output_X0_addOutput
set_option maxRecDepth 20000 in
theorem ggX2_next_X2_needSide : GoodIn wsX2_next wsX2_needSide := goodIn_ca (goodIn_r _ [6, 7, 8] (by decide +kernel) (by decide +kernel)) (goodIn_sub (fun _ h => List.mem_cons_of_mem _ (List.mem_append_left _ (List.mem_append_right _ h))) (by decide +kernel))
set_option maxRecDepth 20000 in
theorem gX2_next_X2_needSide : GoodIn wsX2_next (wsV RX2 63 RX2 yX2_needSide wsX2_needSide) := goodIn_app (goodIn_of _ (by decide +kernel)) ggX2_next_X2_needSide

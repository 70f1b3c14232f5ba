theorem wsL_law_in : ∀ w ∈ wsL_law, w ∈ lw_tbl := List.forall_mem_append.mpr ⟨List.forall_mem_append.mpr ⟨List.forall_mem_append.mpr ⟨wl_r, wl_x0⟩, wl_x1⟩, fun _ h => absurd h List.not_mem_nil⟩
set_option maxRecDepth 20000 in
theorem ggL_law_X0_init : GoodIn wsL_law wsX0_init := goodIn_r _ [8, 9, 10, 11, 12, 13, 14, 15, 16, 17, 18, 19, 20, 21, 2, 22, 23, 24, 25, 26, 27, 28, 29, 30, 456, 457, 458, 459, 460, 461, 462, 463, 464, 465, 466, 467] (by decide +kernel) (by decide +kernel)
set_option maxRecDepth 20000 in
theorem gL_law_X0_init : GoodIn wsL_law (wsX0_init) := ggL_law_X0_init
set_option maxRecDepth 20000 in
theorem ggL_law_X1_init : GoodIn wsL_law wsX1_init := goodIn_r _ [33, 34, 10, 11, 12, 35, 36, 37, 38, 39, 40, 41, 42, 43, 44, 45, 5, 46, 47, 48, 49, 468, 469, 470, 471, 472, 473, 474, 475, 476, 477, 478, 479, 480] (by decide +kernel) (by decide +kernel)
set_option maxRecDepth 20000 in
theorem gL_law_X1_init : GoodIn wsL_law (wsX1_init) := ggL_law_X1_init
set_option maxRecDepth 20000 in
theorem ggL_law_X0_board : GoodIn wsL_law wsX0_board := goodIn_r _ [53, 54, 55, 2, 56, 19, 20, 21, 22, 23, 24, 25, 13, 14, 15, 26, 27, 28, 29, 30, 456, 457, 458, 459, 460, 461, 462, 463, 464, 465, 466, 467] (by decide +kernel) (by decide +kernel)
set_option maxRecDepth 20000 in
theorem gL_law_X0_board : GoodIn wsL_law (wsV RL 13 RX0 yX0_board wsX0_board) := goodIn_app (goodIn_of _ (by decide +kernel)) ggL_law_X0_board
set_option maxRecDepth 20000 in
theorem ggL_law_X1_board : GoodIn wsL_law wsX1_board := goodIn_r _ [60, 61, 62, 5, 63, 43, 44, 45, 46, 47, 48, 49, 35, 36, 38, 39, 468, 469, 470, 471, 472, 473, 474, 475, 476, 477, 478, 479, 480] (by decide +kernel) (by decide +kernel)
set_option maxRecDepth 20000 in
theorem gL_law_X1_board : GoodIn wsL_law (wsV RL 17 RX1 yX1_board wsX1_board) := goodIn_app (goodIn_of _ (by decide +kernel)) ggL_law_X1_board
set_option maxRecDepth 20000 in
theorem ggL_law_X0_set : GoodIn wsL_law wsX0_set := goodIn_r _ [67, 13, 68, 69, 70, 2, 71, 23, 24, 54, 55, 56, 72, 73, 74, 75, 76, 77, 78, 456, 457, 458, 459, 460, 461, 462, 463, 464, 465, 466, 467] (by decide +kernel) (by decide +kernel)
set_option maxRecDepth 20000 in
theorem gL_law_X0_set : GoodIn wsL_law (wsV RL 18 RX0 yX0_set wsX0_set) := goodIn_app (goodIn_of _ (by decide +kernel)) ggL_law_X0_set
set_option maxRecDepth 20000 in
theorem ggL_law_X1_set : GoodIn wsL_law wsX1_set := goodIn_r _ [82, 35, 83, 84, 85, 5, 86, 47, 48, 61, 62, 63, 468, 469, 470, 471, 472, 473, 474, 475, 476, 477, 478, 479, 480] (by decide +kernel) (by decide +kernel)
set_option maxRecDepth 20000 in
theorem gL_law_X1_set : GoodIn wsL_law (wsV RL 21 RX1 yX1_set wsX1_set) := goodIn_app (goodIn_of _ (by decide +kernel)) ggL_law_X1_set
set_option maxRecDepth 20000 in
theorem ggL_law_X0_at : GoodIn wsL_law wsX0_at := goodIn_r _ [90, 68, 69, 70, 2, 71, 23, 24, 54, 55, 56, 72, 73, 74, 75, 13, 76, 77, 78, 91, 92, 93, 94, 25, 95, 96, 97, 98, 14, 99, 100, 101, 102, 103, 104, 105, 106, 107, 108, 109, 110, 111, 112, 113, 114, 115, 116, 117, 118, 119, 120, 121, 456, 457, 458, 459, 460, 461, 462, 463, 464, 465, 466, 467] (by decide +kernel) (by decide +kernel)
set_option maxRecDepth 20000 in
theorem gL_law_X0_at : GoodIn wsL_law (wsV RL 22 RX0 yX0_at wsX0_at) := goodIn_app (goodIn_of _ (by decide +kernel)) ggL_law_X0_at
set_option maxRecDepth 20000 in
theorem ggL_law_X1_at : GoodIn wsL_law wsX1_at := goodIn_r _ [125, 35, 83, 84, 85, 5, 86, 47, 48, 61, 62, 63, 126, 127, 128, 129, 49, 130, 131, 132, 133, 36, 134, 135, 136, 137, 138, 139, 140, 141, 42, 142, 143, 144, 468, 469, 470, 471, 472, 473, 474, 475, 476, 477, 478, 479, 480] (by decide +kernel) (by decide +kernel)
set_option maxRecDepth 20000 in
theorem gL_law_X1_at : GoodIn wsL_law (wsV RL 25 RX1 yX1_at wsX1_at) := goodIn_app (goodIn_of _ (by decide +kernel)) ggL_law_X1_at
set_option maxRecDepth 20000 in
theorem ggL_law_X0_number : GoodIn wsL_law wsX0_number := goodIn_r _ [148, 14, 149, 150, 151, 2, 152, 153, 154, 155, 156, 25, 54, 55, 56, 157, 158, 159, 160, 23, 24, 161, 162, 163, 456, 457, 458, 459, 460, 461, 462, 463, 464, 465, 466, 467] (by decide +kernel) (by decide +kernel)
set_option maxRecDepth 20000 in
theorem gL_law_X0_number : GoodIn wsL_law (wsV RL 26 RX0 yX0_number wsX0_number) := goodIn_app (goodIn_of _ (by decide +kernel)) ggL_law_X0_number
set_option maxRecDepth 20000 in
theorem ggL_law_X1_number : GoodIn wsL_law wsX1_number := goodIn_r _ [167, 36, 168, 169, 170, 5, 171, 47, 48, 172, 173, 174, 175, 49, 61, 62, 63, 468, 469, 470, 471, 472, 473, 474, 475, 476, 477, 478, 479, 480] (by decide +kernel) (by decide +kernel)
set_option maxRecDepth 20000 in
theorem gL_law_X1_number : GoodIn wsL_law (wsV RL 29 RX1 yX1_number wsX1_number) := goodIn_app (goodIn_of _ (by decide +kernel)) ggL_law_X1_number
set_option maxRecDepth 20000 in
theorem ggL_law_X0_begin : GoodIn wsL_law wsX0_begin := goodIn_r _ [179, 14, 149, 150, 151, 2, 152, 153, 154, 155, 156, 25, 54, 55, 56, 157, 158, 159, 160, 23, 24, 161, 162, 163, 180, 181, 182, 183, 26, 456, 457, 458, 459, 460, 461, 462, 463, 464, 465, 466, 467] (by decide +kernel) (by decide +kernel)
set_option maxRecDepth 20000 in
theorem gL_law_X0_begin : GoodIn wsL_law (wsV RL 30 RX0 yX0_begin wsX0_begin) := goodIn_app (goodIn_of _ (by decide +kernel)) ggL_law_X0_begin
set_option maxRecDepth 20000 in
theorem ggL_law_X1_begin : GoodIn wsL_law wsX1_begin := goodIn_r _ [187, 38, 36, 168, 169, 170, 5, 171, 47, 48, 172, 173, 174, 175, 49, 61, 62, 63, 468, 469, 470, 471, 472, 473, 474, 475, 476, 477, 478, 479, 480] (by decide +kernel) (by decide +kernel)
set_option maxRecDepth 20000 in
theorem gL_law_X1_begin : GoodIn wsL_law (wsV RL 34 RX1 yX1_begin wsX1_begin) := goodIn_app (goodIn_of _ (by decide +kernel)) ggL_law_X1_begin
set_option maxRecDepth 20000 in
theorem ggL_law_X0_bar : GoodIn wsL_law wsX0_bar := goodIn_r _ [191, 14, 26, 149, 150, 151, 2, 152, 153, 154, 155, 156, 25, 54, 55, 56, 157, 158, 159, 160, 23, 24, 161, 162, 163, 180, 181, 182, 183, 456, 457, 458, 459, 460, 461, 462, 463, 464, 465, 466, 467] (by decide +kernel) (by decide +kernel)
set_option maxRecDepth 20000 in
theorem gL_law_X0_bar : GoodIn wsL_law (wsV RL 35 RX0 yX0_bar wsX0_bar) := goodIn_app (goodIn_of _ (by decide +kernel)) ggL_law_X0_bar
set_option maxRecDepth 20000 in
theorem ggL_law_X1_bar : GoodIn wsL_law wsX1_bar := goodIn_r _ [195, 38, 36, 168, 169, 170, 5, 171, 47, 48, 172, 173, 174, 175, 49, 61, 62, 63, 468, 469, 470, 471, 472, 473, 474, 475, 476, 477, 478, 479, 480] (by decide +kernel) (by decide +kernel)
set_option maxRecDepth 20000 in
theorem gL_law_X1_bar : GoodIn wsL_law (wsV RL 38 RX1 yX1_bar wsX1_bar) := goodIn_app (goodIn_of _ (by decide +kernel)) ggL_law_X1_bar
set_option maxRecDepth 20000 in
theorem ggL_law_X0_judge : GoodIn wsL_law wsX0_judge := goodIn_r _ [199, 18, 200, 201, 2, 202, 54, 55, 56, 456, 457, 458, 459, 460, 461, 462, 463, 464, 465, 466, 467] (by decide +kernel) (by decide +kernel)
set_option maxRecDepth 20000 in
theorem gL_law_X0_judge : GoodIn wsL_law (wsV RL 39 RX0 yX0_judge wsX0_judge) := goodIn_app (goodIn_of _ (by decide +kernel)) ggL_law_X0_judge
set_option maxRecDepth 20000 in
theorem ggL_law_X1_judge : GoodIn wsL_law wsX1_judge := goodIn_r _ [206, 207, 61, 62, 5, 63, 468, 469, 470, 471, 472, 473, 474, 475, 476, 477, 478, 479, 480] (by decide +kernel) (by decide +kernel)
set_option maxRecDepth 20000 in
theorem gL_law_X1_judge : GoodIn wsL_law (wsV RL 43 RX1 yX1_judge wsX1_judge) := goodIn_app (goodIn_of _ (by decide +kernel)) ggL_law_X1_judge
set_option maxRecDepth 20000 in
theorem ggL_law_X0_cost : GoodIn wsL_law wsX0_cost := goodIn_r _ [211, 212, 200, 201, 2, 202, 54, 55, 56, 213, 214, 215, 216, 217, 218, 456, 457, 458, 459, 460, 461, 462, 463, 464, 465, 466, 467] (by decide +kernel) (by decide +kernel)
set_option maxRecDepth 20000 in
theorem gL_law_X0_cost : GoodIn wsL_law (wsV RL 44 RX0 yX0_cost wsX0_cost) := goodIn_app (goodIn_of _ (by decide +kernel)) ggL_law_X0_cost
set_option maxRecDepth 20000 in
theorem ggL_law_X1_cost : GoodIn wsL_law wsX1_cost := goodIn_r _ [222, 223, 224, 225, 61, 62, 5, 63, 226, 227, 228, 468, 469, 470, 471, 472, 473, 474, 475, 476, 477, 478, 479, 480] (by decide +kernel) (by decide +kernel)
set_option maxRecDepth 20000 in
theorem gL_law_X1_cost : GoodIn wsL_law (wsV RL 48 RX1 yX1_cost wsX1_cost) := goodIn_app (goodIn_of _ (by decide +kernel)) ggL_law_X1_cost
set_option maxRecDepth 20000 in
theorem ggL_law_X0_miss : GoodIn wsL_law wsX0_miss := goodIn_r _ [232, 23, 233, 234, 235, 2, 236, 157, 158, 159, 160, 24, 237, 238, 239, 240, 18, 107, 108, 109, 110, 72, 73, 74, 75, 13, 76, 77, 78, 91, 92, 93, 94, 25, 95, 96, 97, 98, 14, 216, 217, 218, 456, 457, 458, 459, 460, 461, 462, 463, 464, 465, 466, 467] (by decide +kernel) (by decide +kernel)
set_option maxRecDepth 20000 in
theorem gL_law_X0_miss : GoodIn wsL_law (wsV RL 49 RX0 yX0_miss wsX0_miss) := goodIn_app (goodIn_of _ (by decide +kernel)) ggL_law_X0_miss
set_option maxRecDepth 20000 in
theorem ggL_law_X1_miss : GoodIn wsL_law wsX1_miss := goodIn_r _ [244, 245, 246, 247, 5, 248, 47, 48, 207, 35, 126, 127, 128, 129, 49, 130, 131, 132, 133, 36, 142, 143, 144, 226, 227, 228, 468, 469, 470, 471, 472, 473, 474, 475, 476, 477, 478, 479, 480] (by decide +kernel) (by decide +kernel)
set_option maxRecDepth 20000 in
theorem gL_law_X1_miss : GoodIn wsL_law (wsV RL 53 RX1 yX1_miss wsX1_miss) := goodIn_app (goodIn_of _ (by decide +kernel)) ggL_law_X1_miss
set_option maxRecDepth 20000 in
theorem ggL_law_X0_rounds : GoodIn wsL_law wsX0_rounds := goodIn_r _ [252, 253, 54, 55, 2, 56, 254, 255, 256, 257, 25, 157, 158, 159, 160, 23, 24, 258, 259, 260, 261, 14, 161, 162, 163, 180, 181, 182, 183, 26, 233, 234, 235, 236, 237, 238, 239, 240, 18, 107, 108, 109, 110, 72, 73, 74, 75, 13, 76, 77, 78, 91, 92, 93, 94, 95, 96, 97, 98, 216, 217, 218, 262, 230, 231, 232, 456, 457, 458, 459, 460, 461, 462, 463, 464, 465, 466, 467] (by decide +kernel) (by decide +kernel)
set_option maxRecDepth 20000 in
theorem gL_law_X0_rounds : GoodIn wsL_law (wsV RL 54 RX0 yX0_rounds wsX0_rounds) := goodIn_app (goodIn_of _ (by decide +kernel)) ggL_law_X0_rounds
set_option maxRecDepth 20000 in
theorem ggL_law_X1_rounds : GoodIn wsL_law wsX1_rounds := goodIn_r _ [266, 49, 47, 48, 267, 61, 62, 5, 63, 268, 269, 270, 271, 38, 36, 245, 246, 247, 248, 207, 35, 126, 127, 128, 129, 130, 131, 132, 133, 142, 143, 144, 226, 227, 228, 468, 469, 470, 471, 472, 473, 474, 475, 476, 477, 478, 479, 480] (by decide +kernel) (by decide +kernel)
set_option maxRecDepth 20000 in
theorem gL_law_X1_rounds : GoodIn wsL_law (wsV RL 57 RX1 yX1_rounds wsX1_rounds) := goodIn_app (goodIn_of _ (by decide +kernel)) ggL_law_X1_rounds
set_option maxRecDepth 20000 in
theorem ggL_law_X0_share : GoodIn wsL_law wsX0_share := goodIn_r _ [275, 153, 154, 155, 2, 156, 25, 54, 55, 56, 68, 69, 70, 71, 23, 24, 276, 277, 278, 279, 72, 73, 74, 75, 13, 76, 77, 78, 91, 92, 93, 94, 95, 96, 97, 98, 14, 456, 457, 458, 459, 460, 461, 462, 463, 464, 465, 466, 467] (by decide +kernel) (by decide +kernel)
set_option maxRecDepth 20000 in
theorem gL_law_X0_share : GoodIn wsL_law (wsV RL 58 RX0 yX0_share wsX0_share) := goodIn_app (goodIn_of _ (by decide +kernel)) ggL_law_X0_share
set_option maxRecDepth 20000 in
theorem ggL_law_X1_share : GoodIn wsL_law wsX1_share := goodIn_r _ [283, 172, 173, 174, 5, 175, 49, 61, 62, 63, 83, 84, 85, 86, 47, 48, 284, 285, 286, 287, 35, 126, 127, 128, 129, 130, 131, 132, 133, 36, 468, 469, 470, 471, 472, 473, 474, 475, 476, 477, 478, 479, 480] (by decide +kernel) (by decide +kernel)
set_option maxRecDepth 20000 in
theorem gL_law_X1_share : GoodIn wsL_law (wsV RL 61 RX1 yX1_share wsX1_share) := goodIn_app (goodIn_of _ (by decide +kernel)) ggL_law_X1_share
set_option maxRecDepth 20000 in
theorem ggL_law_X0_background : GoodIn wsL_law wsX0_background := goodIn_r _ [291, 24, 54, 55, 2, 56, 68, 69, 70, 71, 23, 111, 112, 113, 114, 115, 116, 117, 118, 119, 120, 121, 72, 73, 74, 75, 13, 76, 77, 78, 456, 457, 458, 459, 460, 461, 462, 463, 464, 465, 466, 467] (by decide +kernel) (by decide +kernel)
set_option maxRecDepth 20000 in
theorem gL_law_X0_background : GoodIn wsL_law (wsV RL 62 RX0 yX0_background wsX0_background) := goodIn_app (goodIn_of _ (by decide +kernel)) ggL_law_X0_background
set_option maxRecDepth 20000 in
theorem ggL_law_X1_background : GoodIn wsL_law wsX1_background := goodIn_r _ [295, 48, 61, 62, 5, 63, 83, 84, 85, 86, 47, 138, 139, 140, 141, 35, 42, 468, 469, 470, 471, 472, 473, 474, 475, 476, 477, 478, 479, 480] (by decide +kernel) (by decide +kernel)
set_option maxRecDepth 20000 in
theorem gL_law_X1_background : GoodIn wsL_law (wsV RL 65 RX1 yX1_background wsX1_background) := goodIn_app (goodIn_of _ (by decide +kernel)) ggL_law_X1_background
set_option maxRecDepth 20000 in
theorem ggL_law_X0_period : GoodIn wsL_law wsX0_period := goodIn_r _ [299, 99, 100, 101, 2, 102, 24, 103, 104, 105, 106, 23, 107, 108, 109, 110, 72, 73, 74, 75, 13, 76, 77, 78, 111, 112, 113, 114, 115, 116, 117, 118, 119, 120, 121, 456, 457, 458, 459, 460, 461, 462, 463, 464, 465, 466, 467] (by decide +kernel) (by decide +kernel)
set_option maxRecDepth 20000 in
theorem gL_law_X0_period : GoodIn wsL_law (wsV RL 66 RX0 yX0_period wsX0_period) := goodIn_app (goodIn_of _ (by decide +kernel)) ggL_law_X0_period
set_option maxRecDepth 20000 in
theorem ggL_law_X1_period : GoodIn wsL_law wsX1_period := goodIn_r _ [303, 134, 135, 136, 5, 137, 48, 47, 35, 138, 139, 140, 141, 42, 142, 143, 144, 468, 469, 470, 471, 472, 473, 474, 475, 476, 477, 478, 479, 480] (by decide +kernel) (by decide +kernel)
set_option maxRecDepth 20000 in
theorem gL_law_X1_period : GoodIn wsL_law (wsV RL 69 RX1 yX1_period wsX1_period) := goodIn_app (goodIn_of _ (by decide +kernel)) ggL_law_X1_period
set_option maxRecDepth 20000 in
theorem ggL_law_X0_hear : GoodIn wsL_law wsX0_hear := goodIn_r _ [307, 17, 16, 308, 309, 2, 310, 54, 55, 56, 456, 457, 458, 459, 460, 461, 462, 463, 464, 465, 466, 467] (by decide +kernel) (by decide +kernel)
set_option maxRecDepth 20000 in
theorem gL_law_X0_hear : GoodIn wsL_law (wsV RL 70 RX0 yX0_hear wsX0_hear) := goodIn_app (goodIn_of _ (by decide +kernel)) ggL_law_X0_hear
set_option maxRecDepth 20000 in
theorem ggL_law_X1_hear : GoodIn wsL_law wsX1_hear := goodIn_r _ [314, 40, 41, 61, 62, 5, 63, 468, 469, 470, 471, 472, 473, 474, 475, 476, 477, 478, 479, 480] (by decide +kernel) (by decide +kernel)
set_option maxRecDepth 20000 in
theorem gL_law_X1_hear : GoodIn wsL_law (wsV RL 73 RX1 yX1_hear wsX1_hear) := goodIn_app (goodIn_of _ (by decide +kernel)) ggL_law_X1_hear
set_option maxRecDepth 20000 in
theorem ggL_law_X0_clear : GoodIn wsL_law wsX0_clear := goodIn_r _ [318, 17, 308, 309, 2, 310, 54, 55, 56, 456, 457, 458, 459, 460, 461, 462, 463, 464, 465, 466, 467] (by decide +kernel) (by decide +kernel)
set_option maxRecDepth 20000 in
theorem gL_law_X0_clear : GoodIn wsL_law (wsV RL 74 RX0 yX0_clear wsX0_clear) := goodIn_app (goodIn_of _ (by decide +kernel)) ggL_law_X0_clear
set_option maxRecDepth 20000 in
theorem ggL_law_X1_clear : GoodIn wsL_law wsX1_clear := goodIn_r _ [322, 40, 61, 62, 5, 63, 468, 469, 470, 471, 472, 473, 474, 475, 476, 477, 478, 479, 480] (by decide +kernel) (by decide +kernel)
set_option maxRecDepth 20000 in
theorem gL_law_X1_clear : GoodIn wsL_law (wsV RL 77 RX1 yX1_clear wsX1_clear) := goodIn_app (goodIn_of _ (by decide +kernel)) ggL_law_X1_clear
set_option maxRecDepth 20000 in
theorem ggL_law_X0_later : GoodIn wsL_law wsX0_later := goodIn_r _ [326, 17, 107, 108, 109, 110, 327, 328, 329, 2, 330, 16, 54, 55, 56, 456, 457, 458, 459, 460, 461, 462, 463, 464, 465, 466, 467] (by decide +kernel) (by decide +kernel)
set_option maxRecDepth 20000 in
theorem gL_law_X0_later : GoodIn wsL_law (wsV RL 78 RX0 yX0_later wsX0_later) := goodIn_app (goodIn_of _ (by decide +kernel)) ggL_law_X0_later
set_option maxRecDepth 20000 in
theorem ggL_law_X1_later : GoodIn wsL_law wsX1_later := goodIn_r _ [334, 40, 335, 336, 337, 5, 338, 41, 61, 62, 63, 468, 469, 470, 471, 472, 473, 474, 475, 476, 477, 478, 479, 480] (by decide +kernel) (by decide +kernel)
set_option maxRecDepth 20000 in
theorem gL_law_X1_later : GoodIn wsL_law (wsV RL 81 RX1 yX1_later wsX1_later) := goodIn_app (goodIn_of _ (by decide +kernel)) ggL_law_X1_later
set_option maxRecDepth 20000 in
theorem ggL_law_X0_turned : GoodIn wsL_law wsX0_turned := goodIn_r _ [342, 343, 54, 55, 2, 56, 344, 345, 346, 347, 348, 349, 350, 351, 352, 353, 354, 355, 356, 357, 358, 359, 360, 361, 17, 16, 362, 363, 364, 365, 456, 457, 458, 459, 460, 461, 462, 463, 464, 465, 466, 467] (by decide +kernel) (by decide +kernel)
set_option maxRecDepth 20000 in
theorem gL_law_X0_turned : GoodIn wsL_law (wsV RL 82 RX0 yX0_turned wsX0_turned) := goodIn_app (goodIn_of _ (by decide +kernel)) ggL_law_X0_turned
set_option maxRecDepth 20000 in
theorem ggL_law_X1_turned : GoodIn wsL_law wsX1_turned := goodIn_r _ [369, 370, 61, 62, 5, 63, 371, 372, 373, 374, 40, 41, 468, 469, 470, 471, 472, 473, 474, 475, 476, 477, 478, 479, 480] (by decide +kernel) (by decide +kernel)
set_option maxRecDepth 20000 in
theorem gL_law_X1_turned : GoodIn wsL_law (wsV RL 85 RX1 yX1_turned wsX1_turned) := goodIn_app (goodIn_of _ (by decide +kernel)) ggL_law_X1_turned
set_option maxRecDepth 20000 in
theorem ggL_law_X0_truth : GoodIn wsL_law wsX0_truth := goodIn_r _ [378, 15, 153, 154, 155, 2, 156, 25, 54, 55, 56, 68, 69, 70, 71, 23, 24, 379, 380, 381, 76, 77, 78, 456, 457, 458, 459, 460, 461, 462, 463, 464, 465, 466, 467] (by decide +kernel) (by decide +kernel)
set_option maxRecDepth 20000 in
theorem gL_law_X0_truth : GoodIn wsL_law (wsV RL 86 RX0 yX0_truth wsX0_truth) := goodIn_app (goodIn_of _ (by decide +kernel)) ggL_law_X0_truth
set_option maxRecDepth 20000 in
theorem ggL_law_X1_truth : GoodIn wsL_law wsX1_truth := goodIn_r _ [385, 39, 172, 173, 174, 5, 175, 49, 61, 62, 63, 83, 84, 85, 86, 47, 48, 468, 469, 470, 471, 472, 473, 474, 475, 476, 477, 478, 479, 480] (by decide +kernel) (by decide +kernel)
set_option maxRecDepth 20000 in
theorem gL_law_X1_truth : GoodIn wsL_law (wsV RL 89 RX1 yX1_truth wsX1_truth) := goodIn_app (goodIn_of _ (by decide +kernel)) ggL_law_X1_truth
set_option maxRecDepth 20000 in
theorem ggL_law_X0_apart : GoodIn wsL_law wsX0_apart := goodIn_r _ [389, 390, 391, 392, 2, 393, 25, 54, 55, 56, 394, 395, 396, 397, 398, 399, 400, 401, 402, 403, 404, 405, 406, 407, 408, 23, 24, 15, 107, 108, 109, 110, 379, 380, 381, 76, 77, 78, 276, 277, 278, 279, 72, 73, 74, 75, 13, 91, 92, 93, 94, 95, 96, 97, 98, 14, 456, 457, 458, 459, 460, 461, 462, 463, 464, 465, 466, 467] (by decide +kernel) (by decide +kernel)
set_option maxRecDepth 20000 in
theorem gL_law_X0_apart : GoodIn wsL_law (wsV RL 90 RX0 yX0_apart wsX0_apart) := goodIn_app (goodIn_of _ (by decide +kernel)) ggL_law_X0_apart
set_option maxRecDepth 20000 in
theorem ggL_law_X1_apart : GoodIn wsL_law wsX1_apart := goodIn_r _ [412, 413, 414, 415, 5, 416, 49, 61, 62, 63, 417, 418, 419, 420, 47, 48, 39, 284, 285, 286, 287, 35, 126, 127, 128, 129, 130, 131, 132, 133, 36, 421, 422, 423, 424, 142, 143, 144, 468, 469, 470, 471, 472, 473, 474, 475, 476, 477, 478, 479, 480] (by decide +kernel) (by decide +kernel)
set_option maxRecDepth 20000 in
theorem gL_law_X1_apart : GoodIn wsL_law (wsV RL 93 RX1 yX1_apart wsX1_apart) := goodIn_app (goodIn_of _ (by decide +kernel)) ggL_law_X1_apart
set_option maxRecDepth 20000 in
theorem ggL_law_X0_order : GoodIn wsL_law wsX0_order := goodIn_r _ [428, 394, 395, 396, 2, 397, 25, 398, 399, 400, 401, 402, 403, 404, 405, 406, 407, 408, 23, 24, 15, 107, 108, 109, 110, 379, 380, 381, 76, 77, 78, 276, 277, 278, 279, 72, 73, 74, 75, 13, 91, 92, 93, 94, 95, 96, 97, 98, 14, 390, 391, 392, 393, 456, 457, 458, 459, 460, 461, 462, 463, 464, 465, 466, 467] (by decide +kernel) (by decide +kernel)
set_option maxRecDepth 20000 in
theorem gL_law_X0_order : GoodIn wsL_law (wsV RL 94 RX0 yX0_order wsX0_order) := goodIn_app (goodIn_of _ (by decide +kernel)) ggL_law_X0_order
set_option maxRecDepth 20000 in
theorem ggL_law_X1_order : GoodIn wsL_law wsX1_order := goodIn_r _ [432, 413, 414, 415, 5, 416, 49, 417, 418, 419, 420, 47, 48, 39, 284, 285, 286, 287, 35, 126, 127, 128, 129, 130, 131, 132, 133, 36, 421, 422, 423, 424, 142, 143, 144, 468, 469, 470, 471, 472, 473, 474, 475, 476, 477, 478, 479, 480] (by decide +kernel) (by decide +kernel)
set_option maxRecDepth 20000 in
theorem gL_law_X1_order : GoodIn wsL_law (wsV RL 97 RX1 yX1_order wsX1_order) := goodIn_app (goodIn_of _ (by decide +kernel)) ggL_law_X1_order
set_option maxRecDepth 20000 in
theorem ggL_law_X0_count : GoodIn wsL_law wsX0_count := goodIn_r _ [436, 23, 24, 25, 18, 26, 17, 253, 437, 438, 439, 440, 441, 442, 443, 456, 457, 458, 459, 460, 461, 462, 463, 464, 465, 466, 467] (by decide +kernel) (by decide +kernel)
set_option maxRecDepth 20000 in
theorem gL_law_X0_count : GoodIn wsL_law (wsV RL 98 RX0 yX0_count wsX0_count) := goodIn_app (goodIn_of _ (by decide +kernel)) ggL_law_X0_count
set_option maxRecDepth 20000 in
theorem ggL_law_X1_count : GoodIn wsL_law wsX1_count := goodIn_r _ [447, 47, 48, 49, 207, 38, 40, 267, 468, 469, 470, 471, 472, 473, 474, 475, 476, 477, 478, 479, 480] (by decide +kernel) (by decide +kernel)
set_option maxRecDepth 20000 in
theorem gL_law_X1_count : GoodIn wsL_law (wsV RL 101 RX1 yX1_count wsX1_count) := goodIn_app (goodIn_of _ (by decide +kernel)) ggL_law_X1_count
set_option maxRecDepth 20000 in
theorem ggL_law_X0_trace : GoodIn wsL_law wsX0_trace := goodIn_r _ [451, 212, 456, 457, 458, 459, 460, 461, 462, 463, 464, 465, 466, 467] (by decide +kernel) (by decide +kernel)
set_option maxRecDepth 20000 in
theorem gL_law_X0_trace : GoodIn wsL_law (wsV RL 102 RX0 yX0_trace wsX0_trace) := goodIn_app (goodIn_of _ (by decide +kernel)) ggL_law_X0_trace
set_option maxRecDepth 20000 in
theorem ggL_law_X1_trace : GoodIn wsL_law wsX1_trace := goodIn_r _ [455, 223, 468, 469, 470, 471, 472, 473, 474, 475, 476, 477, 478, 479, 480] (by decide +kernel) (by decide +kernel)
set_option maxRecDepth 20000 in
theorem gL_law_X1_trace : GoodIn wsL_law (wsV RL 106 RX1 yX1_trace wsX1_trace) := goodIn_app (goodIn_of _ (by decide +kernel)) ggL_law_X1_trace

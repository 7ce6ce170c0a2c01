set_option maxRecDepth 20000 in
theorem ggL_law_X3_init : GoodIn wsL_law wsX3_init := goodIn_r _ [8, 9, 10, 11, 12, 13, 14, 15, 16, 17, 18, 19, 20, 21, 22, 23, 24, 25, 26, 27, 28, 29, 30, 31, 32, 33, 34, 35, 36, 37, 38, 39, 40, 41, 42, 43, 44, 45, 46, 47, 48, 49, 50, 51, 52, 53, 2, 54, 55, 56, 57, 58, 59, 60, 61, 501, 502, 503, 504, 469, 470, 471, 472, 473, 474, 475, 476, 477, 478, 479, 480, 505, 506, 507, 508, 509, 510, 511, 512, 513] (by decide +kernel) (by decide +kernel)
set_option maxRecDepth 20000 in
theorem gL_law_X3_init : GoodIn wsL_law (wsX3_init) := ggL_law_X3_init
set_option maxRecDepth 20000 in
theorem ggL_law_X4_init : GoodIn wsL_law wsX4_init := goodIn_r _ [64, 65, 10, 11, 66, 24, 67, 68, 69, 70, 71, 72, 73, 74, 47, 75, 76, 77, 78, 79, 481, 482, 483, 484, 485, 486, 487, 488, 489, 490, 491, 492, 493, 494, 495, 496, 497, 498, 499, 500] (by decide +kernel) (by decide +kernel)
set_option maxRecDepth 20000 in
theorem gL_law_X4_init : GoodIn wsL_law (wsX4_init) := ggL_law_X4_init
set_option maxRecDepth 20000 in
theorem ggL_law_X3_begin : GoodIn wsL_law wsX3_begin := goodIn_r _ [83, 84, 19, 56, 85, 86, 2, 87, 51, 52, 53, 54, 15, 55, 23, 57, 58, 59, 60, 61, 469, 470, 471, 472, 473, 474, 475, 476, 477, 478, 479, 480, 505, 506, 507, 508, 509, 501, 502, 503, 504, 510, 511, 512, 513] (by decide +kernel) (by decide +kernel)
set_option maxRecDepth 20000 in
theorem gL_law_X3_begin : GoodIn wsL_law (wsV RL 13 RX3 yX3_begin wsX3_begin) := goodIn_app (goodIn_r _ [80, 81, 82, 2] (by decide +kernel) (by decide +kernel)) ggL_law_X3_begin
set_option maxRecDepth 20000 in
theorem ggL_law_X4_begin : GoodIn wsL_law wsX4_begin := goodIn_r _ [91, 92, 93, 66, 94, 95, 96, 97, 98, 99, 100, 5, 101, 481, 482, 483, 484, 485, 486, 487, 488, 489, 490, 491, 492, 493, 494, 495, 496, 497, 498, 499, 500] (by decide +kernel) (by decide +kernel)
set_option maxRecDepth 20000 in
theorem gL_law_X4_begin : GoodIn wsL_law (wsV RL 17 RX4 yX4_begin wsX4_begin) := goodIn_app (goodIn_r _ [88, 89, 90, 5] (by decide +kernel) (by decide +kernel)) ggL_law_X4_begin
set_option maxRecDepth 20000 in
theorem ggL_law_X3_name : GoodIn wsL_law wsX3_name := goodIn_r _ [105, 84, 15, 55, 106, 23, 107, 108, 109, 22, 110, 111, 50, 112, 113, 114, 14, 115, 33, 116, 34, 35, 469, 470, 471, 472, 473, 474, 475, 476, 477, 478, 479, 480, 501, 502, 503, 504, 510, 511, 512, 513] (by decide +kernel) (by decide +kernel)
set_option maxRecDepth 20000 in
theorem gL_law_X3_name : GoodIn wsL_law (wsV RL 18 RX3 yX3_name wsX3_name) := goodIn_app (goodIn_r _ [102, 103, 104, 2] (by decide +kernel) (by decide +kernel)) ggL_law_X3_name
set_option maxRecDepth 20000 in
theorem ggL_law_X4_name : GoodIn wsL_law wsX4_name := goodIn_r _ [120, 92, 95, 121, 67, 68, 69, 76, 481, 482, 483, 484, 485, 486, 487, 488, 489, 490, 491, 492, 493, 494, 495, 496, 497, 498, 499, 500] (by decide +kernel) (by decide +kernel)
set_option maxRecDepth 20000 in
theorem gL_law_X4_name : GoodIn wsL_law (wsV RL 22 RX4 yX4_name wsX4_name) := goodIn_app (goodIn_r _ [117, 118, 119, 5] (by decide +kernel) (by decide +kernel)) ggL_law_X4_name
set_option maxRecDepth 20000 in
theorem ggL_law_X3_budget : GoodIn wsL_law wsX3_budget := goodIn_r _ [125, 84, 61, 85, 86, 2, 87, 469, 470, 471, 472, 473, 474, 475, 476, 477, 478, 479, 480] (by decide +kernel) (by decide +kernel)
set_option maxRecDepth 20000 in
theorem gL_law_X3_budget : GoodIn wsL_law (wsV RL 23 RX3 yX3_budget wsX3_budget) := goodIn_app (goodIn_r _ [122, 123, 124, 2] (by decide +kernel) (by decide +kernel)) ggL_law_X3_budget
set_option maxRecDepth 20000 in
theorem ggL_law_X4_budget : GoodIn wsL_law wsX4_budget := goodIn_r _ [129, 92, 96, 99, 100, 5, 101, 481, 482, 483, 484, 485, 486, 487, 488, 489, 490, 491, 492, 493, 494, 495, 496, 497, 498, 499, 500] (by decide +kernel) (by decide +kernel)
set_option maxRecDepth 20000 in
theorem gL_law_X4_budget : GoodIn wsL_law (wsV RL 27 RX4 yX4_budget wsX4_budget) := goodIn_app (goodIn_r _ [126, 127, 128, 5] (by decide +kernel) (by decide +kernel)) ggL_law_X4_budget
set_option maxRecDepth 20000 in
theorem ggL_law_X3_row : GoodIn wsL_law wsX3_row := goodIn_r _ [133, 58, 106, 469, 470, 471, 472, 473, 474, 475, 476, 477, 478, 479, 480] (by decide +kernel) (by decide +kernel)
set_option maxRecDepth 20000 in
theorem gL_law_X3_row : GoodIn wsL_law (wsV RL 28 RX3 yX3_row wsX3_row) := goodIn_app (goodIn_r _ [130, 131, 132, 2] (by decide +kernel) (by decide +kernel)) ggL_law_X3_row
set_option maxRecDepth 20000 in
theorem ggL_law_X4_row : GoodIn wsL_law wsX4_row := goodIn_r _ [137, 97, 121, 481, 482, 483, 484, 485, 486, 487, 488, 489, 490, 491, 492, 493, 494, 495, 496, 497, 498, 499, 500] (by decide +kernel) (by decide +kernel)
set_option maxRecDepth 20000 in
theorem gL_law_X4_row : GoodIn wsL_law (wsV RL 32 RX4 yX4_row wsX4_row) := goodIn_app (goodIn_r _ [134, 135, 136, 5] (by decide +kernel) (by decide +kernel)) ggL_law_X4_row
set_option maxRecDepth 20000 in
theorem ggL_law_X3_term : GoodIn wsL_law wsX3_term := goodIn_r _ [141, 84, 59, 60, 15, 55, 19, 56, 106, 142, 143, 144, 2, 145, 58, 85, 86, 87, 146, 147, 148, 18, 149, 39, 150, 40, 41, 42, 469, 470, 471, 472, 473, 474, 475, 476, 477, 478, 479, 480, 501, 502, 503, 504, 505, 506, 507, 508, 509] (by decide +kernel) (by decide +kernel)
set_option maxRecDepth 20000 in
theorem gL_law_X3_term : GoodIn wsL_law (wsV RL 33 RX3 yX3_term wsX3_term) := goodIn_app (goodIn_r _ [138, 139, 140, 2] (by decide +kernel) (by decide +kernel)) ggL_law_X3_term
set_option maxRecDepth 20000 in
theorem ggL_law_X4_term : GoodIn wsL_law wsX4_term := goodIn_r _ [154, 97, 66, 94, 95, 92, 93, 121, 70, 71, 72, 73, 99, 100, 5, 101, 481, 482, 483, 484, 485, 486, 487, 488, 489, 490, 491, 492, 493, 494, 495, 496, 497, 498, 499, 500] (by decide +kernel) (by decide +kernel)
set_option maxRecDepth 20000 in
theorem gL_law_X4_term : GoodIn wsL_law (wsV RL 37 RX4 yX4_term wsX4_term) := goodIn_app (goodIn_r _ [151, 152, 153, 5] (by decide +kernel) (by decide +kernel)) ggL_law_X4_term
set_option maxRecDepth 20000 in
theorem ggL_law_X3_future : GoodIn wsL_law wsX3_future := goodIn_r _ [158, 84, 23, 57, 106, 15, 85, 86, 2, 87, 159, 160, 161, 22, 162, 46, 111, 48, 163, 50, 164, 469, 470, 471, 472, 473, 474, 475, 476, 477, 478, 479, 480, 510, 511, 512, 513, 501, 502, 503, 504] (by decide +kernel) (by decide +kernel)
set_option maxRecDepth 20000 in
theorem gL_law_X3_future : GoodIn wsL_law (wsV RL 38 RX3 yX3_future wsX3_future) := goodIn_app (goodIn_r _ [155, 156, 157, 2] (by decide +kernel) (by decide +kernel)) ggL_law_X3_future
set_option maxRecDepth 20000 in
theorem ggL_law_X4_future : GoodIn wsL_law wsX4_future := goodIn_r _ [168, 92, 98, 121, 74, 75, 95, 76, 68, 99, 100, 5, 101, 481, 482, 483, 484, 485, 486, 487, 488, 489, 490, 491, 492, 493, 494, 495, 496, 497, 498, 499, 500] (by decide +kernel) (by decide +kernel)
set_option maxRecDepth 20000 in
theorem gL_law_X4_future : GoodIn wsL_law (wsV RL 42 RX4 yX4_future wsX4_future) := goodIn_app (goodIn_r _ [165, 166, 167, 5] (by decide +kernel) (by decide +kernel)) ggL_law_X4_future
set_option maxRecDepth 20000 in
theorem ggL_law_X3_set : GoodIn wsL_law wsX3_set := goodIn_r _ [172, 84, 15, 173, 174, 23, 175, 176, 177, 178, 2, 179, 57, 85, 86, 87, 180, 181, 182, 183, 55, 469, 470, 471, 472, 473, 474, 475, 476, 477, 478, 479, 480, 501, 502, 503, 504, 510, 511, 512, 513] (by decide +kernel) (by decide +kernel)
set_option maxRecDepth 20000 in
theorem gL_law_X3_set : GoodIn wsL_law (wsV RL 43 RX3 yX3_set wsX3_set) := goodIn_app (goodIn_r _ [169, 170, 171, 2] (by decide +kernel) (by decide +kernel)) ggL_law_X3_set
set_option maxRecDepth 20000 in
theorem ggL_law_X4_set : GoodIn wsL_law wsX4_set := goodIn_r _ [187, 98, 95, 67, 69, 92, 76, 99, 100, 5, 101, 481, 482, 483, 484, 485, 486, 487, 488, 489, 490, 491, 492, 493, 494, 495, 496, 497, 498, 499, 500] (by decide +kernel) (by decide +kernel)
set_option maxRecDepth 20000 in
theorem gL_law_X4_set : GoodIn wsL_law (wsV RL 46 RX4 yX4_set wsX4_set) := goodIn_app (goodIn_r _ [184, 185, 186, 5] (by decide +kernel) (by decide +kernel)) ggL_law_X4_set
set_option maxRecDepth 20000 in
theorem ggL_law_X3_told : GoodIn wsL_law wsX3_told := goodIn_r _ [191, 15, 55, 58, 19, 56, 23, 57, 59, 60, 61, 84, 192, 193, 194, 22, 195, 111, 48, 469, 470, 471, 472, 473, 474, 475, 476, 477, 478, 479, 480, 501, 502, 503, 504, 505, 506, 507, 508, 509, 510, 511, 512, 513] (by decide +kernel) (by decide +kernel)
set_option maxRecDepth 20000 in
theorem gL_law_X3_told : GoodIn wsL_law (wsV RL 47 RX3 yX3_told wsX3_told) := goodIn_app (goodIn_r _ [188, 189, 190, 2] (by decide +kernel) (by decide +kernel)) ggL_law_X3_told
set_option maxRecDepth 20000 in
theorem ggL_law_X4_told : GoodIn wsL_law wsX4_told := goodIn_r _ [199, 95, 97, 93, 98, 66, 94, 96, 92, 200, 201, 202, 5, 203, 75, 481, 482, 483, 484, 485, 486, 487, 488, 489, 490, 491, 492, 493, 494, 495, 496, 497, 498, 499, 500] (by decide +kernel) (by decide +kernel)
set_option maxRecDepth 20000 in
theorem gL_law_X4_told : GoodIn wsL_law (wsV RL 50 RX4 yX4_told wsX4_told) := goodIn_app (goodIn_r _ [196, 197, 198, 5] (by decide +kernel) (by decide +kernel)) ggL_law_X4_told
set_option maxRecDepth 20000 in
theorem ggL_law_X3_comes : GoodIn wsL_law wsX3_comes := goodIn_r _ [207, 84, 19, 15, 208, 23, 175, 25, 209, 210, 211, 2, 212, 213, 214, 215, 216, 59, 60, 85, 86, 87, 142, 143, 144, 145, 58, 176, 177, 178, 179, 57, 217, 218, 219, 18, 220, 150, 41, 39, 42, 221, 222, 223, 224, 40, 225, 226, 227, 469, 470, 471, 472, 473, 474, 475, 476, 477, 478, 479, 480, 501, 502, 503, 504, 510, 511, 512, 513, 505, 506, 507, 508, 509] (by decide +kernel) (by decide +kernel)
set_option maxRecDepth 20000 in
theorem gL_law_X3_comes : GoodIn wsL_law (wsV RL 51 RX3 yX3_comes wsX3_comes) := goodIn_app (goodIn_r _ [204, 205, 206, 2] (by decide +kernel) (by decide +kernel)) ggL_law_X3_comes
set_option maxRecDepth 20000 in
theorem ggL_law_X4_comes : GoodIn wsL_law wsX4_comes := goodIn_r _ [231, 97, 98, 92, 232, 233, 234, 5, 235, 66, 94, 99, 100, 101, 236, 237, 238, 239, 93, 72, 68, 76, 73, 240, 241, 242, 243, 70, 71, 481, 482, 483, 484, 485, 486, 487, 488, 489, 490, 491, 492, 493, 494, 495, 496, 497, 498, 499, 500] (by decide +kernel) (by decide +kernel)
set_option maxRecDepth 20000 in
theorem gL_law_X4_comes : GoodIn wsL_law (wsV RL 54 RX4 yX4_comes wsX4_comes) := goodIn_app (goodIn_r _ [228, 229, 230, 5] (by decide +kernel) (by decide +kernel)) ggL_law_X4_comes
set_option maxRecDepth 20000 in
theorem ggL_law_X3_worst : GoodIn wsL_law wsX3_worst := goodIn_r _ [247, 84, 209, 210, 211, 2, 212, 213, 214, 215, 216, 59, 60, 85, 86, 87, 142, 143, 144, 145, 58, 248, 249, 250, 251, 19, 27, 15, 55, 208, 28, 29, 61, 252, 253, 254, 255, 18, 256, 150, 39, 41, 42, 221, 222, 223, 224, 40, 257, 258, 259, 260, 174, 173, 261, 262, 263, 264, 469, 470, 471, 472, 473, 474, 475, 476, 477, 478, 479, 480, 501, 502, 503, 504, 505, 506, 507, 508, 509] (by decide +kernel) (by decide +kernel)
set_option maxRecDepth 20000 in
theorem gL_law_X3_worst : GoodIn wsL_law (wsV RL 55 RX3 yX3_worst wsX3_worst) := goodIn_app (goodIn_r _ [244, 245, 246, 2] (by decide +kernel) (by decide +kernel)) ggL_law_X3_worst
set_option maxRecDepth 20000 in
theorem ggL_law_X4_worst : GoodIn wsL_law wsX4_worst := goodIn_r _ [268, 97, 92, 232, 233, 234, 5, 235, 66, 94, 99, 100, 101, 269, 270, 271, 272, 95, 93, 72, 73, 69, 67, 68, 77, 78, 96, 240, 241, 242, 243, 70, 71, 236, 237, 238, 239, 76, 273, 274, 275, 276, 481, 482, 483, 484, 485, 486, 487, 488, 489, 490, 491, 492, 493, 494, 495, 496, 497, 498, 499, 500] (by decide +kernel) (by decide +kernel)
set_option maxRecDepth 20000 in
theorem gL_law_X4_worst : GoodIn wsL_law (wsV RL 58 RX4 yX4_worst wsX4_worst) := goodIn_app (goodIn_r _ [265, 266, 267, 5] (by decide +kernel) (by decide +kernel)) ggL_law_X4_worst
set_option maxRecDepth 20000 in
theorem ggL_law_X3_worstName : GoodIn wsL_law wsX3_worstName := goodIn_r _ [280, 84, 29, 209, 210, 211, 2, 212, 213, 214, 215, 216, 59, 60, 85, 86, 87, 142, 143, 144, 145, 58, 180, 181, 182, 183, 15, 55, 248, 249, 250, 251, 19, 27, 208, 28, 61, 252, 253, 254, 255, 18, 256, 150, 39, 41, 42, 221, 222, 223, 224, 40, 257, 258, 259, 260, 174, 173, 261, 262, 263, 264, 469, 470, 471, 472, 473, 474, 475, 476, 477, 478, 479, 480, 501, 502, 503, 504, 505, 506, 507, 508, 509] (by decide +kernel) (by decide +kernel)
set_option maxRecDepth 20000 in
theorem gL_law_X3_worstName : GoodIn wsL_law (wsV RL 59 RX3 yX3_worstName wsX3_worstName) := goodIn_app (goodIn_r _ [277, 278, 279, 2] (by decide +kernel) (by decide +kernel)) ggL_law_X3_worstName
set_option maxRecDepth 20000 in
theorem ggL_law_X4_worstName : GoodIn wsL_law wsX4_worstName := goodIn_r _ [284, 97, 95, 92, 78, 232, 233, 234, 5, 235, 66, 94, 99, 100, 101, 269, 270, 271, 272, 93, 72, 73, 69, 67, 68, 77, 96, 240, 241, 242, 243, 70, 71, 236, 237, 238, 239, 76, 273, 274, 275, 276, 481, 482, 483, 484, 485, 486, 487, 488, 489, 490, 491, 492, 493, 494, 495, 496, 497, 498, 499, 500] (by decide +kernel) (by decide +kernel)
set_option maxRecDepth 20000 in
theorem gL_law_X4_worstName : GoodIn wsL_law (wsV RL 62 RX4 yX4_worstName wsX4_worstName) := goodIn_app (goodIn_r _ [281, 282, 283, 5] (by decide +kernel) (by decide +kernel)) ggL_law_X4_worstName
set_option maxRecDepth 20000 in
theorem ggL_law_X3_breaks : GoodIn wsL_law wsX3_breaks := goodIn_r _ [288, 84, 209, 210, 211, 2, 212, 213, 214, 215, 216, 59, 60, 85, 86, 87, 289, 290, 291, 292, 58, 252, 248, 249, 250, 251, 19, 27, 15, 55, 208, 28, 29, 61, 253, 254, 255, 18, 256, 150, 39, 41, 42, 221, 222, 223, 224, 40, 257, 258, 259, 260, 174, 173, 261, 262, 263, 264, 469, 470, 471, 472, 473, 474, 475, 476, 477, 478, 479, 480, 501, 502, 503, 504, 505, 506, 507, 508, 509] (by decide +kernel) (by decide +kernel)
set_option maxRecDepth 20000 in
theorem gL_law_X3_breaks : GoodIn wsL_law (wsV RL 63 RX3 yX3_breaks wsX3_breaks) := goodIn_app (goodIn_r _ [285, 286, 287, 2] (by decide +kernel) (by decide +kernel)) ggL_law_X3_breaks
set_option maxRecDepth 20000 in
theorem ggL_law_X4_breaks : GoodIn wsL_law wsX4_breaks := goodIn_r _ [296, 92, 97, 297, 232, 233, 234, 5, 235, 66, 94, 99, 100, 101, 269, 270, 271, 272, 95, 93, 72, 73, 69, 67, 68, 77, 78, 96, 240, 241, 242, 243, 70, 71, 236, 237, 238, 239, 76, 273, 274, 275, 276, 481, 482, 483, 484, 485, 486, 487, 488, 489, 490, 491, 492, 493, 494, 495, 496, 497, 498, 499, 500] (by decide +kernel) (by decide +kernel)
set_option maxRecDepth 20000 in
theorem gL_law_X4_breaks : GoodIn wsL_law (wsV RL 66 RX4 yX4_breaks wsX4_breaks) := goodIn_app (goodIn_r _ [293, 294, 295, 5] (by decide +kernel) (by decide +kernel)) ggL_law_X4_breaks
set_option maxRecDepth 20000 in
theorem ggL_law_X3_safest : GoodIn wsL_law wsX3_safest := goodIn_r _ [301, 252, 213, 214, 215, 2, 216, 59, 60, 248, 249, 250, 251, 19, 27, 15, 55, 208, 28, 29, 61, 253, 254, 255, 18, 256, 150, 39, 41, 42, 221, 222, 223, 224, 40, 257, 258, 259, 260, 174, 173, 261, 262, 263, 264, 289, 290, 291, 292, 58, 469, 470, 471, 472, 473, 474, 475, 476, 477, 478, 479, 480, 501, 502, 503, 504, 505, 506, 507, 508, 509] (by decide +kernel) (by decide +kernel)
set_option maxRecDepth 20000 in
theorem gL_law_X3_safest : GoodIn wsL_law (wsV RL 67 RX3 yX3_safest wsX3_safest) := goodIn_app (goodIn_r _ [298, 299, 300, 2] (by decide +kernel) (by decide +kernel)) ggL_law_X3_safest
set_option maxRecDepth 20000 in
theorem ggL_law_X4_safest : GoodIn wsL_law wsX4_safest := goodIn_r _ [305, 297, 66, 94, 306, 294, 295, 5, 296, 92, 97, 232, 233, 234, 235, 99, 100, 101, 269, 270, 271, 272, 95, 93, 72, 73, 69, 67, 68, 77, 78, 96, 240, 241, 242, 243, 70, 71, 236, 237, 238, 239, 76, 273, 274, 275, 276, 481, 482, 483, 484, 485, 486, 487, 488, 489, 490, 491, 492, 493, 494, 495, 496, 497, 498, 499, 500] (by decide +kernel) (by decide +kernel)
set_option maxRecDepth 20000 in
theorem gL_law_X4_safest : GoodIn wsL_law (wsV RL 70 RX4 yX4_safest wsX4_safest) := goodIn_app (goodIn_r _ [302, 303, 304, 5] (by decide +kernel) (by decide +kernel)) ggL_law_X4_safest
set_option maxRecDepth 20000 in
theorem ggL_law_X3_answer : GoodIn wsL_law wsX3_answer := goodIn_r _ [310, 84, 311, 312, 313, 2, 314, 315, 316, 317, 318, 59, 85, 86, 87, 176, 177, 178, 179, 23, 57, 319, 320, 321, 322, 252, 60, 25, 323, 324, 325, 326, 19, 175, 58, 217, 218, 219, 18, 220, 150, 41, 39, 42, 221, 222, 223, 224, 40, 225, 226, 227, 469, 470, 471, 472, 473, 474, 475, 476, 477, 478, 479, 480, 510, 511, 512, 513, 505, 506, 507, 508, 509] (by decide +kernel) (by decide +kernel)
set_option maxRecDepth 20000 in
theorem gL_law_X3_answer : GoodIn wsL_law (wsV RL 71 RX3 yX3_answer wsX3_answer) := goodIn_app (goodIn_r _ [307, 308, 309, 2] (by decide +kernel) (by decide +kernel)) ggL_law_X3_answer
set_option maxRecDepth 20000 in
theorem ggL_law_X4_answer : GoodIn wsL_law wsX4_answer := goodIn_r _ [330, 98, 92, 331, 332, 333, 5, 334, 66, 99, 100, 101, 335, 336, 337, 338, 297, 94, 339, 340, 341, 342, 97, 236, 237, 238, 239, 93, 72, 68, 76, 73, 240, 241, 242, 243, 70, 71, 481, 482, 483, 484, 485, 486, 487, 488, 489, 490, 491, 492, 493, 494, 495, 496, 497, 498, 499, 500] (by decide +kernel) (by decide +kernel)
set_option maxRecDepth 20000 in
theorem gL_law_X4_answer : GoodIn wsL_law (wsV RL 74 RX4 yX4_answer wsX4_answer) := goodIn_app (goodIn_r _ [327, 328, 329, 5] (by decide +kernel) (by decide +kernel)) ggL_law_X4_answer
set_option maxRecDepth 20000 in
theorem ggL_law_X3_twoStep : GoodIn wsL_law wsX3_twoStep := goodIn_r _ [346, 347, 348, 349, 2, 350, 252, 315, 316, 317, 318, 59, 351, 352, 353, 354, 23, 57, 355, 356, 357, 358, 359, 22, 360, 111, 48, 46, 319, 320, 321, 322, 60, 25, 323, 324, 325, 326, 19, 175, 58, 217, 218, 219, 18, 220, 150, 41, 39, 42, 221, 222, 223, 224, 40, 225, 226, 227, 361, 362, 363, 364, 469, 470, 471, 472, 473, 474, 475, 476, 477, 478, 479, 480, 510, 511, 512, 513, 505, 506, 507, 508, 509] (by decide +kernel) (by decide +kernel)
set_option maxRecDepth 20000 in
theorem gL_law_X3_twoStep : GoodIn wsL_law (wsV RL 75 RX3 yX3_twoStep wsX3_twoStep) := goodIn_app (goodIn_r _ [343, 344, 345, 2] (by decide +kernel) (by decide +kernel)) ggL_law_X3_twoStep
set_option maxRecDepth 20000 in
theorem ggL_law_X4_twoStep : GoodIn wsL_law wsX4_twoStep := goodIn_r _ [368, 297, 66, 200, 201, 202, 5, 203, 98, 75, 369, 370, 371, 372, 74, 335, 336, 337, 338, 94, 339, 340, 341, 342, 97, 236, 237, 238, 239, 93, 72, 68, 76, 73, 240, 241, 242, 243, 70, 71, 481, 482, 483, 484, 485, 486, 487, 488, 489, 490, 491, 492, 493, 494, 495, 496, 497, 498, 499, 500] (by decide +kernel) (by decide +kernel)
set_option maxRecDepth 20000 in
theorem gL_law_X4_twoStep : GoodIn wsL_law (wsV RL 78 RX4 yX4_twoStep wsX4_twoStep) := goodIn_app (goodIn_r _ [365, 366, 367, 5] (by decide +kernel) (by decide +kernel)) ggL_law_X4_twoStep
set_option maxRecDepth 20000 in
theorem ggL_law_X3_mean : GoodIn wsL_law wsX3_mean := goodIn_r _ [376, 84, 252, 23, 311, 312, 313, 2, 314, 315, 316, 317, 318, 59, 85, 86, 87, 377, 378, 379, 351, 352, 353, 354, 57, 355, 356, 357, 358, 359, 22, 360, 111, 48, 46, 319, 320, 321, 322, 60, 25, 323, 324, 325, 326, 19, 175, 58, 217, 218, 219, 18, 220, 150, 41, 39, 42, 221, 222, 223, 224, 40, 225, 226, 227, 361, 362, 363, 364, 380, 381, 382, 383, 384, 385, 386, 387, 388, 389, 469, 470, 471, 472, 473, 474, 475, 476, 477, 478, 479, 480, 510, 511, 512, 513, 505, 506, 507, 508, 509] (by decide +kernel) (by decide +kernel)
set_option maxRecDepth 20000 in
theorem gL_law_X3_mean : GoodIn wsL_law (wsV RL 79 RX3 yX3_mean wsX3_mean) := goodIn_app (goodIn_r _ [373, 374, 375, 2] (by decide +kernel) (by decide +kernel)) ggL_law_X3_mean
set_option maxRecDepth 20000 in
theorem ggL_law_X4_mean : GoodIn wsL_law wsX4_mean := goodIn_r _ [393, 92, 297, 331, 332, 333, 5, 334, 66, 99, 100, 101, 200, 201, 202, 203, 98, 75, 369, 370, 371, 372, 74, 335, 336, 337, 338, 94, 339, 340, 341, 342, 97, 236, 237, 238, 239, 93, 72, 68, 76, 73, 240, 241, 242, 243, 70, 71, 394, 395, 396, 397, 398, 399, 400, 481, 482, 483, 484, 485, 486, 487, 488, 489, 490, 491, 492, 493, 494, 495, 496, 497, 498, 499, 500] (by decide +kernel) (by decide +kernel)
set_option maxRecDepth 20000 in
theorem gL_law_X4_mean : GoodIn wsL_law (wsV RL 82 RX4 yX4_mean wsX4_mean) := goodIn_app (goodIn_r _ [390, 391, 392, 5] (by decide +kernel) (by decide +kernel)) ggL_law_X4_mean
set_option maxRecDepth 20000 in
theorem ggL_law_X3_best : GoodIn wsL_law wsX3_best := goodIn_r _ [404, 84, 176, 177, 178, 2, 179, 23, 57, 85, 86, 87, 405, 406, 407, 408, 252, 25, 213, 214, 215, 216, 59, 60, 323, 324, 325, 326, 19, 175, 58, 217, 218, 219, 18, 220, 150, 41, 39, 42, 221, 222, 223, 224, 40, 225, 226, 227, 469, 470, 471, 472, 473, 474, 475, 476, 477, 478, 479, 480, 510, 511, 512, 513, 505, 506, 507, 508, 509] (by decide +kernel) (by decide +kernel)
set_option maxRecDepth 20000 in
theorem gL_law_X3_best : GoodIn wsL_law (wsV RL 83 RX3 yX3_best wsX3_best) := goodIn_app (goodIn_r _ [401, 402, 403, 2] (by decide +kernel) (by decide +kernel)) ggL_law_X3_best
set_option maxRecDepth 20000 in
theorem ggL_law_X4_best : GoodIn wsL_law wsX4_best := goodIn_r _ [412, 98, 92, 99, 100, 5, 101, 413, 414, 415, 416, 297, 66, 335, 336, 337, 338, 94, 339, 340, 341, 342, 97, 236, 237, 238, 239, 93, 72, 68, 76, 73, 240, 241, 242, 243, 70, 71, 481, 482, 483, 484, 485, 486, 487, 488, 489, 490, 491, 492, 493, 494, 495, 496, 497, 498, 499, 500] (by decide +kernel) (by decide +kernel)
set_option maxRecDepth 20000 in
theorem gL_law_X4_best : GoodIn wsL_law (wsV RL 86 RX4 yX4_best wsX4_best) := goodIn_app (goodIn_r _ [409, 410, 411, 5] (by decide +kernel) (by decide +kernel)) ggL_law_X4_best
set_option maxRecDepth 20000 in
theorem ggL_law_X3_regret : GoodIn wsL_law wsX3_regret := goodIn_r _ [420, 84, 311, 312, 313, 2, 314, 315, 316, 317, 318, 59, 85, 86, 87, 421, 422, 423, 424, 23, 57, 355, 26, 405, 406, 407, 408, 252, 25, 213, 214, 215, 216, 60, 323, 324, 325, 326, 19, 175, 58, 217, 218, 219, 18, 220, 150, 41, 39, 42, 221, 222, 223, 224, 40, 225, 226, 227, 425, 426, 427, 428, 429, 430, 385, 431, 357, 358, 359, 22, 360, 111, 48, 46, 319, 320, 321, 322, 361, 362, 363, 364, 469, 470, 471, 472, 473, 474, 475, 476, 477, 478, 479, 480, 510, 511, 512, 513, 505, 506, 507, 508, 509] (by decide +kernel) (by decide +kernel)
set_option maxRecDepth 20000 in
theorem gL_law_X3_regret : GoodIn wsL_law (wsV RL 87 RX3 yX3_regret wsX3_regret) := goodIn_app (goodIn_r _ [417, 418, 419, 2] (by decide +kernel) (by decide +kernel)) ggL_law_X3_regret
set_option maxRecDepth 20000 in
theorem ggL_law_X4_regret : GoodIn wsL_law wsX4_regret := goodIn_r _ [435, 92, 331, 332, 333, 5, 334, 66, 99, 100, 101, 436, 437, 438, 439, 98, 79, 413, 414, 415, 416, 297, 335, 336, 337, 338, 94, 339, 340, 341, 342, 97, 236, 237, 238, 239, 93, 72, 68, 76, 73, 240, 241, 242, 243, 70, 71, 440, 441, 442, 443, 75, 200, 201, 202, 203, 369, 370, 371, 372, 74, 481, 482, 483, 484, 485, 486, 487, 488, 489, 490, 491, 492, 493, 494, 495, 496, 497, 498, 499, 500] (by decide +kernel) (by decide +kernel)
set_option maxRecDepth 20000 in
theorem gL_law_X4_regret : GoodIn wsL_law (wsV RL 90 RX4 yX4_regret wsX4_regret) := goodIn_app (goodIn_r _ [432, 433, 434, 5] (by decide +kernel) (by decide +kernel)) ggL_law_X4_regret
set_option maxRecDepth 20000 in
theorem ggL_law_X3_calmest : GoodIn wsL_law wsX3_calmest := goodIn_r _ [447, 252, 421, 422, 423, 2, 424, 23, 57, 355, 26, 405, 406, 407, 408, 25, 213, 214, 215, 216, 59, 60, 323, 324, 325, 326, 19, 175, 58, 217, 218, 219, 18, 220, 150, 41, 39, 42, 221, 222, 223, 224, 40, 225, 226, 227, 315, 316, 317, 318, 425, 426, 427, 428, 429, 430, 385, 431, 357, 358, 359, 22, 360, 111, 48, 46, 319, 320, 321, 322, 361, 362, 363, 364, 469, 470, 471, 472, 473, 474, 475, 476, 477, 478, 479, 480, 510, 511, 512, 513, 505, 506, 507, 508, 509] (by decide +kernel) (by decide +kernel)
set_option maxRecDepth 20000 in
theorem gL_law_X3_calmest : GoodIn wsL_law (wsV RL 91 RX3 yX3_calmest wsX3_calmest) := goodIn_app (goodIn_r _ [444, 445, 446, 2] (by decide +kernel) (by decide +kernel)) ggL_law_X3_calmest
set_option maxRecDepth 20000 in
theorem ggL_law_X4_calmest : GoodIn wsL_law wsX4_calmest := goodIn_r _ [451, 297, 66, 436, 437, 438, 5, 439, 98, 79, 413, 414, 415, 416, 335, 336, 337, 338, 94, 339, 340, 341, 342, 97, 236, 237, 238, 239, 93, 72, 68, 76, 73, 240, 241, 242, 243, 70, 71, 440, 441, 442, 443, 75, 200, 201, 202, 203, 369, 370, 371, 372, 74, 481, 482, 483, 484, 485, 486, 487, 488, 489, 490, 491, 492, 493, 494, 495, 496, 497, 498, 499, 500] (by decide +kernel) (by decide +kernel)
set_option maxRecDepth 20000 in
theorem gL_law_X4_calmest : GoodIn wsL_law (wsV RL 94 RX4 yX4_calmest wsX4_calmest) := goodIn_app (goodIn_r _ [448, 449, 450, 5] (by decide +kernel) (by decide +kernel)) ggL_law_X4_calmest
set_option maxRecDepth 20000 in
theorem ggL_law_X3_waiting : GoodIn wsL_law wsX3_waiting := goodIn_r _ [455, 84, 252, 23, 57, 355, 356, 26, 377, 378, 2, 379, 85, 86, 87, 347, 348, 349, 350, 315, 316, 317, 318, 59, 351, 352, 353, 354, 357, 358, 359, 22, 360, 111, 48, 46, 319, 320, 321, 322, 60, 25, 323, 324, 325, 326, 19, 175, 58, 217, 218, 219, 18, 220, 150, 41, 39, 42, 221, 222, 223, 224, 40, 225, 226, 227, 361, 362, 363, 364, 421, 422, 423, 424, 405, 406, 407, 408, 213, 214, 215, 216, 380, 381, 382, 383, 384, 385, 386, 387, 388, 389, 469, 470, 471, 472, 473, 474, 475, 476, 477, 478, 479, 480, 510, 511, 512, 513, 505, 506, 507, 508, 509] (by decide +kernel) (by decide +kernel)
set_option maxRecDepth 20000 in
theorem gL_law_X3_waiting : GoodIn wsL_law (wsV RL 95 RX3 yX3_waiting wsX3_waiting) := goodIn_app (goodIn_r _ [452, 453, 454, 2] (by decide +kernel) (by decide +kernel)) ggL_law_X3_waiting
set_option maxRecDepth 20000 in
theorem ggL_law_X4_waiting : GoodIn wsL_law wsX4_waiting := goodIn_r _ [459, 92, 297, 98, 75, 74, 79, 99, 100, 5, 101, 460, 366, 367, 368, 66, 200, 201, 202, 203, 369, 370, 371, 372, 335, 336, 337, 338, 94, 339, 340, 341, 342, 97, 236, 237, 238, 239, 93, 72, 68, 76, 73, 240, 241, 242, 243, 70, 71, 436, 437, 438, 439, 413, 414, 415, 416, 394, 395, 396, 397, 398, 399, 400, 481, 482, 483, 484, 485, 486, 487, 488, 489, 490, 491, 492, 493, 494, 495, 496, 497, 498, 499, 500] (by decide +kernel) (by decide +kernel)
set_option maxRecDepth 20000 in
theorem gL_law_X4_waiting : GoodIn wsL_law (wsV RL 98 RX4 yX4_waiting wsX4_waiting) := goodIn_app (goodIn_r _ [456, 457, 458, 5] (by decide +kernel) (by decide +kernel)) ggL_law_X4_waiting
set_option maxRecDepth 20000 in
theorem ggL_law_X3_chance : GoodIn wsL_law wsX3_chance := goodIn_r _ [464, 84, 23, 252, 57, 355, 356, 209, 210, 211, 2, 212, 213, 214, 215, 216, 59, 60, 85, 86, 87, 377, 378, 379, 357, 358, 359, 22, 360, 111, 48, 46, 323, 324, 325, 326, 19, 175, 25, 58, 217, 218, 219, 18, 220, 150, 41, 39, 42, 221, 222, 223, 224, 40, 225, 226, 227, 380, 381, 382, 383, 384, 385, 386, 387, 388, 389, 469, 470, 471, 472, 473, 474, 475, 476, 477, 478, 479, 480, 510, 511, 512, 513, 505, 506, 507, 508, 509] (by decide +kernel) (by decide +kernel)
set_option maxRecDepth 20000 in
theorem gL_law_X3_chance : GoodIn wsL_law (wsV RL 99 RX3 yX3_chance wsX3_chance) := goodIn_app (goodIn_r _ [461, 462, 463, 2] (by decide +kernel) (by decide +kernel)) ggL_law_X3_chance
set_option maxRecDepth 20000 in
theorem ggL_law_X4_chance : GoodIn wsL_law wsX4_chance := goodIn_r _ [468, 92, 297, 98, 75, 74, 232, 233, 234, 5, 235, 66, 94, 99, 100, 101, 200, 201, 202, 203, 339, 340, 341, 342, 97, 236, 237, 238, 239, 93, 72, 68, 76, 73, 240, 241, 242, 243, 70, 71, 394, 395, 396, 397, 398, 399, 400, 481, 482, 483, 484, 485, 486, 487, 488, 489, 490, 491, 492, 493, 494, 495, 496, 497, 498, 499, 500] (by decide +kernel) (by decide +kernel)
set_option maxRecDepth 20000 in
theorem gL_law_X4_chance : GoodIn wsL_law (wsV RL 102 RX4 yX4_chance wsX4_chance) := goodIn_app (goodIn_r _ [465, 466, 467, 5] (by decide +kernel) (by decide +kernel)) ggL_law_X4_chance

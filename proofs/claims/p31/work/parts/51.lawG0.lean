set_option maxRecDepth 20000 in
theorem ggL_law_X4_init : GoodIn wsL_law wsX4_init := goodIn_r _ [6, 7, 8, 9, 10, 11, 12, 13, 14, 15, 16, 17, 18, 19, 3, 20, 21, 22, 23, 24, 25, 26, 27, 28, 29, 30, 31, 32, 33, 34, 35, 36, 37, 38, 39, 40, 41, 42, 43, 44, 45, 46, 47, 48, 49, 50, 51, 52, 53, 54, 55, 56, 57, 58, 59, 60, 61, 62, 63, 64, 65, 66, 67, 68, 69, 70, 71, 72, 73, 74, 75, 76, 260, 261, 262, 263, 264, 265, 266, 267, 268, 269, 270, 271, 272, 273, 274, 275, 276, 277, 278, 279, 280, 281, 282, 283, 284, 285, 286, 287, 288, 289, 290, 291, 292, 293, 294, 295] (by decide +kernel) (by decide +kernel)
set_option maxRecDepth 20000 in
theorem gL_law_X4_init : GoodIn wsL_law (wsX4_init) := ggL_law_X4_init
set_option maxRecDepth 20000 in
theorem ggL_law_L_put : GoodIn wsL_law wsL_put := goodIn_r _ [80, 81, 82, 79, 83, 84, 85, 86, 87, 88, 89, 90, 91, 2, 92, 29, 11, 93, 94, 95, 96, 97, 98, 99, 100, 101, 102, 103, 104, 105, 31, 106, 73, 74, 75, 107, 108, 109, 110, 111, 112, 113, 76, 114, 56, 57, 58, 115, 116, 117, 118, 119, 120, 121, 122, 123, 124, 125, 126, 127, 128, 129, 130, 131, 260, 261, 262, 263, 264, 265, 266, 267, 268, 269, 292, 293, 294, 295] (by decide +kernel) (by decide +kernel)
set_option maxRecDepth 20000 in
theorem gL_law_L_put : GoodIn wsL_law (va_wsS RL 46 yL_put wsL_put) := goodIn_app (goodIn_of _ (by decide +kernel)) ggL_law_L_put
set_option maxRecDepth 20000 in
theorem ggL_law_X4_street : GoodIn wsL_law wsX4_street := goodIn_r _ [135, 29, 11, 119, 26, 25, 27, 136, 93, 94, 2, 95, 96, 97, 98, 137, 138, 139, 31, 140, 74, 75, 99, 100, 101, 102, 120, 121, 122, 123, 76, 141, 142, 143, 24, 144, 66, 65, 145, 146, 147, 148, 149, 150, 67, 68, 69, 151, 152, 153, 154, 73, 155, 156, 157, 158, 62, 63, 159, 160, 161, 260, 261, 262, 263, 264, 265, 266, 267, 268, 269, 292, 293, 294, 295, 285, 286, 287, 288, 289, 290, 291] (by decide +kernel) (by decide +kernel)
set_option maxRecDepth 20000 in
theorem gL_law_X4_street : GoodIn wsL_law (wsV RL 49 RX4 yX4_street wsX4_street) := goodIn_app (goodIn_of _ (by decide +kernel)) ggL_law_X4_street
set_option maxRecDepth 20000 in
theorem ggL_law_X4_many : GoodIn wsL_law wsX4_many := goodIn_r _ [165, 25, 136, 166, 167, 168, 27, 260, 261, 262, 263, 264, 265, 266, 267, 268, 269, 285, 286, 287, 288, 289, 290, 291] (by decide +kernel) (by decide +kernel)
set_option maxRecDepth 20000 in
theorem gL_law_X4_many : GoodIn wsL_law (wsV RL 53 RX4 yX4_many wsX4_many) := goodIn_app (goodIn_of _ (by decide +kernel)) ggL_law_X4_many
set_option maxRecDepth 20000 in
theorem ggL_law_L_cell : GoodIn wsL_law wsL_cell := goodIn_r _ [83, 84] (by decide +kernel) (by decide +kernel)
set_option maxRecDepth 20000 in
theorem gL_law_L_cell : GoodIn wsL_law (va_wsS RL 9 yL_cell wsL_cell) := goodIn_app (goodIn_of _ (by decide +kernel)) ggL_law_L_cell
set_option maxRecDepth 20000 in
theorem ggL_law_L_change : GoodIn wsL_law wsL_change := goodIn_r _ [171, 85, 86, 79, 87, 88, 172, 173, 174, 2, 175, 25, 166, 176, 177, 178, 24, 179, 66, 180, 181, 182, 183, 167, 184, 185, 186, 187, 168, 188, 189, 190, 191, 192, 193, 194, 195, 196, 260, 261, 262, 263, 264, 265, 266, 267, 268, 269, 285, 286, 287, 288, 289, 290, 291] (by decide +kernel) (by decide +kernel)
set_option maxRecDepth 20000 in
theorem gL_law_L_change : GoodIn wsL_law (va_wsS RL 56 yL_change wsL_change) := goodIn_app (goodIn_of _ (by decide +kernel)) ggL_law_L_change
set_option maxRecDepth 20000 in
theorem ggL_law_X4_ofFlag : GoodIn wsL_law wsX4_ofFlag := goodIn_r _ [200, 25, 201, 202, 192, 193, 194, 195, 24, 196, 66, 203, 204, 205, 206, 62, 63, 260, 261, 262, 263, 264, 265, 266, 267, 268, 269, 285, 286, 287, 288, 289, 290, 291] (by decide +kernel) (by decide +kernel)
set_option maxRecDepth 20000 in
theorem gL_law_X4_ofFlag : GoodIn wsL_law (wsV RL 60 RX4 yX4_ofFlag wsX4_ofFlag) := goodIn_app (goodIn_of _ (by decide +kernel)) ggL_law_X4_ofFlag
set_option maxRecDepth 20000 in
theorem ggL_law_L_drag : GoodIn wsL_law wsL_drag := goodIn_r _ [209] (by decide +kernel) (by decide +kernel)
set_option maxRecDepth 20000 in
theorem gL_law_L_drag : GoodIn wsL_law (va_wsS RL 42 yL_drag wsL_drag) := goodIn_app (goodIn_of _ (by decide +kernel)) ggL_law_L_drag
set_option maxRecDepth 20000 in
theorem ggL_law_L_some : GoodIn wsL_law wsL_some := goodIn_r _ [87, 88] (by decide +kernel) (by decide +kernel)
set_option maxRecDepth 20000 in
theorem gL_law_L_some : GoodIn wsL_law (va_wsS RL 15 yL_some wsL_some) := goodIn_app (goodIn_of _ (by decide +kernel)) ggL_law_L_some
set_option maxRecDepth 20000 in
theorem ggL_law_X4_sheet : GoodIn wsL_law wsX4_sheet := goodIn_r _ [92, 29, 11, 93, 94, 2, 95, 96, 97, 98, 99, 100, 101, 102, 103, 104, 105, 31, 106, 73, 74, 75, 107, 108, 109, 110, 111, 112, 113, 76, 114, 56, 57, 58, 260, 261, 262, 263, 264, 265, 266, 267, 268, 269, 292, 293, 294, 295] (by decide +kernel) (by decide +kernel)
set_option maxRecDepth 20000 in
theorem gL_law_X4_sheet : GoodIn wsL_law (wsV RL 19 RX4 yX4_sheet wsX4_sheet) := goodIn_app (goodIn_of _ (by decide +kernel)) ggL_law_X4_sheet

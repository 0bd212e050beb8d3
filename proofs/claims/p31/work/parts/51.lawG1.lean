set_option maxRecDepth 20000 in
theorem ggL_law_L_go : GoodIn wsL_law wsL_go := goodIn_r _ [212, 207, 208, 79, 209] (by decide +kernel) (by decide +kernel)
set_option maxRecDepth 20000 in
theorem gL_law_L_go : GoodIn wsL_law (va_wsS RL 63 yL_go wsL_go) := goodIn_app (goodIn_of _ (by decide +kernel)) ggL_law_L_go
set_option maxRecDepth 20000 in
theorem ggL_law_X4_put : GoodIn wsL_law wsX4_put := goodIn_r _ [118, 29, 11, 119, 93, 94, 2, 95, 99, 100, 101, 102, 120, 121, 122, 31, 123, 76, 124, 125, 126, 127, 73, 128, 129, 130, 131, 75, 260, 261, 262, 263, 264, 265, 266, 267, 268, 269, 292, 293, 294, 295] (by decide +kernel) (by decide +kernel)
set_option maxRecDepth 20000 in
theorem gL_law_X4_put : GoodIn wsL_law (wsV RL 25 RX4 yX4_put wsX4_put) := goodIn_app (goodIn_of _ (by decide +kernel)) ggL_law_X4_put
set_option maxRecDepth 20000 in
theorem ggL_law_X4_way : GoodIn wsL_law wsX4_way := goodIn_r _ [216, 29, 11, 119, 25, 93, 94, 2, 95, 96, 97, 98, 137, 138, 139, 31, 140, 74, 75, 99, 100, 101, 102, 120, 121, 122, 123, 76, 176, 177, 178, 24, 179, 66, 217, 218, 219, 220, 152, 153, 154, 73, 221, 222, 223, 224, 15, 225, 226, 227, 14, 228, 35, 36, 37, 38, 229, 39, 40, 41, 230, 231, 232, 233, 234, 235, 194, 195, 196, 236, 237, 238, 239, 240, 241, 108, 109, 110, 242, 112, 113, 243, 244, 245, 246, 247, 248, 204, 205, 206, 62, 63, 249, 250, 251, 252, 253, 254, 255, 256, 257, 258, 259, 260, 261, 262, 263, 264, 265, 266, 267, 268, 269, 292, 293, 294, 295, 285, 286, 287, 288, 289, 290, 291, 270, 271, 272, 273, 274, 275, 276] (by decide +kernel) (by decide +kernel)
set_option maxRecDepth 20000 in
theorem gL_law_X4_way : GoodIn wsL_law (wsV RL 67 RX4 yX4_way wsX4_way) := goodIn_app (goodIn_of _ (by decide +kernel)) ggL_law_X4_way
set_option maxRecDepth 20000 in
theorem ggL_law_X4_strong : GoodIn wsL_law wsX4_strong := goodIn_r _ [175, 25, 166, 176, 177, 178, 24, 179, 66, 260, 261, 262, 263, 264, 265, 266, 267, 268, 269, 285, 286, 287, 288, 289, 290, 291] (by decide +kernel) (by decide +kernel)
set_option maxRecDepth 20000 in
theorem gL_law_X4_strong : GoodIn wsL_law (wsV RL 28 RX4 yX4_strong wsX4_strong) := goodIn_app (goodIn_of _ (by decide +kernel)) ggL_law_X4_strong
set_option maxRecDepth 20000 in
theorem ggL_law_X4_knee : GoodIn wsL_law wsX4_knee := goodIn_r _ [183, 25, 167, 176, 177, 178, 24, 179, 66, 260, 261, 262, 263, 264, 265, 266, 267, 268, 269, 285, 286, 287, 288, 289, 290, 291] (by decide +kernel) (by decide +kernel)
set_option maxRecDepth 20000 in
theorem gL_law_X4_knee : GoodIn wsL_law (wsV RL 32 RX4 yX4_knee wsX4_knee) := goodIn_app (goodIn_of _ (by decide +kernel)) ggL_law_X4_knee
set_option maxRecDepth 20000 in
theorem ggL_law_X4_sole : GoodIn wsL_law wsX4_sole := goodIn_r _ [187, 25, 168, 176, 177, 178, 24, 179, 66, 260, 261, 262, 263, 264, 265, 266, 267, 268, 269, 285, 286, 287, 288, 289, 290, 291] (by decide +kernel) (by decide +kernel)
set_option maxRecDepth 20000 in
theorem gL_law_X4_sole : GoodIn wsL_law (wsV RL 35 RX4 yX4_sole wsX4_sole) := goodIn_app (goodIn_of _ (by decide +kernel)) ggL_law_X4_sole
set_option maxRecDepth 20000 in
theorem ggL_law_X4_grating : GoodIn wsL_law wsX4_grating := goodIn_r _ [191, 25, 192, 193, 194, 195, 24, 196, 66, 260, 261, 262, 263, 264, 265, 266, 267, 268, 269, 285, 286, 287, 288, 289, 290, 291] (by decide +kernel) (by decide +kernel)
set_option maxRecDepth 20000 in
theorem gL_law_X4_grating : GoodIn wsL_law (wsV RL 38 RX4 yX4_grating wsX4_grating) := goodIn_app (goodIn_of _ (by decide +kernel)) ggL_law_X4_grating

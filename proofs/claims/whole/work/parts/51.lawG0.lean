set_option maxRecDepth 20000 in
theorem ggL_law_X4_init : GoodIn wsL_law wsX4_init := goodIn_r _ [8, 9, 10, 11, 12, 13, 14, 15, 16, 17, 18, 19, 20, 21, 22, 23, 24, 25, 26, 27, 28, 29, 30, 31, 32, 33, 34, 35, 36, 37, 38, 39, 40, 41, 42, 43, 44, 45, 46, 47, 48, 49, 50, 51, 52, 53, 54, 55, 56, 57, 58, 59, 60, 61, 62, 63, 64, 65, 66, 67, 68, 69, 70, 71, 72, 73, 74, 75, 76, 77, 78, 79, 638, 639, 640, 641, 642, 643, 644, 645, 646, 647, 680, 681, 682, 683, 684, 685, 686, 687, 688, 689, 690, 691, 692, 693, 694, 695, 696, 697, 698, 699, 700, 701, 702, 703, 704, 705] (by decide +kernel) (by decide +kernel)
set_option maxRecDepth 20000 in
theorem gL_law_X4_init : GoodIn wsL_law (wsX4_init) := ggL_law_X4_init
set_option maxRecDepth 20000 in
theorem ggL_law_X5_init : GoodIn wsL_law wsX5_init := goodIn_r _ [82, 83, 10, 11, 22, 84, 85, 86, 87, 88, 67, 89, 90, 91, 92, 93, 94, 95, 96, 97, 648, 649, 650, 651, 652, 653, 654, 655, 656, 657, 658, 659, 660, 661, 662, 663, 664, 665, 666, 667, 668, 669, 670, 671, 672, 673, 674, 675, 676, 677, 678, 679] (by decide +kernel) (by decide +kernel)
set_option maxRecDepth 20000 in
theorem gL_law_X5_init : GoodIn wsL_law (wsX5_init) := ggL_law_X5_init
set_option maxRecDepth 20000 in
theorem ggL_law_X4_street : GoodIn wsL_law wsX4_street := goodIn_r _ [101, 32, 13, 102, 29, 28, 30, 103, 104, 105, 2, 106, 107, 108, 109, 110, 111, 112, 34, 113, 77, 78, 114, 115, 116, 117, 118, 119, 120, 121, 79, 122, 123, 124, 27, 125, 69, 68, 126, 127, 128, 129, 130, 131, 70, 71, 72, 132, 133, 134, 135, 76, 136, 137, 138, 139, 65, 66, 140, 141, 142, 638, 639, 640, 641, 642, 643, 644, 645, 646, 647, 702, 703, 704, 705, 695, 696, 697, 698, 699, 700, 701] (by decide +kernel) (by decide +kernel)
set_option maxRecDepth 20000 in
theorem gL_law_X4_street : GoodIn wsL_law (wsV RL 13 RX4 yX4_street wsX4_street) := goodIn_app (goodIn_of _ (by decide +kernel)) ggL_law_X4_street
set_option maxRecDepth 20000 in
theorem ggL_law_X5_street : GoodIn wsL_law wsX5_street := goodIn_r _ [146, 147, 148, 90, 149, 150, 151, 152, 153, 87, 91, 88, 92, 89, 93, 154, 155, 156, 5, 157, 158, 159, 160, 161, 162, 163, 164, 165, 166, 167, 84, 85, 168, 169, 170, 171, 172, 173, 174, 175, 176, 177, 178, 179, 86, 180, 181, 182, 183, 184, 185, 186, 187, 648, 649, 650, 651, 652, 653, 654, 655, 656, 657, 658, 659, 660, 661, 662, 663, 664, 665, 666, 667, 668, 669, 670, 671, 672, 673, 674, 675, 676, 677, 678, 679] (by decide +kernel) (by decide +kernel)
set_option maxRecDepth 20000 in
theorem gL_law_X5_street : GoodIn wsL_law (wsV RL 17 RX5 yX5_street wsX5_street) := goodIn_app (goodIn_of _ (by decide +kernel)) ggL_law_X5_street
set_option maxRecDepth 20000 in
theorem ggL_law_X4_ofFlag : GoodIn wsL_law wsX4_ofFlag := goodIn_r _ [191, 28, 192, 193, 194, 195, 196, 197, 27, 198, 69, 199, 200, 201, 202, 65, 66, 638, 639, 640, 641, 642, 643, 644, 645, 646, 647, 695, 696, 697, 698, 699, 700, 701] (by decide +kernel) (by decide +kernel)
set_option maxRecDepth 20000 in
theorem gL_law_X4_ofFlag : GoodIn wsL_law (wsV RL 18 RX4 yX4_ofFlag wsX4_ofFlag) := goodIn_app (goodIn_of _ (by decide +kernel)) ggL_law_X4_ofFlag
set_option maxRecDepth 20000 in
theorem ggL_law_X5_ofFlag : GoodIn wsL_law wsX5_ofFlag := goodIn_r _ [206, 87, 88, 89, 207, 208, 209, 5, 210, 153, 211, 212, 213, 214, 648, 649, 650, 651, 652, 653, 654, 655, 656, 657, 658, 659, 660, 661, 662, 663, 664, 665, 666, 667, 668, 669, 670, 671, 672, 673, 674, 675, 676, 677, 678, 679] (by decide +kernel) (by decide +kernel)
set_option maxRecDepth 20000 in
theorem gL_law_X5_ofFlag : GoodIn wsL_law (wsV RL 22 RX5 yX5_ofFlag wsX5_ofFlag) := goodIn_app (goodIn_of _ (by decide +kernel)) ggL_law_X5_ofFlag
set_option maxRecDepth 20000 in
theorem ggL_law_X4_strong : GoodIn wsL_law wsX4_strong := goodIn_r _ [218, 28, 219, 220, 221, 222, 27, 223, 69, 638, 639, 640, 641, 642, 643, 644, 645, 646, 647, 695, 696, 697, 698, 699, 700, 701] (by decide +kernel) (by decide +kernel)
set_option maxRecDepth 20000 in
theorem gL_law_X4_strong : GoodIn wsL_law (wsV RL 23 RX4 yX4_strong wsX4_strong) := goodIn_app (goodIn_of _ (by decide +kernel)) ggL_law_X4_strong
set_option maxRecDepth 20000 in
theorem ggL_law_X5_strong : GoodIn wsL_law wsX5_strong := goodIn_r _ [227, 153, 149, 158, 159, 5, 160, 648, 649, 650, 651, 652, 653, 654, 655, 656, 657, 658, 659, 660, 661, 662, 663, 664, 665, 666, 667, 668, 669, 670, 671, 672, 673, 674, 675, 676, 677, 678, 679] (by decide +kernel) (by decide +kernel)
set_option maxRecDepth 20000 in
theorem gL_law_X5_strong : GoodIn wsL_law (wsV RL 27 RX5 yX5_strong wsX5_strong) := goodIn_app (goodIn_of _ (by decide +kernel)) ggL_law_X5_strong
set_option maxRecDepth 20000 in
theorem ggL_law_X4_knee : GoodIn wsL_law wsX4_knee := goodIn_r _ [231, 28, 232, 220, 221, 222, 27, 223, 69, 638, 639, 640, 641, 642, 643, 644, 645, 646, 647, 695, 696, 697, 698, 699, 700, 701] (by decide +kernel) (by decide +kernel)
set_option maxRecDepth 20000 in
theorem gL_law_X4_knee : GoodIn wsL_law (wsV RL 28 RX4 yX4_knee wsX4_knee) := goodIn_app (goodIn_of _ (by decide +kernel)) ggL_law_X4_knee
set_option maxRecDepth 20000 in
theorem ggL_law_X5_knee : GoodIn wsL_law wsX5_knee := goodIn_r _ [236, 153, 150, 158, 159, 5, 160, 648, 649, 650, 651, 652, 653, 654, 655, 656, 657, 658, 659, 660, 661, 662, 663, 664, 665, 666, 667, 668, 669, 670, 671, 672, 673, 674, 675, 676, 677, 678, 679] (by decide +kernel) (by decide +kernel)
set_option maxRecDepth 20000 in
theorem gL_law_X5_knee : GoodIn wsL_law (wsV RL 31 RX5 yX5_knee wsX5_knee) := goodIn_app (goodIn_of _ (by decide +kernel)) ggL_law_X5_knee
set_option maxRecDepth 20000 in
theorem ggL_law_X4_sole : GoodIn wsL_law wsX4_sole := goodIn_r _ [240, 28, 241, 220, 221, 222, 27, 223, 69, 638, 639, 640, 641, 642, 643, 644, 645, 646, 647, 695, 696, 697, 698, 699, 700, 701] (by decide +kernel) (by decide +kernel)
set_option maxRecDepth 20000 in
theorem gL_law_X4_sole : GoodIn wsL_law (wsV RL 32 RX4 yX4_sole wsX4_sole) := goodIn_app (goodIn_of _ (by decide +kernel)) ggL_law_X4_sole
set_option maxRecDepth 20000 in
theorem ggL_law_X5_sole : GoodIn wsL_law wsX5_sole := goodIn_r _ [245, 153, 151, 158, 159, 5, 160, 648, 649, 650, 651, 652, 653, 654, 655, 656, 657, 658, 659, 660, 661, 662, 663, 664, 665, 666, 667, 668, 669, 670, 671, 672, 673, 674, 675, 676, 677, 678, 679] (by decide +kernel) (by decide +kernel)
set_option maxRecDepth 20000 in
theorem gL_law_X5_sole : GoodIn wsL_law (wsV RL 35 RX5 yX5_sole wsX5_sole) := goodIn_app (goodIn_of _ (by decide +kernel)) ggL_law_X5_sole
set_option maxRecDepth 20000 in
theorem ggL_law_X4_grating : GoodIn wsL_law wsX4_grating := goodIn_r _ [249, 28, 194, 195, 196, 197, 27, 198, 69, 638, 639, 640, 641, 642, 643, 644, 645, 646, 647, 695, 696, 697, 698, 699, 700, 701] (by decide +kernel) (by decide +kernel)
set_option maxRecDepth 20000 in
theorem gL_law_X4_grating : GoodIn wsL_law (wsV RL 36 RX4 yX4_grating wsX4_grating) := goodIn_app (goodIn_of _ (by decide +kernel)) ggL_law_X4_grating
set_option maxRecDepth 20000 in
theorem ggL_law_X5_grating : GoodIn wsL_law wsX5_grating := goodIn_r _ [253, 89, 207, 208, 209, 5, 210, 153, 648, 649, 650, 651, 652, 653, 654, 655, 656, 657, 658, 659, 660, 661, 662, 663, 664, 665, 666, 667, 668, 669, 670, 671, 672, 673, 674, 675, 676, 677, 678, 679] (by decide +kernel) (by decide +kernel)
set_option maxRecDepth 20000 in
theorem gL_law_X5_grating : GoodIn wsL_law (wsV RL 40 RX5 yX5_grating wsX5_grating) := goodIn_app (goodIn_of _ (by decide +kernel)) ggL_law_X5_grating
set_option maxRecDepth 20000 in
theorem ggL_law_X4_way : GoodIn wsL_law wsX4_way := goodIn_r _ [257, 32, 13, 102, 28, 104, 105, 2, 106, 107, 108, 109, 110, 111, 112, 34, 113, 77, 78, 114, 115, 116, 117, 118, 119, 120, 121, 79, 220, 221, 222, 27, 223, 69, 258, 259, 260, 261, 133, 134, 135, 76, 262, 263, 264, 265, 17, 266, 267, 268, 16, 269, 38, 39, 40, 41, 270, 42, 43, 44, 271, 272, 273, 274, 275, 276, 196, 197, 198, 277, 278, 279, 280, 281, 282, 283, 284, 285, 286, 287, 288, 289, 290, 291, 292, 293, 294, 200, 201, 202, 65, 66, 295, 296, 297, 298, 299, 300, 301, 302, 303, 304, 305, 638, 639, 640, 641, 642, 643, 644, 645, 646, 647, 702, 703, 704, 705, 695, 696, 697, 698, 699, 700, 701, 680, 681, 682, 683, 684, 685, 686] (by decide +kernel) (by decide +kernel)
set_option maxRecDepth 20000 in
theorem gL_law_X4_way : GoodIn wsL_law (wsV RL 41 RX4 yX4_way wsX4_way) := goodIn_app (goodIn_of _ (by decide +kernel)) ggL_law_X4_way
set_option maxRecDepth 20000 in
theorem ggL_law_X5_way : GoodIn wsL_law wsX5_way := goodIn_r _ [309, 147, 153, 86, 155, 156, 5, 157, 158, 159, 160, 161, 162, 163, 164, 165, 166, 167, 84, 85, 168, 169, 170, 171, 310, 311, 312, 313, 314, 315, 316, 317, 318, 319, 320, 321, 322, 323, 151, 324, 325, 326, 327, 328, 150, 329, 330, 331, 332, 149, 333, 334, 335, 336, 89, 211, 212, 213, 214, 87, 88, 337, 338, 339, 340, 648, 649, 650, 651, 652, 653, 654, 655, 656, 657, 658, 659, 660, 661, 662, 663, 664, 665, 666, 667, 668, 669, 670, 671, 672, 673, 674, 675, 676, 677, 678, 679] (by decide +kernel) (by decide +kernel)
set_option maxRecDepth 20000 in
theorem gL_law_X5_way : GoodIn wsL_law (wsV RL 45 RX5 yX5_way wsX5_way) := goodIn_app (goodIn_of _ (by decide +kernel)) ggL_law_X5_way
set_option maxRecDepth 20000 in
theorem ggL_law_X4_quickest : GoodIn wsL_law wsX4_quickest := goodIn_r _ [344, 28, 21, 220, 221, 222, 27, 223, 69, 345, 346, 347, 20, 348, 55, 349, 283, 284, 285, 56, 57, 51, 50, 54, 52, 53, 58, 59, 60, 61, 350, 267, 268, 16, 269, 38, 39, 40, 41, 270, 42, 43, 44, 351, 352, 353, 354, 355, 356, 357, 358, 359, 360, 361, 196, 197, 198, 362, 363, 364, 365, 366, 367, 368, 369, 370, 371, 372, 373, 374, 375, 272, 273, 274, 275, 276, 376, 278, 279, 280, 281, 282, 286, 287, 288, 289, 290, 291, 292, 293, 294, 200, 201, 202, 65, 66, 638, 639, 640, 641, 642, 643, 644, 645, 646, 647, 695, 696, 697, 698, 699, 700, 701, 687, 688, 689, 690, 691, 692, 693, 694, 680, 681, 682, 683, 684, 685, 686] (by decide +kernel) (by decide +kernel)
set_option maxRecDepth 20000 in
theorem gL_law_X4_quickest : GoodIn wsL_law (wsV RL 46 RX4 yX4_quickest wsX4_quickest) := goodIn_app (goodIn_of _ (by decide +kernel)) ggL_law_X4_quickest
set_option maxRecDepth 20000 in
theorem ggL_law_X5_quickest : GoodIn wsL_law wsX5_quickest := goodIn_r _ [380, 153, 381, 382, 383, 5, 384, 385, 386, 387, 388, 389, 94, 390, 317, 318, 319, 320, 321, 322, 323, 151, 324, 314, 315, 316, 391, 392, 393, 394, 395, 396, 397, 398, 399, 400, 401, 325, 326, 327, 328, 150, 329, 330, 331, 332, 149, 333, 334, 335, 336, 89, 211, 212, 213, 214, 87, 88, 648, 649, 650, 651, 652, 653, 654, 655, 656, 657, 658, 659, 660, 661, 662, 663, 664, 665, 666, 667, 668, 669, 670, 671, 672, 673, 674, 675, 676, 677, 678, 679] (by decide +kernel) (by decide +kernel)
set_option maxRecDepth 20000 in
theorem gL_law_X5_quickest : GoodIn wsL_law (wsV RL 50 RX5 yX5_quickest wsX5_quickest) := goodIn_app (goodIn_of _ (by decide +kernel)) ggL_law_X5_quickest
set_option maxRecDepth 20000 in
theorem ggL_law_X4_lightest : GoodIn wsL_law wsX4_lightest := goodIn_r _ [405, 28, 21, 220, 221, 222, 27, 223, 69, 345, 346, 347, 20, 348, 55, 349, 283, 284, 285, 56, 57, 51, 50, 54, 52, 53, 58, 59, 60, 61, 350, 267, 268, 16, 269, 38, 39, 40, 41, 270, 42, 43, 44, 351, 352, 353, 354, 355, 356, 357, 358, 359, 360, 361, 196, 197, 198, 362, 363, 364, 365, 366, 367, 368, 369, 370, 371, 372, 373, 374, 375, 272, 273, 274, 275, 276, 376, 278, 279, 280, 281, 282, 286, 287, 288, 289, 290, 291, 292, 293, 294, 200, 201, 202, 65, 66, 638, 639, 640, 641, 642, 643, 644, 645, 646, 647, 695, 696, 697, 698, 699, 700, 701, 687, 688, 689, 690, 691, 692, 693, 694, 680, 681, 682, 683, 684, 685, 686] (by decide +kernel) (by decide +kernel)
set_option maxRecDepth 20000 in
theorem gL_law_X4_lightest : GoodIn wsL_law (wsV RL 51 RX4 yX4_lightest wsX4_lightest) := goodIn_app (goodIn_of _ (by decide +kernel)) ggL_law_X4_lightest
set_option maxRecDepth 20000 in
theorem ggL_law_X5_lightest : GoodIn wsL_law wsX5_lightest := goodIn_r _ [409, 153, 390, 158, 159, 5, 160, 386, 387, 388, 389, 94, 385, 317, 318, 319, 320, 321, 322, 323, 151, 324, 314, 315, 316, 391, 392, 393, 394, 395, 396, 397, 398, 399, 400, 401, 325, 326, 327, 328, 150, 329, 330, 331, 332, 149, 333, 334, 335, 336, 89, 211, 212, 213, 214, 87, 88, 648, 649, 650, 651, 652, 653, 654, 655, 656, 657, 658, 659, 660, 661, 662, 663, 664, 665, 666, 667, 668, 669, 670, 671, 672, 673, 674, 675, 676, 677, 678, 679] (by decide +kernel) (by decide +kernel)
set_option maxRecDepth 20000 in
theorem gL_law_X5_lightest : GoodIn wsL_law (wsV RL 54 RX5 yX5_lightest wsX5_lightest) := goodIn_app (goodIn_of _ (by decide +kernel)) ggL_law_X5_lightest

set_option maxRecDepth 20000 in
theorem ggL_law_X4_cost : GoodIn wsL_law wsX4_cost := goodIn_r _ [413, 28, 21, 29, 193, 194, 195, 196, 197, 27, 198, 69, 345, 346, 347, 20, 348, 55, 349, 283, 284, 285, 56, 57, 51, 50, 54, 52, 53, 58, 59, 60, 61, 350, 267, 268, 16, 269, 38, 39, 40, 41, 270, 42, 43, 44, 351, 352, 353, 354, 355, 356, 357, 358, 359, 360, 361, 362, 363, 364, 365, 366, 367, 368, 369, 370, 371, 372, 373, 374, 375, 272, 273, 274, 275, 276, 376, 278, 279, 280, 281, 282, 286, 287, 288, 289, 290, 291, 292, 293, 294, 200, 201, 202, 65, 66, 414, 415, 416, 417, 418, 419, 420, 421, 68, 70, 71, 72, 638, 639, 640, 641, 642, 643, 644, 645, 646, 647, 695, 696, 697, 698, 699, 700, 701, 687, 688, 689, 690, 691, 692, 693, 694, 680, 681, 682, 683, 684, 685, 686] (by decide +kernel) (by decide +kernel)
set_option maxRecDepth 20000 in
theorem gL_law_X4_cost : GoodIn wsL_law (wsV RL 55 RX4 yX4_cost wsX4_cost) := goodIn_app (goodIn_of _ (by decide +kernel)) ggL_law_X4_cost
set_option maxRecDepth 20000 in
theorem ggL_law_X5_cost : GoodIn wsL_law wsX5_cost := goodIn_r _ [425, 88, 89, 207, 208, 209, 5, 210, 153, 381, 382, 383, 384, 385, 386, 387, 388, 389, 94, 390, 317, 318, 319, 320, 321, 322, 323, 151, 324, 314, 315, 316, 391, 392, 393, 394, 395, 396, 397, 398, 399, 400, 401, 325, 326, 327, 328, 150, 329, 330, 331, 332, 149, 333, 334, 335, 336, 211, 212, 213, 214, 87, 648, 649, 650, 651, 652, 653, 654, 655, 656, 657, 658, 659, 660, 661, 662, 663, 664, 665, 666, 667, 668, 669, 670, 671, 672, 673, 674, 675, 676, 677, 678, 679] (by decide +kernel) (by decide +kernel)
set_option maxRecDepth 20000 in
theorem gL_law_X5_cost : GoodIn wsL_law (wsV RL 58 RX5 yX5_cost wsX5_cost) := goodIn_app (goodIn_of _ (by decide +kernel)) ggL_law_X5_cost
set_option maxRecDepth 20000 in
theorem ggL_law_X4_reading : GoodIn wsL_law wsX4_reading := goodIn_r _ [429, 28, 30, 23, 220, 221, 222, 27, 223, 69, 638, 639, 640, 641, 642, 643, 644, 645, 646, 647, 695, 696, 697, 698, 699, 700, 701] (by decide +kernel) (by decide +kernel)
set_option maxRecDepth 20000 in
theorem gL_law_X4_reading : GoodIn wsL_law (wsV RL 59 RX4 yX4_reading wsX4_reading) := goodIn_app (goodIn_of _ (by decide +kernel)) ggL_law_X4_reading
set_option maxRecDepth 20000 in
theorem ggL_law_X5_reading : GoodIn wsL_law wsX5_reading := goodIn_r _ [433, 153, 154, 95, 158, 159, 5, 160, 648, 649, 650, 651, 652, 653, 654, 655, 656, 657, 658, 659, 660, 661, 662, 663, 664, 665, 666, 667, 668, 669, 670, 671, 672, 673, 674, 675, 676, 677, 678, 679] (by decide +kernel) (by decide +kernel)
set_option maxRecDepth 20000 in
theorem gL_law_X5_reading : GoodIn wsL_law (wsV RL 62 RX5 yX5_reading wsX5_reading) := goodIn_app (goodIn_of _ (by decide +kernel)) ggL_law_X5_reading
set_option maxRecDepth 20000 in
theorem ggL_law_X4_back : GoodIn wsL_law wsX4_back := goodIn_r _ [437, 30, 638, 639, 640, 641, 642, 643, 644, 645, 646, 647] (by decide +kernel) (by decide +kernel)
set_option maxRecDepth 20000 in
theorem gL_law_X4_back : GoodIn wsL_law (wsV RL 63 RX4 yX4_back wsX4_back) := goodIn_app (goodIn_of _ (by decide +kernel)) ggL_law_X4_back
set_option maxRecDepth 20000 in
theorem ggL_law_X5_back : GoodIn wsL_law wsX5_back := goodIn_r _ [441, 154, 158, 159, 5, 160, 648, 649, 650, 651, 652, 653, 654, 655, 656, 657, 658, 659, 660, 661, 662, 663, 664, 665, 666, 667, 668, 669, 670, 671, 672, 673, 674, 675, 676, 677, 678, 679] (by decide +kernel) (by decide +kernel)
set_option maxRecDepth 20000 in
theorem gL_law_X5_back : GoodIn wsL_law (wsV RL 66 RX5 yX5_back wsX5_back) := goodIn_app (goodIn_of _ (by decide +kernel)) ggL_law_X5_back
set_option maxRecDepth 20000 in
theorem ggL_law_X4_smooth : GoodIn wsL_law wsX4_smooth := goodIn_r _ [445, 28, 29, 193, 195, 196, 197, 27, 198, 69, 414, 415, 416, 417, 65, 418, 419, 420, 421, 66, 68, 70, 71, 72, 446, 447, 448, 2, 449, 30, 21, 23, 345, 346, 347, 20, 348, 55, 349, 283, 284, 285, 56, 57, 51, 50, 54, 52, 53, 58, 59, 60, 61, 350, 267, 268, 16, 269, 38, 39, 40, 41, 270, 42, 43, 44, 351, 352, 353, 354, 355, 356, 357, 358, 359, 360, 361, 362, 363, 364, 365, 366, 367, 368, 369, 370, 371, 372, 373, 374, 375, 272, 273, 274, 275, 276, 376, 278, 279, 280, 281, 282, 286, 287, 288, 289, 290, 291, 292, 293, 294, 200, 201, 202, 638, 639, 640, 641, 642, 643, 644, 645, 646, 647, 695, 696, 697, 698, 699, 700, 701, 687, 688, 689, 690, 691, 692, 693, 694, 680, 681, 682, 683, 684, 685, 686] (by decide +kernel) (by decide +kernel)
set_option maxRecDepth 20000 in
theorem gL_law_X4_smooth : GoodIn wsL_law (wsV RL 67 RX4 yX4_smooth wsX4_smooth) := goodIn_app (goodIn_of _ (by decide +kernel)) ggL_law_X4_smooth
set_option maxRecDepth 20000 in
theorem ggL_law_X5_smooth : GoodIn wsL_law wsX5_smooth := goodIn_r _ [453, 88, 207, 208, 209, 5, 210, 153, 454, 455, 456, 457, 154, 95, 381, 382, 383, 384, 385, 386, 387, 388, 389, 94, 390, 317, 318, 319, 320, 321, 322, 323, 151, 324, 314, 315, 316, 391, 392, 393, 394, 395, 396, 397, 398, 399, 400, 401, 325, 326, 327, 328, 150, 329, 330, 331, 332, 149, 333, 334, 335, 336, 89, 211, 212, 213, 214, 87, 648, 649, 650, 651, 652, 653, 654, 655, 656, 657, 658, 659, 660, 661, 662, 663, 664, 665, 666, 667, 668, 669, 670, 671, 672, 673, 674, 675, 676, 677, 678, 679] (by decide +kernel) (by decide +kernel)
set_option maxRecDepth 20000 in
theorem gL_law_X5_smooth : GoodIn wsL_law (wsV RL 70 RX5 yX5_smooth wsX5_smooth) := goodIn_app (goodIn_of _ (by decide +kernel)) ggL_law_X5_smooth
set_option maxRecDepth 20000 in
theorem ggL_law_X4_kinds : GoodIn wsL_law wsX4_kinds := goodIn_r _ [461, 28, 29, 192, 195, 196, 197, 27, 198, 69, 414, 415, 416, 417, 65, 418, 419, 420, 421, 66, 68, 70, 71, 72, 446, 447, 448, 2, 449, 30, 21, 23, 345, 346, 347, 20, 348, 55, 349, 283, 284, 285, 56, 57, 51, 50, 54, 52, 53, 58, 59, 60, 61, 350, 267, 268, 16, 269, 38, 39, 40, 41, 270, 42, 43, 44, 351, 352, 353, 354, 355, 356, 357, 358, 359, 360, 361, 362, 363, 364, 365, 366, 367, 368, 369, 370, 371, 372, 373, 374, 375, 272, 273, 274, 275, 276, 376, 278, 279, 280, 281, 282, 286, 287, 288, 289, 290, 291, 292, 293, 294, 200, 201, 202, 638, 639, 640, 641, 642, 643, 644, 645, 646, 647, 695, 696, 697, 698, 699, 700, 701, 687, 688, 689, 690, 691, 692, 693, 694, 680, 681, 682, 683, 684, 685, 686] (by decide +kernel) (by decide +kernel)
set_option maxRecDepth 20000 in
theorem gL_law_X4_kinds : GoodIn wsL_law (wsV RL 71 RX4 yX4_kinds wsX4_kinds) := goodIn_app (goodIn_of _ (by decide +kernel)) ggL_law_X4_kinds
set_option maxRecDepth 20000 in
theorem ggL_law_X5_kinds : GoodIn wsL_law wsX5_kinds := goodIn_r _ [465, 87, 207, 208, 209, 5, 210, 153, 454, 455, 456, 457, 154, 95, 381, 382, 383, 384, 385, 386, 387, 388, 389, 94, 390, 317, 318, 319, 320, 321, 322, 323, 151, 324, 314, 315, 316, 391, 392, 393, 394, 395, 396, 397, 398, 399, 400, 401, 325, 326, 327, 328, 150, 329, 330, 331, 332, 149, 333, 334, 335, 336, 89, 211, 212, 213, 214, 88, 648, 649, 650, 651, 652, 653, 654, 655, 656, 657, 658, 659, 660, 661, 662, 663, 664, 665, 666, 667, 668, 669, 670, 671, 672, 673, 674, 675, 676, 677, 678, 679] (by decide +kernel) (by decide +kernel)
set_option maxRecDepth 20000 in
theorem gL_law_X5_kinds : GoodIn wsL_law (wsV RL 74 RX5 yX5_kinds wsX5_kinds) := goodIn_app (goodIn_of _ (by decide +kernel)) ggL_law_X5_kinds
set_option maxRecDepth 20000 in
theorem ggL_law_X4_strengths : GoodIn wsL_law wsX4_strengths := goodIn_r _ [469, 28, 29, 219, 220, 221, 222, 27, 223, 69, 414, 415, 416, 417, 65, 418, 419, 420, 421, 66, 68, 70, 71, 72, 446, 447, 448, 2, 449, 30, 21, 23, 345, 346, 347, 20, 348, 55, 349, 283, 284, 285, 56, 57, 51, 50, 54, 52, 53, 58, 59, 60, 61, 350, 267, 268, 16, 269, 38, 39, 40, 41, 270, 42, 43, 44, 351, 352, 353, 354, 355, 356, 357, 358, 359, 360, 361, 196, 197, 198, 362, 363, 364, 365, 366, 367, 368, 369, 370, 371, 372, 373, 374, 375, 272, 273, 274, 275, 276, 376, 278, 279, 280, 281, 282, 286, 287, 288, 289, 290, 291, 292, 293, 294, 200, 201, 202, 638, 639, 640, 641, 642, 643, 644, 645, 646, 647, 695, 696, 697, 698, 699, 700, 701, 687, 688, 689, 690, 691, 692, 693, 694, 680, 681, 682, 683, 684, 685, 686] (by decide +kernel) (by decide +kernel)
set_option maxRecDepth 20000 in
theorem gL_law_X4_strengths : GoodIn wsL_law (wsV RL 75 RX4 yX4_strengths wsX4_strengths) := goodIn_app (goodIn_of _ (by decide +kernel)) ggL_law_X4_strengths
set_option maxRecDepth 20000 in
theorem ggL_law_X5_strengths : GoodIn wsL_law wsX5_strengths := goodIn_r _ [473, 153, 149, 454, 455, 456, 5, 457, 154, 95, 381, 382, 383, 384, 385, 386, 387, 388, 389, 94, 390, 317, 318, 319, 320, 321, 322, 323, 151, 324, 314, 315, 316, 391, 392, 393, 394, 395, 396, 397, 398, 399, 400, 401, 325, 326, 327, 328, 150, 329, 330, 331, 332, 333, 334, 335, 336, 89, 211, 212, 213, 214, 87, 88, 648, 649, 650, 651, 652, 653, 654, 655, 656, 657, 658, 659, 660, 661, 662, 663, 664, 665, 666, 667, 668, 669, 670, 671, 672, 673, 674, 675, 676, 677, 678, 679] (by decide +kernel) (by decide +kernel)
set_option maxRecDepth 20000 in
theorem gL_law_X5_strengths : GoodIn wsL_law (wsV RL 78 RX5 yX5_strengths wsX5_strengths) := goodIn_app (goodIn_of _ (by decide +kernel)) ggL_law_X5_strengths
set_option maxRecDepth 20000 in
theorem ggL_law_X4_knees : GoodIn wsL_law wsX4_knees := goodIn_r _ [477, 28, 29, 232, 220, 221, 222, 27, 223, 69, 414, 415, 416, 417, 65, 418, 419, 420, 421, 66, 68, 70, 71, 72, 446, 447, 448, 2, 449, 30, 21, 23, 345, 346, 347, 20, 348, 55, 349, 283, 284, 285, 56, 57, 51, 50, 54, 52, 53, 58, 59, 60, 61, 350, 267, 268, 16, 269, 38, 39, 40, 41, 270, 42, 43, 44, 351, 352, 353, 354, 355, 356, 357, 358, 359, 360, 361, 196, 197, 198, 362, 363, 364, 365, 366, 367, 368, 369, 370, 371, 372, 373, 374, 375, 272, 273, 274, 275, 276, 376, 278, 279, 280, 281, 282, 286, 287, 288, 289, 290, 291, 292, 293, 294, 200, 201, 202, 638, 639, 640, 641, 642, 643, 644, 645, 646, 647, 695, 696, 697, 698, 699, 700, 701, 687, 688, 689, 690, 691, 692, 693, 694, 680, 681, 682, 683, 684, 685, 686] (by decide +kernel) (by decide +kernel)
set_option maxRecDepth 20000 in
theorem gL_law_X4_knees : GoodIn wsL_law (wsV RL 79 RX4 yX4_knees wsX4_knees) := goodIn_app (goodIn_of _ (by decide +kernel)) ggL_law_X4_knees
set_option maxRecDepth 20000 in
theorem ggL_law_X5_knees : GoodIn wsL_law wsX5_knees := goodIn_r _ [481, 153, 150, 454, 455, 456, 5, 457, 154, 95, 381, 382, 383, 384, 385, 386, 387, 388, 389, 94, 390, 317, 318, 319, 320, 321, 322, 323, 151, 324, 314, 315, 316, 391, 392, 393, 394, 395, 396, 397, 398, 399, 400, 401, 325, 326, 327, 328, 329, 330, 331, 332, 149, 333, 334, 335, 336, 89, 211, 212, 213, 214, 87, 88, 648, 649, 650, 651, 652, 653, 654, 655, 656, 657, 658, 659, 660, 661, 662, 663, 664, 665, 666, 667, 668, 669, 670, 671, 672, 673, 674, 675, 676, 677, 678, 679] (by decide +kernel) (by decide +kernel)
set_option maxRecDepth 20000 in
theorem gL_law_X5_knees : GoodIn wsL_law (wsV RL 82 RX5 yX5_knees wsX5_knees) := goodIn_app (goodIn_of _ (by decide +kernel)) ggL_law_X5_knees
set_option maxRecDepth 20000 in
theorem ggL_law_X4_odds : GoodIn wsL_law wsX4_odds := goodIn_r _ [485, 486, 28, 29, 220, 221, 222, 27, 223, 69, 487, 488, 489, 2, 490, 103, 192, 24, 414, 415, 416, 417, 65, 418, 419, 420, 421, 66, 68, 70, 71, 72, 491, 492, 493, 494, 21, 345, 346, 347, 20, 348, 55, 349, 283, 284, 285, 56, 57, 51, 50, 54, 52, 53, 58, 59, 60, 61, 350, 267, 268, 16, 269, 38, 39, 40, 41, 270, 42, 43, 44, 351, 352, 353, 354, 355, 356, 357, 358, 359, 360, 361, 196, 197, 198, 362, 363, 364, 365, 366, 367, 368, 369, 370, 371, 372, 373, 374, 375, 272, 273, 274, 275, 276, 376, 278, 279, 280, 281, 282, 286, 287, 288, 289, 290, 291, 292, 293, 294, 200, 201, 202, 638, 639, 640, 641, 642, 643, 644, 645, 646, 647, 695, 696, 697, 698, 699, 700, 701, 687, 688, 689, 690, 691, 692, 693, 694, 680, 681, 682, 683, 684, 685, 686] (by decide +kernel) (by decide +kernel)
set_option maxRecDepth 20000 in
theorem gL_law_X4_odds : GoodIn wsL_law (wsV RL 83 RX4 yX4_odds wsX4_odds) := goodIn_app (goodIn_of _ (by decide +kernel)) ggL_law_X4_odds
set_option maxRecDepth 20000 in
theorem ggL_law_X5_odds : GoodIn wsL_law wsX5_odds := goodIn_r _ [498, 153, 499, 96, 87, 97, 158, 159, 5, 160, 381, 382, 383, 384, 385, 386, 387, 388, 389, 94, 390, 317, 318, 319, 320, 321, 322, 323, 151, 324, 314, 315, 316, 391, 392, 393, 394, 395, 396, 397, 398, 399, 400, 401, 325, 326, 327, 328, 150, 329, 330, 331, 332, 149, 333, 334, 335, 336, 89, 211, 212, 213, 214, 88, 500, 501, 502, 648, 649, 650, 651, 652, 653, 654, 655, 656, 657, 658, 659, 660, 661, 662, 663, 664, 665, 666, 667, 668, 669, 670, 671, 672, 673, 674, 675, 676, 677, 678, 679] (by decide +kernel) (by decide +kernel)
set_option maxRecDepth 20000 in
theorem gL_law_X5_odds : GoodIn wsL_law (wsV RL 87 RX5 yX5_odds wsX5_odds) := goodIn_app (goodIn_of _ (by decide +kernel)) ggL_law_X5_odds
set_option maxRecDepth 20000 in
theorem ggL_law_X4_sheet : GoodIn wsL_law wsX4_sheet := goodIn_r _ [506, 32, 13, 104, 105, 2, 106, 107, 108, 109, 114, 115, 116, 117, 507, 508, 509, 34, 510, 76, 77, 78, 511, 283, 284, 285, 512, 287, 288, 79, 513, 59, 60, 61, 638, 639, 640, 641, 642, 643, 644, 645, 646, 647, 702, 703, 704, 705] (by decide +kernel) (by decide +kernel)
set_option maxRecDepth 20000 in
theorem gL_law_X4_sheet : GoodIn wsL_law (wsV RL 88 RX4 yX4_sheet wsX4_sheet) := goodIn_app (goodIn_of _ (by decide +kernel)) ggL_law_X4_sheet
set_option maxRecDepth 20000 in
theorem ggL_law_X5_sheet : GoodIn wsL_law wsX5_sheet := goodIn_r _ [517, 147, 84, 85, 86, 155, 156, 5, 157, 158, 159, 160, 161, 162, 163, 168, 169, 170, 171, 648, 649, 650, 651, 652, 653, 654, 655, 656, 657, 658, 659, 660, 661, 662, 663, 664, 665, 666, 667, 668, 669, 670, 671, 672, 673, 674, 675, 676, 677, 678, 679] (by decide +kernel) (by decide +kernel)
set_option maxRecDepth 20000 in
theorem gL_law_X5_sheet : GoodIn wsL_law (wsV RL 92 RX5 yX5_sheet wsX5_sheet) := goodIn_app (goodIn_of _ (by decide +kernel)) ggL_law_X5_sheet
set_option maxRecDepth 20000 in
theorem ggL_law_X4_lose : GoodIn wsL_law wsX4_lose := goodIn_r _ [521, 13, 102, 104, 105, 2, 106, 638, 639, 640, 641, 642, 643, 644, 645, 646, 647, 702, 703, 704, 705] (by decide +kernel) (by decide +kernel)
set_option maxRecDepth 20000 in
theorem gL_law_X4_lose : GoodIn wsL_law (wsV RL 93 RX4 yX4_lose wsX4_lose) := goodIn_app (goodIn_of _ (by decide +kernel)) ggL_law_X4_lose
set_option maxRecDepth 20000 in
theorem ggL_law_X5_lose : GoodIn wsL_law wsX5_lose := goodIn_r _ [525, 84, 155, 156, 5, 157, 158, 159, 160, 648, 649, 650, 651, 652, 653, 654, 655, 656, 657, 658, 659, 660, 661, 662, 663, 664, 665, 666, 667, 668, 669, 670, 671, 672, 673, 674, 675, 676, 677, 678, 679] (by decide +kernel) (by decide +kernel)
set_option maxRecDepth 20000 in
theorem gL_law_X5_lose : GoodIn wsL_law (wsV RL 96 RX5 yX5_lose wsX5_lose) := goodIn_app (goodIn_of _ (by decide +kernel)) ggL_law_X5_lose

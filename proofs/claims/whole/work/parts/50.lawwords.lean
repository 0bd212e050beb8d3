/-! the law's words stand in the tables -/
theorem in_p {big : List Cond} (ws : List Cond) (ps : List Nat) (hp : ws = ps.filterMap (fun i => big[i]?)) : ∀ w ∈ ws, w ∈ big := by
  intro w hw
  rw [hp] at hw
  obtain ⟨i, -, hi⟩ := List.mem_filterMap.mp hw
  first | exact List.mem_of_getElem? hi | exact List.getElem?_mem hi
set_option maxRecDepth 20000 in
theorem inr1 : ∀ w ∈ wsL_law_r1, w ∈ lw_tbl := in_p _ [50, 51, 41, 513, 514, 47, 52, 53, 54, 55, 56, 57, 58, 200, 60, 61, 42, 201, 102, 103, 43, 202, 138, 203] (by decide +kernel)
set_option maxRecDepth 20000 in
theorem inr2 : ∀ w ∈ wsL_law_r2, w ∈ lw_tbl := in_p _ [204, 139, 140, 45, 205, 206, 207, 208, 209, 179, 46, 63, 64, 65, 66, 69, 72, 75, 78, 81, 84, 104, 105, 106] (by decide +kernel)
set_option maxRecDepth 20000 in
theorem inr3 : ∀ w ∈ wsL_law_r3, w ∈ lw_tbl := in_p _ [107, 108, 113, 114, 115, 116, 117, 118, 119, 120, 110, 111, 44, 112, 142, 143, 144, 145, 147, 178, 149, 152, 154, 157] (by decide +kernel)
set_option maxRecDepth 20000 in
theorem inr4 : ∀ w ∈ wsL_law_r4, w ∈ lw_tbl := in_p _ [160, 181, 182, 183, 184, 186, 188, 190, 515, 516, 517, 518, 521, 522, 523, 528, 529, 530, 533, 534, 535, 536, 544, 548] (by decide +kernel)
set_option maxRecDepth 20000 in
theorem inr5 : ∀ w ∈ wsL_law_r5, w ∈ lw_tbl := in_p _ [549, 550, 231, 232, 233, 234, 187, 153, 235, 236, 237, 238, 239, 240, 241, 242, 243, 244, 245, 247, 0, 248, 249, 250] (by decide +kernel)
set_option maxRecDepth 20000 in
theorem inr6 : ∀ w ∈ wsL_law_r6, w ∈ lw_tbl := in_p _ [251, 252, 253, 254, 255, 256, 257, 259, 1, 260, 265, 267, 261, 262, 263, 264, 269, 271, 2, 272, 273, 274, 275, 616] (by decide +kernel)
set_option maxRecDepth 20000 in
theorem inr7 : ∀ w ∈ wsL_law_r7, w ∈ lw_tbl := in_p _ [617, 618, 619, 519, 531, 525, 526, 527, 532, 524, 547, 620, 621, 622, 623, 624, 625, 626, 627, 628, 629, 631, 19, 632] (by decide +kernel)
set_option maxRecDepth 20000 in
theorem inr8 : ∀ w ∈ wsL_law_r8, w ∈ lw_tbl := in_p _ [633, 635, 20, 636, 637, 639, 21, 640, 641, 643, 22, 644, 645, 647, 23, 648, 649, 651, 24, 652, 276, 277, 278, 279] (by decide +kernel)
set_option maxRecDepth 20000 in
theorem inr9 : ∀ w ∈ wsL_law_r9, w ∈ lw_tbl := in_p _ [146, 148, 150, 280, 281, 282, 283, 284, 285, 286, 287, 653, 654, 655, 656, 657, 659, 25, 660, 661, 663, 26, 664, 288] (by decide +kernel)
set_option maxRecDepth 20000 in
theorem inr10 : ∀ w ∈ wsL_law_r10, w ∈ lw_tbl := in_p _ [289, 290, 291, 155, 292, 293, 294, 295, 665, 666, 667, 668, 296, 297, 298, 299, 159, 669, 670, 671, 672, 300, 301, 302] (by decide +kernel)
set_option maxRecDepth 20000 in
theorem inr11 : ∀ w ∈ wsL_law_r11, w ∈ lw_tbl := in_p _ [303, 162, 673, 674, 675, 676, 304, 305, 306, 307, 677, 678, 679, 680, 308, 309, 310, 311, 312, 313, 314, 315, 316, 318] (by decide +kernel)
set_option maxRecDepth 20000 in
theorem inr12 : ∀ w ∈ wsL_law_r12, w ∈ lw_tbl := in_p _ [3, 319, 320, 321, 322, 323, 161, 324, 325, 326, 327, 158, 328, 329, 330, 331, 332, 156, 333, 334, 48, 335, 336, 337] (by decide +kernel)
set_option maxRecDepth 20000 in
theorem inr13 : ∀ w ∈ wsL_law_r13, w ∈ lw_tbl := in_p _ [338, 339, 341, 4, 342, 151, 343, 344, 346, 5, 347, 83, 68, 71, 74, 77, 80, 86, 681, 682, 683, 684, 685, 687] (by decide +kernel)
set_option maxRecDepth 20000 in
theorem inr14 : ∀ w ∈ wsL_law_r14, w ∈ lw_tbl := in_p _ [27, 688, 541, 542, 543, 689, 691, 28, 692, 537, 538, 539, 540, 693, 695, 29, 696, 697, 699, 30, 700, 701, 703, 31] (by decide +kernel)
set_option maxRecDepth 20000 in
theorem inr15 : ∀ w ∈ wsL_law_r15, w ∈ lw_tbl := in_p _ [704, 705, 707, 32, 708, 348, 349, 350, 351, 352, 353, 354, 355, 356, 357, 358, 360, 6, 361, 85, 67, 70, 76, 79] (by decide +kernel)
set_option maxRecDepth 20000 in
theorem inr16 : ∀ w ∈ wsL_law_r16, w ∈ lw_tbl := in_p _ [82, 362, 363, 365, 7, 366, 367, 369, 8, 370, 371, 373, 9, 374, 73, 375, 376, 709, 710, 711, 712, 713, 715, 33] (by decide +kernel)
set_option maxRecDepth 20000 in
theorem inr17 : ∀ w ∈ wsL_law_r17, w ∈ lw_tbl := in_p _ [716, 545, 717, 719, 34, 720, 546, 721, 723, 35, 724, 725, 726, 727, 728, 730, 36, 731, 377, 378, 379, 380, 732, 733] (by decide +kernel)
set_option maxRecDepth 20000 in
theorem inr18 : ∀ w ∈ wsL_law_r18, w ∈ lw_tbl := in_p _ [734, 735, 381, 382, 383, 384, 385, 386, 387, 388, 389, 391, 390, 49, 736, 737, 738, 739, 392, 393, 394, 395, 740, 741] (by decide +kernel)
set_option maxRecDepth 20000 in
theorem inr19 : ∀ w ∈ wsL_law_r19, w ∈ lw_tbl := in_p _ [742, 743, 396, 397, 398, 399, 744, 745, 746, 747, 400, 401, 402, 403, 404, 406, 10, 407, 748, 749, 750, 751, 752, 754] (by decide +kernel)
set_option maxRecDepth 20000 in
theorem inr20 : ∀ w ∈ wsL_law_r20, w ∈ lw_tbl := in_p _ [37, 755, 408, 409, 410, 411, 756, 757, 758, 759, 412, 413, 414, 415, 760, 761, 762, 763, 416, 417, 418, 419, 764, 765] (by decide +kernel)
set_option maxRecDepth 20000 in
theorem inr21 : ∀ w ∈ wsL_law_r21, w ∈ lw_tbl := in_p _ [766, 767, 420, 421, 422, 423, 424, 425, 427, 11, 428, 429, 431, 12, 432, 768, 769, 770, 771, 772, 773, 774, 775, 433] (by decide +kernel)
set_option maxRecDepth 20000 in
theorem inr22 : ∀ w ∈ wsL_law_r22, w ∈ lw_tbl := in_p _ [434, 435, 436, 437, 438, 439, 440, 442, 443, 441, 776, 777, 778, 779, 444, 445, 446, 447, 780, 781, 782, 783, 448, 449] (by decide +kernel)
set_option maxRecDepth 20000 in
theorem inr23 : ∀ w ∈ wsL_law_r23, w ∈ lw_tbl := in_p _ [450, 451, 452, 453, 454, 455, 456, 458, 13, 459, 784, 785, 786, 787, 460, 461, 462, 463, 464, 466, 14, 467, 788, 789] (by decide +kernel)
set_option maxRecDepth 20000 in
theorem inr24 : ∀ w ∈ wsL_law_r24, w ∈ lw_tbl := in_p _ [790, 791, 792, 794, 38, 795, 468, 469, 470, 471, 189, 185, 472, 796, 797, 798, 799, 473, 474, 475, 476, 477, 479, 15] (by decide +kernel)
set_option maxRecDepth 20000 in
theorem inr25 : ∀ w ∈ wsL_law_r25, w ∈ lw_tbl := in_p _ [480, 481, 483, 16, 484, 485, 487, 17, 488, 489, 491, 18, 492, 800, 801, 802, 803, 804, 806, 39, 807, 520, 493, 494] (by decide +kernel)
set_option maxRecDepth 20000 in
theorem inr26 : ∀ w ∈ wsL_law_r26, w ∈ lw_tbl := in_p _ [495, 496, 808, 809, 810, 811, 497, 498, 499, 500, 812, 813, 814, 815, 501, 502, 503, 504, 816, 817, 818, 819, 505, 506] (by decide +kernel)
set_option maxRecDepth 20000 in
theorem inr27 : ∀ w ∈ wsL_law_r27, w ∈ lw_tbl := in_p _ [507, 508, 820, 821, 822, 823, 509, 510, 511, 512, 824, 825, 826, 827] (by decide +kernel)
set_option maxRecDepth 20000 in
theorem inX0 : ∀ w ∈ wsX00, w ∈ lw_tbl := in_p _ [87, 89, 91, 93, 95, 97, 99] (by decide +kernel)
set_option maxRecDepth 20000 in
theorem inX1 : ∀ w ∈ wsX10, w ∈ lw_tbl := in_p _ [191, 193, 195, 197] (by decide +kernel)
set_option maxRecDepth 20000 in
theorem inX2 : ∀ w ∈ wsX20, w ∈ lw_tbl := in_p _ [121, 123, 125, 127, 129, 131, 133, 135] (by decide +kernel)
set_option maxRecDepth 20000 in
theorem inX3 : ∀ w ∈ wsX30, w ∈ lw_tbl := in_p _ [163, 165, 167, 169, 171, 173, 175] (by decide +kernel)
set_option maxRecDepth 20000 in
theorem inX4 : ∀ w ∈ wsX40, w ∈ lw_tbl := in_p _ [210, 212, 214, 216, 218, 220, 222, 224, 226, 228] (by decide +kernel)
set_option maxRecDepth 20000 in
theorem inX5 : ∀ w ∈ wsX50, w ∈ lw_tbl := in_p _ [551, 553, 555, 557, 559, 561, 563, 565, 567, 569, 571, 573, 575, 577, 579, 581, 583, 585, 587, 589, 591, 593, 595, 597, 599, 601, 603, 605, 607, 609, 611, 613] (by decide +kernel)
theorem ap2 {big a b : List Cond} (ha : ∀ w ∈ a, w ∈ big) (hb : ∀ w ∈ b, w ∈ big) : ∀ w ∈ a ++ b, w ∈ big := fun w h => (List.mem_append.mp h).elim (ha w) (hb w)
theorem wsL_law_in : ∀ w ∈ wsL_law, w ∈ lw_tbl := ap2 (ap2 (ap2 (ap2 (ap2 (ap2 (ap2 (ap2 inr1 (ap2 inr2 (ap2 inr3 (ap2 inr4 (ap2 inr5 (ap2 inr6 (ap2 inr7 (ap2 inr8 (ap2 inr9 (ap2 inr10 (ap2 inr11 (ap2 inr12 (ap2 inr13 (ap2 inr14 (ap2 inr15 (ap2 inr16 (ap2 inr17 (ap2 inr18 (ap2 inr19 (ap2 inr20 (ap2 inr21 (ap2 inr22 (ap2 inr23 (ap2 inr24 (ap2 inr25 (ap2 inr26 (inr27))))))))))))))))))))))))))) inX4) inX5) inX0) inX2) inX3) inX1) (fun _ h => absurd h List.not_mem_nil)

/-! the law's words stand in the tables -/
theorem in_p {big : List Cond} (ws : List Cond) (ps : List Nat) (hp : ws = ps.filterMap (fun i => big[i]?)) : ∀ w ∈ ws, w ∈ big := by
  intro w hw
  rw [hp] at hw
  obtain ⟨i, -, hi⟩ := List.mem_filterMap.mp hw
  first | exact List.mem_of_getElem? hi | exact List.getElem?_mem hi
set_option maxRecDepth 20000 in
theorem inr1 : ∀ w ∈ wsL_law_r1, w ∈ lw_tbl := in_p _ [15, 16, 8, 96, 17, 18, 19, 20, 21, 22, 23, 156, 25, 26, 9, 157, 60, 61, 10, 158, 159, 160, 97, 98] (by decide +kernel)
set_option maxRecDepth 20000 in
theorem inr2 : ∀ w ∈ wsL_law_r2, w ∈ lw_tbl := in_p _ [12, 161, 162, 163, 164, 165, 137, 13, 28, 29, 30, 31, 33, 35, 37, 39, 41, 43, 62, 63, 64, 65, 66, 71] (by decide +kernel)
set_option maxRecDepth 20000 in
theorem inr3 : ∀ w ∈ wsL_law_r3, w ∈ lw_tbl := in_p _ [72, 73, 74, 75, 76, 77, 78, 68, 69, 11, 70, 100, 101, 102, 103, 105, 136, 107, 110, 112, 115, 118, 139, 140] (by decide +kernel)
set_option maxRecDepth 20000 in
theorem inr4 : ∀ w ∈ wsL_law_r4, w ∈ lw_tbl := in_p _ [141, 142, 143, 145, 146, 339, 340, 7, 341, 331, 332, 333, 334, 335, 336, 337, 338, 304, 305, 306, 307, 191, 192, 193] (by decide +kernel)
set_option maxRecDepth 20000 in
theorem inr5 : ∀ w ∈ wsL_law_r5, w ∈ lw_tbl := in_p _ [194, 195, 196, 201, 203, 0, 204, 308, 309, 310, 311, 313, 290, 14, 291, 314, 293, 294, 312, 315, 316, 317, 318, 144] (by decide +kernel)
set_option maxRecDepth 20000 in
theorem inr6 : ∀ w ∈ wsL_law_r6, w ∈ lw_tbl := in_p _ [205, 206, 207, 208, 319, 320, 321, 322, 323, 325, 6, 326, 187, 188, 189, 190, 111, 197, 198, 199, 200, 209, 210, 211] (by decide +kernel)
set_option maxRecDepth 20000 in
theorem inr7 : ∀ w ∈ wsL_law_r7, w ∈ lw_tbl := in_p _ [212, 213, 215, 1, 216, 221, 223, 217, 218, 219, 220, 225, 227, 2, 228, 229, 230, 231, 327, 328, 329, 330, 113, 117] (by decide +kernel)
set_option maxRecDepth 20000 in
theorem inr8 : ∀ w ∈ wsL_law_r8, w ∈ lw_tbl := in_p _ [120, 342, 343, 344, 244, 245, 246, 247, 248, 249, 250, 251, 252, 253, 254, 255, 256, 257, 258, 259, 260, 261, 262, 263] (by decide +kernel)
set_option maxRecDepth 20000 in
theorem inr9 : ∀ w ∈ wsL_law_r9, w ∈ lw_tbl := in_p _ [108, 236, 237, 238, 239, 232, 233, 234, 235, 104, 106, 240, 241, 242, 243, 345, 346, 347, 348, 349, 350, 264, 265, 266] (by decide +kernel)
set_option maxRecDepth 20000 in
theorem inr10 : ∀ w ∈ wsL_law_r10, w ∈ lw_tbl := in_p _ [267, 268, 269, 270, 271, 272, 274, 3, 275, 276, 277, 278, 279, 119, 280, 281, 282, 283, 116, 284, 285, 286, 287, 288] (by decide +kernel)
set_option maxRecDepth 20000 in
theorem inr11 : ∀ w ∈ wsL_law_r11, w ∈ lw_tbl := in_p _ [114, 289, 292, 295, 297, 4, 298, 109, 299, 300, 302, 5, 303, 42, 32, 34, 36, 38, 40, 44] (by decide +kernel)
set_option maxRecDepth 20000 in
theorem inX0 : ∀ w ∈ wsX00, w ∈ lw_tbl := in_p _ [45, 47, 49, 51, 53, 55, 57] (by decide +kernel)
set_option maxRecDepth 20000 in
theorem inX1 : ∀ w ∈ wsX10, w ∈ lw_tbl := in_p _ [147, 149, 151, 153] (by decide +kernel)
set_option maxRecDepth 20000 in
theorem inX2 : ∀ w ∈ wsX20, w ∈ lw_tbl := in_p _ [79, 81, 83, 85, 87, 89, 91, 93] (by decide +kernel)
set_option maxRecDepth 20000 in
theorem inX3 : ∀ w ∈ wsX30, w ∈ lw_tbl := in_p _ [121, 123, 125, 127, 129, 131, 133] (by decide +kernel)
set_option maxRecDepth 20000 in
theorem inX4 : ∀ w ∈ wsX40, w ∈ lw_tbl := in_p _ [166, 168, 170, 172, 174, 176, 178, 180, 182, 184] (by decide +kernel)
theorem ap2 {big a b : List Cond} (ha : ∀ w ∈ a, w ∈ big) (hb : ∀ w ∈ b, w ∈ big) : ∀ w ∈ a ++ b, w ∈ big := fun w h => (List.mem_append.mp h).elim (ha w) (hb w)
theorem wsL_law_in : ∀ w ∈ wsL_law, w ∈ lw_tbl := ap2 (ap2 (ap2 (ap2 (ap2 (ap2 (ap2 inr1 (ap2 inr2 (ap2 inr3 (ap2 inr4 (ap2 inr5 (ap2 inr6 (ap2 inr7 (ap2 inr8 (ap2 inr9 (ap2 inr10 (inr11))))))))))) inX4) inX0) inX2) inX3) inX1) (fun _ h => absurd h List.not_mem_nil)
theorem inlX0 : ∀ w ∈ wsX00, w ∈ wsL_law := fun _ h => List.mem_append_left _ (List.mem_append_left _ (List.mem_append_left _ (List.mem_append_left _ (List.mem_append_right _ h))))
theorem inlX1 : ∀ w ∈ wsX10, w ∈ wsL_law := fun _ h => List.mem_append_left _ (List.mem_append_right _ h)
theorem inlX2 : ∀ w ∈ wsX20, w ∈ wsL_law := fun _ h => List.mem_append_left _ (List.mem_append_left _ (List.mem_append_left _ (List.mem_append_right _ h)))
theorem inlX3 : ∀ w ∈ wsX30, w ∈ wsL_law := fun _ h => List.mem_append_left _ (List.mem_append_left _ (List.mem_append_right _ h))
theorem inlX4 : ∀ w ∈ wsX40, w ∈ wsL_law := fun _ h => List.mem_append_left _ (List.mem_append_left _ (List.mem_append_left _ (List.mem_append_left _ (List.mem_append_left _ (List.mem_append_right _ h)))))

set_option maxRecDepth 20000 in
theorem qz_in {big : List Cond} (ws : List Cond) (ps : List Nat) (hp : ws = ps.filterMap (fun i => big[i]?)) : ∀ w ∈ ws, w ∈ big := by
  intro w hw
  rw [hp] at hw
  obtain ⟨i, -, hi⟩ := List.mem_filterMap.mp hw
  exact List.mem_of_getElem? hi
set_option maxRecDepth 20000 in
theorem qz_wsL_law_r1_in : ∀ w ∈ wsL_law_r1, w ∈ lw_tbl := qz_in _ [39, 40, 32, 381, 382, 36, 41, 42, 43, 44, 45, 46, 47, 48, 33, 139, 140, 141, 142, 121, 122, 35, 144, 49] (by decide +kernel)
set_option maxRecDepth 20000 in
theorem qz_wsL_law_r2_in : ∀ w ∈ wsL_law_r2, w ∈ lw_tbl := qz_in _ [50, 51, 52, 119, 76, 78, 80, 53, 82, 84, 86, 88, 55, 56, 57, 58, 64, 66, 68, 70, 72, 74, 59, 60] (by decide +kernel)
set_option maxRecDepth 20000 in
theorem qz_wsL_law_r3_in : ∀ w ∈ wsL_law_r3, w ∈ lw_tbl := qz_in _ [34, 61, 124, 125, 126, 127, 383, 384, 385, 386, 391, 392, 393, 396, 400, 401, 387, 389, 16, 390, 158, 159, 160, 161] (by decide +kernel)
set_option maxRecDepth 20000 in
theorem qz_wsL_law_r4_in : ∀ w ∈ wsL_law_r4, w ∈ lw_tbl := qz_in _ [162, 164, 0, 165, 166, 167, 168, 169, 62, 170, 172, 171, 37, 173, 174, 175, 176, 177, 178, 179, 180, 182, 1, 183] (by decide +kernel)
set_option maxRecDepth 20000 in
theorem qz_wsL_law_r5_in : ∀ w ∈ wsL_law_r5, w ∈ lw_tbl := qz_in _ [184, 185, 186, 187, 188, 189, 190, 192, 2, 193, 202, 203, 38, 204, 194, 196, 3, 197, 198, 199, 200, 201, 205, 207] (by decide +kernel)
set_option maxRecDepth 20000 in
theorem qz_wsL_law_r6_in : ∀ w ∈ wsL_law_r6, w ∈ lw_tbl := qz_in _ [4, 208, 209, 211, 5, 212, 213, 215, 6, 216, 217, 219, 7, 220, 221, 222, 223, 224, 226, 8, 227, 228, 230, 9] (by decide +kernel)
set_option maxRecDepth 20000 in
theorem qz_wsL_law_r7_in : ∀ w ∈ wsL_law_r7, w ∈ lw_tbl := qz_in _ [231, 232, 234, 10, 235, 236, 238, 11, 239, 143, 240, 242, 12, 243, 425, 426, 427, 428, 429, 430, 431, 432, 434, 17] (by decide +kernel)
set_option maxRecDepth 20000 in
theorem qz_wsL_law_r8_in : ∀ w ∈ wsL_law_r8, w ∈ lw_tbl := qz_in _ [435, 395, 394, 436, 438, 18, 439, 440, 442, 19, 443, 244, 245, 246, 247, 444, 445, 446, 447, 248, 249, 250, 251, 448] (by decide +kernel)
set_option maxRecDepth 20000 in
theorem qz_wsL_law_r9_in : ∀ w ∈ wsL_law_r9, w ∈ lw_tbl := qz_in _ [449, 450, 451, 452, 454, 20, 455, 456, 458, 21, 459, 460, 462, 22, 463, 464, 465, 466, 252, 253, 254, 255, 467, 468] (by decide +kernel)
set_option maxRecDepth 20000 in
theorem qz_wsL_law_r10_in : ∀ w ∈ wsL_law_r10, w ∈ lw_tbl := qz_in _ [469, 470, 256, 257, 258, 259, 63, 471, 472, 473, 474, 260, 261, 262, 263, 65, 264, 265, 266, 267, 475, 476, 477, 478] (by decide +kernel)
set_option maxRecDepth 20000 in
theorem qz_wsL_law_r11_in : ∀ w ∈ wsL_law_r11, w ∈ lw_tbl := qz_in _ [268, 269, 270, 271, 479, 480, 481, 482, 272, 273, 274, 275, 129, 276, 277, 278, 279, 128, 483, 484, 485, 486, 397, 280] (by decide +kernel)
set_option maxRecDepth 20000 in
theorem qz_wsL_law_r12_in : ∀ w ∈ wsL_law_r12, w ∈ lw_tbl := qz_in _ [281, 282, 283, 487, 488, 489, 490, 284, 285, 286, 287, 131, 288, 290, 13, 291, 292, 293, 294, 295, 130, 296, 297, 298] (by decide +kernel)
set_option maxRecDepth 20000 in
theorem qz_wsL_law_r13_in : ∀ w ∈ wsL_law_r13, w ∈ lw_tbl := qz_in _ [299, 300, 302, 14, 303, 304, 305, 306, 307, 308, 309, 310, 311, 312, 313, 314, 315, 316, 317, 318, 319, 320, 321, 322] (by decide +kernel)
set_option maxRecDepth 20000 in
theorem qz_wsL_law_r14_in : ∀ w ∈ wsL_law_r14, w ∈ lw_tbl := qz_in _ [323, 491, 492, 493, 494, 398, 495, 497, 23, 498, 499, 501, 24, 502, 399, 503, 505, 25, 506, 507, 509, 26, 510, 511] (by decide +kernel)
set_option maxRecDepth 20000 in
theorem qz_wsL_law_r15_in : ∀ w ∈ wsL_law_r15, w ∈ lw_tbl := qz_in _ [512, 513, 514, 515, 517, 27, 518, 324, 325, 326, 327, 69, 73, 77, 79, 75, 67, 71, 328, 329, 330, 331, 519, 520] (by decide +kernel)
set_option maxRecDepth 20000 in
theorem qz_wsL_law_r16_in : ∀ w ∈ wsL_law_r16, w ∈ lw_tbl := qz_in _ [521, 522, 523, 525, 28, 526, 332, 333, 334, 335, 83, 527, 528, 529, 530, 531, 533, 29, 534, 336, 337, 338, 339, 85] (by decide +kernel)
set_option maxRecDepth 20000 in
theorem qz_wsL_law_r17_in : ∀ w ∈ wsL_law_r17, w ∈ lw_tbl := qz_in _ [535, 536, 537, 538, 340, 341, 342, 343, 89, 539, 540, 541, 542, 344, 345, 346, 347, 81, 543, 544, 545, 546, 348, 349] (by decide +kernel)
set_option maxRecDepth 20000 in
theorem qz_wsL_law_r18_in : ∀ w ∈ wsL_law_r18, w ∈ lw_tbl := qz_in _ [350, 351, 547, 548, 549, 550, 352, 353, 354, 355, 356, 357, 358, 359, 551, 552, 553, 554, 360, 361, 362, 363, 364, 366] (by decide +kernel)
set_option maxRecDepth 20000 in
theorem qz_wsL_law_r19_in : ∀ w ∈ wsL_law_r19, w ∈ lw_tbl := qz_in _ [15, 367, 87, 368, 369, 370, 371, 555, 556, 557, 558, 559, 561, 30, 562, 372, 373, 374, 375, 563, 564, 565, 566, 376] (by decide +kernel)
set_option maxRecDepth 20000 in
theorem qz_wsL_law_r20_in : ∀ w ∈ wsL_law_r20, w ∈ lw_tbl := qz_in _ [377, 378, 379, 380, 567, 568, 569, 570] (by decide +kernel)
set_option maxRecDepth 20000 in
theorem qz_wsX20_in : ∀ w ∈ wsX20, w ∈ lw_tbl := qz_in _ [145, 147, 149, 151, 153, 155] (by decide +kernel)
set_option maxRecDepth 20000 in
theorem qz_wsX30_in : ∀ w ∈ wsX30, w ∈ lw_tbl := qz_in _ [402, 404, 406, 408, 410, 412, 414, 416, 418, 420, 422] (by decide +kernel)
set_option maxRecDepth 20000 in
theorem qz_wsX00_in : ∀ w ∈ wsX00, w ∈ lw_tbl := qz_in _ [90, 92, 94, 96, 98, 100, 102, 104, 106, 108, 110, 112, 114, 116] (by decide +kernel)
set_option maxRecDepth 20000 in
theorem qz_wsX10_in : ∀ w ∈ wsX10, w ∈ lw_tbl := qz_in _ [132, 134, 136] (by decide +kernel)
theorem wsL_law_in : ∀ w ∈ wsL_law, w ∈ lw_tbl := (fun w h => (List.mem_append.mp h).elim ((fun w h => (List.mem_append.mp h).elim ((fun w h => (List.mem_append.mp h).elim ((fun w h => (List.mem_append.mp h).elim ((fun w h => (List.mem_append.mp h).elim ((fun w h => (List.mem_append.mp h).elim (qz_wsL_law_r1_in w) ((fun w h => (List.mem_append.mp h).elim (qz_wsL_law_r2_in w) ((fun w h => (List.mem_append.mp h).elim (qz_wsL_law_r3_in w) ((fun w h => (List.mem_append.mp h).elim (qz_wsL_law_r4_in w) ((fun w h => (List.mem_append.mp h).elim (qz_wsL_law_r5_in w) ((fun w h => (List.mem_append.mp h).elim (qz_wsL_law_r6_in w) ((fun w h => (List.mem_append.mp h).elim (qz_wsL_law_r7_in w) ((fun w h => (List.mem_append.mp h).elim (qz_wsL_law_r8_in w) ((fun w h => (List.mem_append.mp h).elim (qz_wsL_law_r9_in w) ((fun w h => (List.mem_append.mp h).elim (qz_wsL_law_r10_in w) ((fun w h => (List.mem_append.mp h).elim (qz_wsL_law_r11_in w) ((fun w h => (List.mem_append.mp h).elim (qz_wsL_law_r12_in w) ((fun w h => (List.mem_append.mp h).elim (qz_wsL_law_r13_in w) ((fun w h => (List.mem_append.mp h).elim (qz_wsL_law_r14_in w) ((fun w h => (List.mem_append.mp h).elim (qz_wsL_law_r15_in w) ((fun w h => (List.mem_append.mp h).elim (qz_wsL_law_r16_in w) ((fun w h => (List.mem_append.mp h).elim (qz_wsL_law_r17_in w) ((fun w h => (List.mem_append.mp h).elim (qz_wsL_law_r18_in w) ((fun w h => (List.mem_append.mp h).elim (qz_wsL_law_r19_in w) (qz_wsL_law_r20_in w)) w)) w)) w)) w)) w)) w)) w)) w)) w)) w)) w)) w)) w)) w)) w)) w)) w)) w)) w) (qz_wsX20_in w)) w) (qz_wsX30_in w)) w) (qz_wsX00_in w)) w) (qz_wsX10_in w)) w) ((fun w h => absurd h List.not_mem_nil) w))
theorem inlX0 : ∀ w ∈ wsX00, w ∈ wsL_law := fun _ h => List.mem_append_left _ (List.mem_append_left _ (List.mem_append_right _ h))
theorem inX0 : ∀ w ∈ wsX00, w ∈ lw_tbl := fun w h => wsL_law_in w (inlX0 w h)
theorem inlX1 : ∀ w ∈ wsX10, w ∈ wsL_law := fun _ h => List.mem_append_left _ (List.mem_append_right _ h)
theorem inX1 : ∀ w ∈ wsX10, w ∈ lw_tbl := fun w h => wsL_law_in w (inlX1 w h)
theorem inlX2 : ∀ w ∈ wsX20, w ∈ wsL_law := fun _ h => List.mem_append_left _ (List.mem_append_left _ (List.mem_append_left _ (List.mem_append_left _ (List.mem_append_right _ h))))
theorem inX2 : ∀ w ∈ wsX20, w ∈ lw_tbl := fun w h => wsL_law_in w (inlX2 w h)
theorem inlX3 : ∀ w ∈ wsX30, w ∈ wsL_law := fun _ h => List.mem_append_left _ (List.mem_append_left _ (List.mem_append_left _ (List.mem_append_right _ h)))
theorem inX3 : ∀ w ∈ wsX30, w ∈ lw_tbl := fun w h => wsL_law_in w (inlX3 w h)
theorem inJ9 : ∀ w ∈ wsJ90, w ∈ lw_tbl := by decide +kernel
theorem inJ10 : ∀ w ∈ wsJ100, w ∈ lw_tbl := by decide +kernel
theorem inJ7 : ∀ w ∈ wsJ70, w ∈ lw_tbl := by decide +kernel

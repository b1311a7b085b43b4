theorem wl_places {big : List Cond} (ws : List Cond) (ps : List Nat) (hp : ws = ps.filterMap (fun i => big[i]?)) : ∀ w ∈ ws, w ∈ big := by
  intro w hw
  rw [hp] at hw
  obtain ⟨i, -, hi⟩ := List.mem_filterMap.mp hw
  first | exact List.mem_of_getElem? hi | exact List.getElem?_mem hi
theorem wl_app {big a b : List Cond} (ha : ∀ w ∈ a, w ∈ big) (hb : ∀ w ∈ b, w ∈ big) : ∀ w ∈ a ++ b, w ∈ big := fun w h => (List.mem_append.mp h).elim (ha w) (hb w)
set_option maxRecDepth 20000 in
theorem wl_in_r1 : ∀ w ∈ wsL_law_r1, w ∈ lw_tbl := wl_places _ [41, 42, 31, 404, 405, 37, 43, 44, 45, 46, 47, 48, 80, 176, 49, 177, 51, 178, 179, 53, 54, 32, 180, 81] (by decide +kernel)
set_option maxRecDepth 20000 in
theorem wl_in_r2 : ∀ w ∈ wsL_law_r2, w ∈ lw_tbl := wl_places _ [82, 33, 181, 182, 116, 34, 158, 36, 56, 57, 58, 59, 61, 62, 64, 65, 66, 84, 85, 86, 87, 89, 91, 93] (by decide +kernel)
set_option maxRecDepth 20000 in
theorem wl_in_r3 : ∀ w ∈ wsL_law_r3, w ∈ lw_tbl := wl_places _ [95, 97, 99, 117, 118, 119, 120, 121, 145, 147, 149, 123, 35, 125, 126, 127, 128, 130, 132, 134, 160, 161, 162, 163] (by decide +kernel)
set_option maxRecDepth 20000 in
theorem wl_in_r4 : ∀ w ∈ wsL_law_r4, w ∈ lw_tbl := wl_places _ [165, 167, 406, 407, 408, 409, 495, 411, 412, 413, 414, 415, 416, 417, 418, 419, 420, 421, 422, 423, 425, 426, 428, 429] (by decide +kernel)
set_option maxRecDepth 20000 in
theorem wl_in_r5 : ∀ w ∈ wsL_law_r5, w ∈ lw_tbl := wl_places _ [430, 431, 432, 198, 199, 200, 201, 202, 203, 204, 205, 206, 207, 496, 497, 498, 499, 410, 500, 501, 502, 208, 209, 210] (by decide +kernel)
set_option maxRecDepth 20000 in
theorem wl_in_r6 : ∀ w ∈ wsL_law_r6, w ∈ lw_tbl := wl_places _ [211, 148, 212, 213, 214, 215, 503, 504, 505, 506, 507, 508, 509, 216, 217, 218, 219, 220, 221, 222, 223, 224, 225, 226] (by decide +kernel)
set_option maxRecDepth 20000 in
theorem wl_in_r7 : ∀ w ∈ wsL_law_r7, w ∈ lw_tbl := wl_places _ [227, 510, 511, 512, 513, 228, 229, 230, 231, 232, 146, 234, 235, 236, 237, 514, 515, 516, 517, 518, 519, 520, 238, 239] (by decide +kernel)
set_option maxRecDepth 20000 in
theorem wl_in_r8 : ∀ w ∈ wsL_law_r8, w ∈ lw_tbl := wl_places _ [240, 241, 164, 242, 243, 244, 245, 521, 522, 523, 524, 246, 247, 248, 249, 525, 526, 527, 528, 250, 251, 252, 253, 168] (by decide +kernel)
set_option maxRecDepth 20000 in
theorem wl_in_r9 : ∀ w ∈ wsL_law_r9, w ∈ lw_tbl := wl_places _ [166, 529, 530, 531, 532, 254, 255, 256, 257, 258, 259, 260, 261, 533, 534, 535, 536, 427, 262, 263, 264, 265, 63, 60] (by decide +kernel)
set_option maxRecDepth 20000 in
theorem wl_in_r10 : ∀ w ∈ wsL_law_r10, w ∈ lw_tbl := wl_places _ [537, 538, 539, 540, 266, 267, 268, 269, 364, 324, 298, 270, 271, 272, 273, 274, 276, 0, 277, 278, 320, 150, 322, 280] (by decide +kernel)
set_option maxRecDepth 20000 in
theorem wl_in_r11 : ∀ w ∈ wsL_law_r11, w ∈ lw_tbl := wl_places _ [281, 282, 283, 284, 286, 1, 287, 135, 288, 289, 290, 291, 292, 294, 296, 2, 297, 133, 88, 129, 131, 326, 300, 302] (by decide +kernel)
set_option maxRecDepth 20000 in
theorem wl_in_r12 : ∀ w ∈ wsL_law_r12, w ∈ lw_tbl := wl_places _ [3, 303, 304, 306, 4, 307, 308, 310, 5, 311, 312, 314, 6, 315, 316, 318, 7, 319, 328, 330, 8, 331, 332, 334] (by decide +kernel)
set_option maxRecDepth 20000 in
theorem wl_in_r13 : ∀ w ∈ wsL_law_r13, w ∈ lw_tbl := wl_places _ [9, 335, 336, 338, 10, 339, 340, 341, 342, 343, 344, 345, 346, 347, 348, 349, 350, 351, 352, 354, 11, 355, 356, 357] (by decide +kernel)
set_option maxRecDepth 20000 in
theorem wl_in_r14 : ∀ w ∈ wsL_law_r14, w ∈ lw_tbl := wl_places _ [358, 359, 360, 361, 362, 363, 365, 367, 12, 368, 369, 370, 371, 372, 373, 374, 375, 376, 541, 542, 543, 544, 433, 437] (by decide +kernel)
set_option maxRecDepth 20000 in
theorem wl_in_r15 : ∀ w ∈ wsL_law_r15, w ∈ lw_tbl := wl_places _ [545, 547, 13, 548, 434, 549, 551, 14, 552, 553, 555, 15, 556, 557, 559, 16, 560, 435, 561, 563, 17, 564, 436, 565] (by decide +kernel)
set_option maxRecDepth 20000 in
theorem wl_in_r16 : ∀ w ∈ wsL_law_r16, w ∈ lw_tbl := wl_places _ [567, 18, 568, 569, 571, 19, 572, 573, 575, 20, 576, 577, 579, 21, 580, 581, 583, 22, 584, 585, 587, 23, 588, 424] (by decide +kernel)
set_option maxRecDepth 20000 in
theorem wl_in_r17 : ∀ w ∈ wsL_law_r17, w ∈ lw_tbl := wl_places _ [589, 591, 24, 592, 593, 595, 25, 596, 597, 599, 26, 600, 601, 603, 27, 604, 605, 607, 28, 608, 609, 611, 29, 612] (by decide +kernel)
set_option maxRecDepth 20000 in
theorem wl_in_r18 : ∀ w ∈ wsL_law_r18, w ∈ lw_tbl := wl_places _ [377, 378, 379, 380, 100, 98, 613, 614, 615, 616, 381, 382, 383, 384, 92, 96, 617, 618, 619, 620, 385, 386, 387, 388] (by decide +kernel)
set_option maxRecDepth 20000 in
theorem wl_in_r19 : ∀ w ∈ wsL_law_r19, w ∈ lw_tbl := wl_places _ [389, 390, 40, 391, 90, 621, 622, 623, 624, 392, 393, 394, 395, 94, 625, 626, 627, 628, 396, 397, 398, 399, 629, 630] (by decide +kernel)
set_option maxRecDepth 20000 in
theorem wl_in_r20 : ∀ w ∈ wsL_law_r20, w ∈ lw_tbl := wl_places _ [631, 632, 400, 401, 402, 403, 633, 634, 635, 636] (by decide +kernel)
set_option maxRecDepth 20000 in
theorem wl_in_wsX60 : ∀ w ∈ wsX60, w ∈ lw_tbl := by decide +kernel
set_option maxRecDepth 20000 in
theorem wl_in_wsX70 : ∀ w ∈ wsX70, w ∈ lw_tbl := by decide +kernel
set_option maxRecDepth 20000 in
theorem wl_in_wsX30 : ∀ w ∈ wsX30, w ∈ lw_tbl := by decide +kernel
set_option maxRecDepth 20000 in
theorem wl_in_wsX10 : ∀ w ∈ wsX10, w ∈ lw_tbl := by decide +kernel
set_option maxRecDepth 20000 in
theorem wl_in_wsX00 : ∀ w ∈ wsX00, w ∈ lw_tbl := by decide +kernel
set_option maxRecDepth 20000 in
theorem wl_in_wsX40 : ∀ w ∈ wsX40, w ∈ lw_tbl := by decide +kernel
set_option maxRecDepth 20000 in
theorem wl_in_wsX20 : ∀ w ∈ wsX20, w ∈ lw_tbl := by decide +kernel
theorem wsL_law_in : ∀ w ∈ wsL_law, w ∈ lw_tbl := wl_app (wl_app (wl_app (wl_app (wl_app (wl_app (wl_app (wl_app (wl_app wl_in_r1 (wl_app wl_in_r2 (wl_app wl_in_r3 (wl_app wl_in_r4 (wl_app wl_in_r5 (wl_app wl_in_r6 (wl_app wl_in_r7 (wl_app wl_in_r8 (wl_app wl_in_r9 (wl_app wl_in_r10 (wl_app wl_in_r11 (wl_app wl_in_r12 (wl_app wl_in_r13 (wl_app wl_in_r14 (wl_app wl_in_r15 (wl_app wl_in_r16 (wl_app wl_in_r17 (wl_app wl_in_r18 (wl_app wl_in_r19 wl_in_r20))))))))))))))))))) wl_in_wsX60) wl_in_wsX70) wl_in_wsX30) wl_in_wsX10) wl_in_wsX00) wl_in_wsX40) wl_in_wsX20) (fun _ h => absurd h List.not_mem_nil)
theorem inlX0 : ∀ w ∈ wsX00, w ∈ wsL_law := fun _ h => List.mem_append_left _ (List.mem_append_left _ (List.mem_append_left _ (List.mem_append_right _ h)))
theorem inX0 : ∀ w ∈ wsX00, w ∈ lw_tbl := fun w h => wsL_law_in w (inlX0 w h)
theorem inlX1 : ∀ w ∈ wsX10, w ∈ wsL_law := fun _ h => List.mem_append_left _ (List.mem_append_left _ (List.mem_append_left _ (List.mem_append_left _ (List.mem_append_right _ h))))
theorem inX1 : ∀ w ∈ wsX10, w ∈ lw_tbl := fun w h => wsL_law_in w (inlX1 w h)
theorem inlX2 : ∀ w ∈ wsX20, w ∈ wsL_law := fun _ h => List.mem_append_left _ (List.mem_append_right _ h)
theorem inX2 : ∀ w ∈ wsX20, w ∈ lw_tbl := fun w h => wsL_law_in w (inlX2 w h)
theorem inlX3 : ∀ w ∈ wsX30, w ∈ wsL_law := fun _ h => List.mem_append_left _ (List.mem_append_left _ (List.mem_append_left _ (List.mem_append_left _ (List.mem_append_left _ (List.mem_append_right _ h)))))
theorem inX3 : ∀ w ∈ wsX30, w ∈ lw_tbl := fun w h => wsL_law_in w (inlX3 w h)
theorem inlX4 : ∀ w ∈ wsX40, w ∈ wsL_law := fun _ h => List.mem_append_left _ (List.mem_append_left _ (List.mem_append_right _ h))
theorem inX4 : ∀ w ∈ wsX40, w ∈ lw_tbl := fun w h => wsL_law_in w (inlX4 w h)
theorem inX5 : ∀ w ∈ wsX50, w ∈ lw_tbl := by decide +kernel
theorem inlX6 : ∀ w ∈ wsX60, w ∈ wsL_law := fun _ h => List.mem_append_left _ (List.mem_append_left _ (List.mem_append_left _ (List.mem_append_left _ (List.mem_append_left _ (List.mem_append_left _ (List.mem_append_left _ (List.mem_append_right _ h)))))))
theorem inX6 : ∀ w ∈ wsX60, w ∈ lw_tbl := fun w h => wsL_law_in w (inlX6 w h)
theorem inlX7 : ∀ w ∈ wsX70, w ∈ wsL_law := fun _ h => List.mem_append_left _ (List.mem_append_left _ (List.mem_append_left _ (List.mem_append_left _ (List.mem_append_left _ (List.mem_append_left _ (List.mem_append_right _ h))))))
theorem inX7 : ∀ w ∈ wsX70, w ∈ lw_tbl := fun w h => wsL_law_in w (inlX7 w h)
theorem inJx29ce0 : ∀ w ∈ wsJx29ce00, w ∈ lw_tbl := by decide +kernel

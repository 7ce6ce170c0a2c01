set_option maxRecDepth 20000 in
theorem in_wsL_law_r1 : ∀ w ∈ wsL_law_r1, w ∈ lw_tbl := fun w h => (goodIn_r wsL_law_r1 [42, 43, 36, 387, 388, 40, 44, 45, 46, 47, 48, 49, 50, 51, 37, 129, 76, 77, 38, 130, 99, 100, 39, 131] (by decide +kernel) (by decide +kernel) w h).1
set_option maxRecDepth 20000 in
theorem in_wsL_law_r2 : ∀ w ∈ wsL_law_r2, w ∈ lw_tbl := fun w h => (goodIn_r wsL_law_r2 [75, 136, 137, 138, 139, 140, 53, 54, 55, 59, 61, 64, 79, 80, 81, 84, 85, 86, 87, 102, 103, 104, 109, 124] (by decide +kernel) (by decide +kernel) w h).1
set_option maxRecDepth 20000 in
theorem in_wsL_law_r3 : ∀ w ∈ wsL_law_r3, w ∈ lw_tbl := fun w h => (goodIn_r wsL_law_r3 [111, 105, 113, 125, 127, 0, 128, 58, 83, 108, 132, 133, 134, 135, 389, 390, 391, 392, 393, 396, 397, 398, 402, 403] (by decide +kernel) (by decide +kernel) w h).1
set_option maxRecDepth 20000 in
theorem in_wsL_law_r4 : ∀ w ∈ wsL_law_r4, w ∈ lw_tbl := fun w h => (goodIn_r wsL_law_r4 [404, 405, 407, 408, 409, 410, 411, 412, 166, 167, 168, 169, 173, 170, 171, 172, 454, 455, 456, 457, 461, 401, 394, 395] (by decide +kernel) (by decide +kernel) w h).1
set_option maxRecDepth 20000 in
theorem in_wsL_law_r5 : ∀ w ∈ wsL_law_r5, w ∈ lw_tbl := fun w h => (goodIn_r wsL_law_r5 [399, 400, 406, 458, 459, 460, 174, 175, 176, 177, 178, 179, 180, 181, 182, 107, 183, 184, 185, 186, 56, 462, 463, 464] (by decide +kernel) (by decide +kernel) w h).1
set_option maxRecDepth 20000 in
theorem in_wsL_law_r6 : ∀ w ∈ wsL_law_r6, w ∈ lw_tbl := fun w h => (goodIn_r wsL_law_r6 [465, 466, 187, 188, 189, 190, 467, 468, 469, 470, 191, 192, 193, 194, 471, 472, 473, 474, 195, 196, 197, 198, 199, 201] (by decide +kernel) (by decide +kernel) w h).1
set_option maxRecDepth 20000 in
theorem in_wsL_law_r7 : ∀ w ∈ wsL_law_r7, w ∈ lw_tbl := fun w h => (goodIn_r wsL_law_r7 [1, 202, 203, 204, 205, 206, 82, 475, 476, 477, 478, 207, 208, 209, 210, 211, 212, 213, 214, 57, 62, 479, 480, 481] (by decide +kernel) (by decide +kernel) w h).1
set_option maxRecDepth 20000 in
theorem in_wsL_law_r8 : ∀ w ∈ wsL_law_r8, w ∈ lw_tbl := fun w h => (goodIn_r wsL_law_r8 [482, 215, 216, 217, 218, 60, 65, 114, 219, 221, 2, 222, 223, 225, 3, 226, 483, 484, 485, 486, 227, 228, 229, 230] (by decide +kernel) (by decide +kernel) w h).1
set_option maxRecDepth 20000 in
theorem in_wsL_law_r9 : ∀ w ∈ wsL_law_r9, w ∈ lw_tbl := fun w h => (goodIn_r wsL_law_r9 [231, 232, 233, 234, 487, 488, 489, 490, 491, 493, 21, 494, 235, 236, 237, 238, 63, 239, 241, 4, 242, 243, 245, 5] (by decide +kernel) (by decide +kernel) w h).1
set_option maxRecDepth 20000 in
theorem in_wsL_law_r10 : ∀ w ∈ wsL_law_r10, w ∈ lw_tbl := fun w h => (goodIn_r wsL_law_r10 [246, 247, 248, 249, 250, 251, 253, 6, 254, 256, 257, 258, 495, 496, 497, 498, 499, 501, 22, 502, 503, 505, 23, 506] (by decide +kernel) (by decide +kernel) w h).1
set_option maxRecDepth 20000 in
theorem in_wsL_law_r11 : ∀ w ∈ wsL_law_r11, w ∈ lw_tbl := fun w h => (goodIn_r wsL_law_r11 [507, 509, 24, 510, 259, 260, 261, 262, 263, 265, 7, 266, 279, 267, 268, 269, 270, 271, 273, 8, 274, 275, 277, 9] (by decide +kernel) (by decide +kernel) w h).1
set_option maxRecDepth 20000 in
theorem in_wsL_law_r12 : ∀ w ∈ wsL_law_r12, w ∈ lw_tbl := fun w h => (goodIn_r wsL_law_r12 [278, 511, 512, 513, 514, 515, 517, 25, 518, 519, 521, 26, 522, 280, 281, 282, 283, 523, 524, 525, 526, 284, 285, 286] (by decide +kernel) (by decide +kernel) w h).1
set_option maxRecDepth 20000 in
theorem in_wsL_law_r13 : ∀ w ∈ wsL_law_r13, w ∈ lw_tbl := fun w h => (goodIn_r wsL_law_r13 [287, 288, 290, 10, 291, 527, 528, 529, 530, 531, 292, 293, 294, 295, 532, 533, 534, 535, 536, 296, 297, 298, 299, 300] (by decide +kernel) (by decide +kernel) w h).1
set_option maxRecDepth 20000 in
theorem in_wsL_law_r14 : ∀ w ∈ wsL_law_r14, w ∈ lw_tbl := fun w h => (goodIn_r wsL_law_r14 [302, 11, 303, 304, 306, 12, 307, 308, 310, 13, 311, 312, 314, 14, 315, 537, 538, 539, 540, 541, 543, 27, 544, 545] (by decide +kernel) (by decide +kernel) w h).1
set_option maxRecDepth 20000 in
theorem in_wsL_law_r15 : ∀ w ∈ wsL_law_r15, w ∈ lw_tbl := fun w h => (goodIn_r wsL_law_r15 [547, 28, 548, 549, 551, 29, 552, 316, 317, 318, 319, 320, 322, 15, 323, 324, 326, 16, 327, 112, 110, 328, 329, 330] (by decide +kernel) (by decide +kernel) w h).1
set_option maxRecDepth 20000 in
theorem in_wsL_law_r16 : ∀ w ∈ wsL_law_r16, w ∈ lw_tbl := fun w h => (goodIn_r wsL_law_r16 [331, 332, 334, 17, 335, 553, 554, 555, 556, 557, 559, 30, 560, 336, 337, 338, 339, 340, 341, 342, 343, 344, 345, 346] (by decide +kernel) (by decide +kernel) w h).1
set_option maxRecDepth 20000 in
theorem in_wsL_law_r17 : ∀ w ∈ wsL_law_r17, w ∈ lw_tbl := fun w h => (goodIn_r wsL_law_r17 [347, 41, 348, 349, 350, 351, 561, 562, 563, 564, 565, 567, 31, 568, 569, 570, 571, 352, 353, 354, 355, 356, 358, 18] (by decide +kernel) (by decide +kernel) w h).1
set_option maxRecDepth 20000 in
theorem in_wsL_law_r18 : ∀ w ∈ wsL_law_r18, w ∈ lw_tbl := fun w h => (goodIn_r wsL_law_r18 [359, 572, 573, 574, 575, 576, 578, 32, 579, 360, 361, 362, 363, 364, 366, 19, 367, 368, 370, 20, 371, 372, 373, 374] (by decide +kernel) (by decide +kernel) w h).1
set_option maxRecDepth 20000 in
theorem in_wsL_law_r19 : ∀ w ∈ wsL_law_r19, w ∈ lw_tbl := fun w h => (goodIn_r wsL_law_r19 [580, 581, 582, 583, 584, 586, 33, 587, 588, 590, 34, 591, 375, 376, 377, 378, 592, 593, 594, 595, 379, 380, 381, 382] (by decide +kernel) (by decide +kernel) w h).1
set_option maxRecDepth 20000 in
theorem in_wsL_law_r20 : ∀ w ∈ wsL_law_r20, w ∈ lw_tbl := fun w h => (goodIn_r wsL_law_r20 [596, 597, 598, 599, 600, 383, 384, 385, 386, 601, 602, 603, 604] (by decide +kernel) (by decide +kernel) w h).1
set_option maxRecDepth 20000 in
theorem in_wsX00 : ∀ w ∈ wsX00, w ∈ lw_tbl := fun w h => (goodIn_r wsX00 [115, 117, 119, 121] (by decide +kernel) (by decide +kernel) w h).1
set_option maxRecDepth 20000 in
theorem in_wsX10 : ∀ w ∈ wsX10, w ∈ lw_tbl := fun w h => (goodIn_r wsX10 [66, 68, 70, 72] (by decide +kernel) (by decide +kernel) w h).1
set_option maxRecDepth 20000 in
theorem in_wsX20 : ∀ w ∈ wsX20, w ∈ lw_tbl := fun w h => (goodIn_r wsX20 [88, 90, 92, 94, 96] (by decide +kernel) (by decide +kernel) w h).1
set_option maxRecDepth 20000 in
theorem in_wsX30 : ∀ w ∈ wsX30, w ∈ lw_tbl := fun w h => (goodIn_r wsX30 [141, 143, 145, 147, 149, 151, 153, 155, 157, 159, 161, 163] (by decide +kernel) (by decide +kernel) w h).1
set_option maxRecDepth 20000 in
theorem in_wsX40 : ∀ w ∈ wsX40, w ∈ lw_tbl := fun w h => (goodIn_r wsX40 [413, 415, 417, 419, 421, 423, 425, 427, 429, 431, 433, 435, 437, 439, 441, 443, 445, 447, 449, 451] (by decide +kernel) (by decide +kernel) w h).1
-- (wsL_law_r
theorem in_app {a b c : List Cond} (h1 : ∀ w ∈ a, w ∈ c) (h2 : ∀ w ∈ b, w ∈ c) : ∀ w ∈ a ++ b, w ∈ c := fun w h => (List.mem_append.mp h).elim (h1 w) (h2 w)
theorem wsL_law_in : ∀ w ∈ wsL_law, w ∈ lw_tbl := (in_app (in_app (in_app (in_app (in_app (in_app (in_app in_wsL_law_r1 (in_app in_wsL_law_r2 (in_app in_wsL_law_r3 (in_app in_wsL_law_r4 (in_app in_wsL_law_r5 (in_app in_wsL_law_r6 (in_app in_wsL_law_r7 (in_app in_wsL_law_r8 (in_app in_wsL_law_r9 (in_app in_wsL_law_r10 (in_app in_wsL_law_r11 (in_app in_wsL_law_r12 (in_app in_wsL_law_r13 (in_app in_wsL_law_r14 (in_app in_wsL_law_r15 (in_app in_wsL_law_r16 (in_app in_wsL_law_r17 (in_app in_wsL_law_r18 (in_app in_wsL_law_r19 in_wsL_law_r20))))))))))))))))))) in_wsX30) in_wsX40) in_wsX10) in_wsX20) in_wsX00) (fun w h => absurd h List.not_mem_nil))
theorem inlX0 : ∀ w ∈ wsX00, w ∈ wsL_law := fun _ h => List.mem_append_left _ (List.mem_append_right _ h)
theorem inX0 : ∀ w ∈ wsX00, w ∈ lw_tbl := fun w h => wsL_law_in w (inlX0 w h)
theorem inlX1 : ∀ w ∈ wsX10, w ∈ wsL_law := fun _ h => List.mem_append_left _ (List.mem_append_left _ (List.mem_append_left _ (List.mem_append_right _ h)))
theorem inX1 : ∀ w ∈ wsX10, w ∈ lw_tbl := fun w h => wsL_law_in w (inlX1 w h)
theorem inlX2 : ∀ w ∈ wsX20, w ∈ wsL_law := fun _ h => List.mem_append_left _ (List.mem_append_left _ (List.mem_append_right _ h))
theorem inX2 : ∀ w ∈ wsX20, w ∈ lw_tbl := fun w h => wsL_law_in w (inlX2 w h)
theorem inlX3 : ∀ w ∈ wsX30, w ∈ wsL_law := fun _ h => List.mem_append_left _ (List.mem_append_left _ (List.mem_append_left _ (List.mem_append_left _ (List.mem_append_left _ (List.mem_append_right _ h)))))
theorem inX3 : ∀ w ∈ wsX30, w ∈ lw_tbl := fun w h => wsL_law_in w (inlX3 w h)
theorem inlX4 : ∀ w ∈ wsX40, w ∈ wsL_law := fun _ h => List.mem_append_left _ (List.mem_append_left _ (List.mem_append_left _ (List.mem_append_left _ (List.mem_append_right _ h))))
theorem inX4 : ∀ w ∈ wsX40, w ∈ lw_tbl := fun w h => wsL_law_in w (inlX4 w h)
theorem inJ9 : ∀ w ∈ wsJ90, w ∈ lw_tbl := by decide +kernel


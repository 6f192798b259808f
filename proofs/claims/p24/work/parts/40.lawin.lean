/-! The law's words stand in the tables. -/
theorem wl_ix {big ws : List Cond} (ps : List Nat) (hp : ws = ps.filterMap (fun i => big[i]?)) : ∀ w ∈ ws, w ∈ big := by
  intro w hw
  rw [hp] at hw
  obtain ⟨i, -, hi⟩ := List.mem_filterMap.mp hw
  exact List.mem_of_getElem? hi
set_option maxRecDepth 20000 in
theorem wl_in1 : ∀ w ∈ wsL_law0_r1, w ∈ lw_tbl := wl_ix [44, 45, 23, 101, 46, 47, 48, 49, 50, 51, 52, 53, 26, 102, 103, 104, 105, 78, 79, 27, 106, 107, 108, 54] (by decide +kernel)
set_option maxRecDepth 20000 in
theorem wl_in2 : ∀ w ∈ wsL_law0_r2, w ∈ lw_tbl := wl_ix [55, 56, 64, 66, 57, 58, 25, 59, 68, 60, 61, 24, 62, 63, 81, 82, 83, 84, 86, 410, 411, 22, 412, 413] (by decide +kernel)
set_option maxRecDepth 20000 in
theorem wl_in3 : ∀ w ∈ wsL_law0_r3, w ∈ lw_tbl := wl_ix [406, 407, 408, 409, 402, 403, 404, 405, 414, 415, 416, 417, 131, 31, 342, 32, 420, 421, 33, 128, 129, 130, 207, 208] (by decide +kernel)
set_option maxRecDepth 20000 in
theorem wl_in4 : ∀ w ∈ wsL_law0_r4, w ∈ lw_tbl := wl_ix [209, 210, 67, 422, 423, 424, 425, 434, 426, 428, 430, 432, 447, 448, 449, 450, 69, 70, 451, 453, 16, 454, 455, 457] (by decide +kernel)
set_option maxRecDepth 20000 in
theorem wl_in5 : ∀ w ∈ wsL_law0_r5, w ∈ lw_tbl := wl_ix [17, 458, 459, 461, 18, 462, 497, 255, 35, 256, 498, 463, 464, 34, 465, 466, 467, 468, 469, 470, 471, 472, 36, 473] (by decide +kernel)
set_option maxRecDepth 20000 in
theorem wl_in6 : ∀ w ∈ wsL_law0_r6, w ∈ lw_tbl := wl_ix [474, 614, 475, 486, 487, 488, 489, 490, 492, 493, 387, 388, 494, 496, 495, 37, 499, 500, 501, 502, 503, 381, 506, 38] (by decide +kernel)
set_option maxRecDepth 20000 in
theorem wl_in7 : ∀ w ∈ wsL_law0_r7, w ∈ lw_tbl := wl_ix [507, 508, 509, 510, 519, 521, 522, 511, 513, 515, 517, 518, 541, 542, 543, 544, 429, 514, 241, 563, 42, 545, 547, 19] (by decide +kernel)
set_option maxRecDepth 20000 in
theorem wl_in8 : ∀ w ∈ wsL_law0_r8, w ∈ lw_tbl := wl_ix [548, 211, 39, 381, 227, 228, 229, 230, 231, 232, 40, 233, 234, 235, 41, 236, 237, 238, 239, 240, 550, 552, 20, 553] (by decide +kernel)
set_option maxRecDepth 20000 in
theorem wl_in9 : ∀ w ∈ wsL_law0_r9, w ∈ lw_tbl := wl_ix [420, 555, 557, 21, 558, 324, 322, 323, 564, 565, 566, 567, 577, 579, 568, 569, 571, 573, 575, 596, 597, 598, 599, 288] (by decide +kernel)
set_option maxRecDepth 20000 in
theorem wl_in10 : ∀ w ∈ wsL_law0_r10, w ∈ lw_tbl := wl_ix [289, 290, 291, 89, 292, 294, 7, 295, 241, 85, 87, 91, 242, 243, 244, 245, 516, 296, 298, 8, 299, 263, 265, 3] (by decide +kernel)
set_option maxRecDepth 20000 in
theorem wl_in11 : ∀ w ∈ wsL_law0_r11, w ∈ lw_tbl := wl_ix [266, 572, 574, 576, 431, 570, 250, 251, 252, 253, 271, 273, 4, 274, 578, 275, 277, 5, 278, 279, 619, 280, 281, 282] (by decide +kernel)
set_option maxRecDepth 20000 in
theorem wl_in12 : ∀ w ∈ wsL_law0_r12, w ∈ lw_tbl := wl_ix [23, 283, 620, 621, 284, 286, 6, 287, 300, 301, 302, 303, 304, 305, 306, 88, 90, 307, 309, 9, 310, 311, 312, 43] (by decide +kernel)
set_option maxRecDepth 20000 in
theorem wl_in13 : ∀ w ∈ wsL_law0_r13, w ∈ lw_tbl := wl_ix [313, 314, 315, 316, 317, 318, 319, 320, 325, 326, 327, 328, 329, 331, 10, 332, 199, 200, 201, 202, 512, 427, 580, 203] (by decide +kernel)
set_option maxRecDepth 20000 in
theorem wl_in14 : ∀ w ∈ wsL_law0_r14, w ∈ lw_tbl := wl_ix [205, 1, 206, 246, 248, 2, 249, 254, 267, 268, 269, 270, 258, 259, 260, 261, 367, 368, 369, 370, 358, 360, 12, 361] (by decide +kernel)
set_option maxRecDepth 20000 in
theorem wl_in15 : ∀ w ∈ wsL_law0_r15, w ∈ lw_tbl := wl_ix [334, 335, 336, 337, 338, 340, 11, 341, 362, 363, 364, 365, 371, 372, 373, 374, 377, 379, 13, 380, 382, 383, 384, 385] (by decide +kernel)
set_option maxRecDepth 20000 in
theorem wl_in16 : ∀ w ∈ wsL_law0_r16, w ∈ lw_tbl := wl_ix [386, 389, 391, 14, 392, 393, 395, 15, 396, 397, 398, 399, 400, 433, 520, 401, 523, 435, 124, 125, 126, 127] (by decide +kernel)

/-! The law's words stand in the tables. -/
theorem wl_ix {big ws : List Cond} (ps : List Nat) (hp : ws = ps.filterMap (fun i => big[i]?)) : ∀ w ∈ ws, w ∈ big := by
  intro w hw
  rw [hp] at hw
  obtain ⟨i, -, hi⟩ := List.mem_filterMap.mp hw
  exact List.mem_of_getElem? hi
set_option maxRecDepth 20000 in
theorem wl_in1 : ∀ w ∈ wsL_law0_r1, w ∈ lw_tbl := wl_ix [72, 73, 49, 750, 751, 54, 1026, 74, 75, 76, 77, 78, 79, 80, 81, 52, 130, 131, 132, 133, 106, 107, 53, 134] (by decide +kernel)
set_option maxRecDepth 20000 in
theorem wl_in2 : ∀ w ∈ wsL_law0_r2, w ∈ lw_tbl := wl_ix [135, 136, 82, 83, 84, 92, 94, 85, 86, 51, 87, 96, 88, 89, 50, 90, 91, 109, 110, 111, 129, 112, 114, 752] (by decide +kernel)
set_option maxRecDepth 20000 in
theorem wl_in3 : ∀ w ∈ wsL_law0_r3, w ∈ lw_tbl := wl_ix [753, 754, 755, 758, 760, 761, 762, 763, 765, 767, 768, 769, 770, 771, 772, 773, 775, 776, 777, 778, 779, 387, 388, 48] (by decide +kernel)
set_option maxRecDepth 20000 in
theorem wl_in4 : ∀ w ∈ wsL_law0_r4, w ∈ lw_tbl := wl_ix [389, 390, 391, 392, 393, 394, 395, 399, 58, 415, 59, 343, 431, 60, 396, 397, 398, 160, 161, 162, 163, 95, 432, 433] (by decide +kernel)
set_option maxRecDepth 20000 in
theorem wl_in5 : ∀ w ∈ wsL_law0_r5, w ∈ lw_tbl := wl_ix [434, 435, 444, 436, 438, 440, 442, 458, 459, 460, 461, 97, 98, 462, 464, 17, 465, 466, 468, 18, 469, 470, 472, 19] (by decide +kernel)
set_option maxRecDepth 20000 in
theorem wl_in6 : ∀ w ∈ wsL_law0_r6, w ∈ lw_tbl := wl_ix [473, 512, 357, 62, 358, 513, 474, 475, 61, 476, 477, 478, 479, 480, 481, 482, 483, 63, 484, 485, 1042, 486, 499, 500] (by decide +kernel)
set_option maxRecDepth 20000 in
theorem wl_in7 : ∀ w ∈ wsL_law0_r7, w ∈ lw_tbl := wl_ix [501, 502, 503, 505, 506, 507, 508, 509, 511, 510, 64, 839, 840, 841, 842, 756, 759, 843, 844, 845, 846, 848, 26, 849] (by decide +kernel)
set_option maxRecDepth 20000 in
theorem wl_in8 : ∀ w ∈ wsL_law0_r8, w ∈ lw_tbl := wl_ix [835, 836, 837, 838, 514, 515, 516, 517, 518, 519, 520, 521, 253, 524, 65, 525, 526, 527, 528, 539, 542, 544, 529, 531] (by decide +kernel)
set_option maxRecDepth 20000 in
theorem wl_in9 : ∀ w ∈ wsL_law0_r9, w ∈ lw_tbl := wl_ix [533, 535, 537, 850, 851, 852, 853, 854, 766, 564, 565, 566, 567, 568, 569, 570, 571, 439, 532, 178, 580, 69, 368, 370] (by decide +kernel)
set_option maxRecDepth 20000 in
theorem wl_in10 : ∀ w ∈ wsL_law0_r10, w ∈ lw_tbl := wl_ix [14, 371, 275, 66, 253, 164, 165, 166, 167, 168, 169, 67, 170, 171, 172, 68, 173, 174, 175, 176, 177, 271, 273, 8] (by decide +kernel)
set_option maxRecDepth 20000 in
theorem wl_in11 : ∀ w ∈ wsL_law0_r11, w ∈ lw_tbl := wl_ix [274, 343, 572, 574, 20, 575, 236, 234, 235, 581, 582, 583, 584, 594, 596, 585, 586, 588, 590, 592, 855, 856, 857, 858] (by decide +kernel)
set_option maxRecDepth 20000 in
theorem wl_in12 : ∀ w ∈ wsL_law0_r12, w ∈ lw_tbl := wl_ix [757, 774, 859, 861, 27, 862, 863, 865, 28, 866, 867, 868, 869, 613, 614, 615, 616, 617, 618, 619, 203, 621, 70, 622] (by decide +kernel)
set_option maxRecDepth 20000 in
theorem wl_in13 : ∀ w ∈ wsL_law0_r13, w ∈ lw_tbl := wl_ix [623, 624, 625, 626, 628, 629, 637, 639, 21, 640, 178, 589, 627, 595, 591, 593, 204, 205, 206, 207, 870, 871, 872, 873] (by decide +kernel)
set_option maxRecDepth 20000 in
theorem wl_in14 : ∀ w ∈ wsL_law0_r14, w ∈ lw_tbl := wl_ix [764, 780, 874, 876, 29, 877, 878, 879, 880, 641, 642, 643, 644, 645, 646, 647, 881, 882, 883, 884, 649, 650, 651, 652] (by decide +kernel)
set_option maxRecDepth 20000 in
theorem wl_in15 : ∀ w ∈ wsL_law0_r15, w ∈ lw_tbl := wl_ix [653, 654, 655, 885, 886, 887, 888, 657, 658, 659, 660, 378, 379, 380, 587, 530, 437, 597, 381, 383, 16, 384, 179, 180] (by decide +kernel)
set_option maxRecDepth 20000 in
theorem wl_in16 : ∀ w ∈ wsL_law0_r16, w ∈ lw_tbl := wl_ix [181, 182, 534, 352, 354, 12, 355, 356, 191, 192, 193, 194, 889, 890, 891, 892, 893, 895, 30, 896, 897, 899, 31, 900] (by decide +kernel)
set_option maxRecDepth 20000 in
theorem wl_in17 : ∀ w ∈ wsL_law0_r17, w ∈ lw_tbl := wl_ix [901, 903, 32, 904, 905, 907, 33, 908, 913, 909, 911, 34, 912, 661, 662, 663, 664, 665, 666, 667, 187, 189, 2, 190] (by decide +kernel)
set_option maxRecDepth 20000 in
theorem wl_in18 : ∀ w ∈ wsL_law0_r18, w ∈ lw_tbl := wl_ix [441, 914, 915, 916, 917, 918, 920, 35, 921, 669, 670, 671, 672, 673, 674, 675, 195, 197, 3, 198, 199, 201, 4, 202] (by decide +kernel)
set_option maxRecDepth 20000 in
theorem wl_in19 : ∀ w ∈ wsL_law0_r19, w ∈ lw_tbl := wl_ix [203, 208, 210, 5, 211, 922, 923, 924, 925, 926, 928, 36, 929, 930, 932, 37, 933, 152, 153, 154, 155, 117, 156, 158] (by decide +kernel)
set_option maxRecDepth 20000 in
theorem wl_in20 : ∀ w ∈ wsL_law0_r20, w ∈ lw_tbl := wl_ix [0, 159, 113, 115, 119, 183, 185, 1, 186, 212, 213, 214, 215, 216, 217, 218, 116, 118, 219, 221, 6, 222, 223, 224] (by decide +kernel)
set_option maxRecDepth 20000 in
theorem wl_in21 : ∀ w ∈ wsL_law0_r21, w ∈ lw_tbl := wl_ix [71, 225, 226, 227, 228, 229, 230, 231, 232, 934, 935, 936, 937, 938, 676, 677, 678, 679, 680, 681, 682, 683, 685, 22] (by decide +kernel)
set_option maxRecDepth 20000 in
theorem wl_in22 : ∀ w ∈ wsL_law0_r22, w ∈ lw_tbl := wl_ix [686, 939, 940, 941, 942, 943, 945, 38, 946, 947, 949, 39, 950, 688, 689, 690, 691, 692, 693, 694, 695, 697, 23, 698] (by decide +kernel)
set_option maxRecDepth 20000 in
theorem wl_in23 : ∀ w ∈ wsL_law0_r23, w ∈ lw_tbl := wl_ix [241, 243, 7, 244, 951, 952, 953, 954, 700, 701, 702, 703, 704, 705, 706, 955, 956, 957, 958, 237, 238, 239, 240, 959] (by decide +kernel)
set_option maxRecDepth 20000 in
theorem wl_in24 : ∀ w ∈ wsL_law0_r24, w ∈ lw_tbl := wl_ix [960, 961, 962, 708, 709, 710, 711, 712, 713, 714, 963, 964, 965, 966, 715, 716, 717, 718, 719, 720, 721, 724, 726, 24] (by decide +kernel)
set_option maxRecDepth 20000 in
theorem wl_in25 : ∀ w ∈ wsL_law0_r25, w ∈ lw_tbl := wl_ix [727, 728, 729, 730, 731, 732, 733, 735, 25, 736, 348, 350, 11, 351, 737, 738, 739, 740, 443, 540, 741, 545, 445, 967] (by decide +kernel)
set_option maxRecDepth 20000 in
theorem wl_in26 : ∀ w ∈ wsL_law0_r26, w ∈ lw_tbl := wl_ix [968, 969, 970, 971, 973, 40, 974, 781, 983, 975, 977, 41, 978, 979, 981, 42, 982, 245, 246, 247, 248, 984, 985, 986] (by decide +kernel)
set_option maxRecDepth 20000 in
theorem wl_in27 : ∀ w ∈ wsL_law0_r27, w ∈ lw_tbl := wl_ix [987, 742, 743, 744, 745, 365, 366, 367, 541, 543, 546, 373, 375, 15, 376, 538, 536, 988, 989, 990, 991, 992, 994, 43] (by decide +kernel)
set_option maxRecDepth 20000 in
theorem wl_in28 : ∀ w ∈ wsL_law0_r28, w ∈ lw_tbl := wl_ix [995, 996, 998, 44, 999, 746, 747, 748, 749, 268, 269, 270, 446, 344, 346, 10, 347, 359, 361, 13, 362, 1000, 1001, 1002] (by decide +kernel)
set_option maxRecDepth 20000 in
theorem wl_in29 : ∀ w ∈ wsL_law0_r29, w ∈ lw_tbl := wl_ix [1003, 1004, 1006, 45, 1007, 1008, 1010, 46, 1011, 1012, 1014, 47, 1015, 249, 250, 251, 252, 254, 255, 256, 257, 1016, 1017, 1018] (by decide +kernel)
set_option maxRecDepth 20000 in
theorem wl_in30 : ∀ w ∈ wsL_law0_r30, w ∈ lw_tbl := wl_ix [1019, 258, 259, 260, 261, 262, 263, 264, 265, 266, 267, 364, 377, 1020, 1021, 1022, 1023, 1024, 1025] (by decide +kernel)

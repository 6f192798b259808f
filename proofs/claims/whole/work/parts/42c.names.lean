theorem dL_antenna_8 : decode cL_antenna 8 = .ok (.i2l, 1) := by decide +kernel
theorem dL_antenna_9 : decode cL_antenna 9 = .ok (.lastore, 1) := by decide +kernel
theorem dL_antenna_10 : decode cL_antenna 10 = .ok (.goto 7, 3) := by decide +kernel
theorem dL_antenna_13 : decode cL_antenna 13 = .ok (.astore 4, 2) := by decide +kernel
theorem dL_antenna_15 : decode cL_antenna 15 = .ok (.iconst 1, 1) := by decide +kernel
theorem dL_antenna_16 : decode cL_antenna 16 = .ok (.ireturn, 1) := by decide +kernel
theorem dL_antenna_17 : decode cL_antenna 17 = .ok (.iconst 0, 1) := by decide +kernel
theorem dL_antenna_18 : decode cL_antenna 18 = .ok (.ireturn, 1) := by decide +kernel
set_option maxRecDepth 20000 in
theorem ggL_law_X5_init : GoodIn wsL_law wsX5_init := goodIn_r _ [9, 10, 11, 12, 13, 14, 15, 16, 17, 18, 19, 20, 21, 22, 23, 24, 25, 26, 27, 28, 29, 30, 31, 32, 33, 34, 35, 36, 37, 38, 39, 40, 41, 42, 43, 44, 45, 46, 748, 749, 750, 715, 716, 717, 718, 719, 720, 721, 751, 752, 753, 754] (by decide +kernel) (by decide +kernel)
set_option maxRecDepth 20000 in
theorem gL_law_X5_init : GoodIn wsL_law (wsX5_init) := ggL_law_X5_init
set_option maxRecDepth 20000 in
theorem ggL_law_X6_init : GoodIn wsL_law wsX6_init := goodIn_r _ [49, 50, 11, 12, 51, 44, 52, 53, 54, 55, 56, 57, 58, 59, 60, 61, 62, 63, 64, 65, 66, 67, 68, 722, 723, 724, 725, 726, 727, 728, 729, 730, 731, 732, 733, 734, 735, 736, 737, 738, 739, 740, 741, 742, 743, 744, 745, 746, 747] (by decide +kernel) (by decide +kernel)
set_option maxRecDepth 20000 in
theorem gL_law_X6_init : GoodIn wsL_law (wsX6_init) := ggL_law_X6_init
set_option maxRecDepth 20000 in
theorem ggL_law_L_addAntenna : GoodIn wsL_law wsL_addAntenna := goodIn_ca (goodIn_ca (goodIn_r _ [72, 73, 74, 75, 76, 77, 2, 78, 79, 80, 81, 82, 16, 83, 84, 85, 86, 87, 88, 89, 90, 91, 15, 92, 93, 94, 95, 96, 97, 11, 12, 98, 99, 100, 101, 102, 103, 104, 105, 106, 107, 108, 30, 109, 110, 111, 112, 113, 114, 115, 116, 117, 118, 119, 120, 29, 121, 122, 123, 124, 125, 126, 127, 128, 129, 130, 131, 132, 133, 134, 135, 136, 137, 138, 139, 140, 141, 142, 143, 144, 145, 146, 147, 148, 149, 150, 151, 152, 153, 154, 715, 716, 717, 718, 719, 720, 721, 755, 756, 757, 758, 759, 748, 749, 750] (by decide +kernel) (by decide +kernel)) (goodIn_sub (fun _ h => List.mem_append_left _ (List.mem_append_left _ (List.mem_append_right _ h))) (by decide +kernel))) (goodIn_sub (fun _ h => List.mem_append_left _ (List.mem_append_right _ h)) (by decide +kernel))
set_option maxRecDepth 20000 in
theorem gL_law_L_addAntenna : GoodIn wsL_law (va_wsS RL 73 yL_addAntenna wsL_addAntenna) := goodIn_app (goodIn_of _ (by decide +kernel)) ggL_law_L_addAntenna
set_option maxRecDepth 20000 in
theorem ggL_law_X6_addAntenna : GoodIn wsL_law wsX6_addAntenna := goodIn_r _ [158, 159, 160, 52, 53, 54, 161, 162, 5, 163, 164, 165, 166, 167, 722, 723, 724, 725, 726, 727, 728, 729, 730, 731, 732, 733, 734, 735, 736, 737, 738, 739, 740, 741, 742, 743, 744, 745, 746, 747] (by decide +kernel) (by decide +kernel)
set_option maxRecDepth 20000 in
theorem gL_law_X6_addAntenna : GoodIn wsL_law (wsV RL 78 RX6 yX6_addAntenna wsX6_addAntenna) := goodIn_app (goodIn_of _ (by decide +kernel)) ggL_law_X6_addAntenna
set_option maxRecDepth 20000 in
theorem ggL_law_X6_thrown : GoodIn wsL_law wsX6_thrown := goodIn_r _ [171, 159, 722, 723, 724, 725, 726, 727, 728, 729, 730, 731, 732, 733, 734, 735, 736, 737, 738, 739, 740, 741, 742, 743, 744, 745, 746, 747] (by decide +kernel) (by decide +kernel)
set_option maxRecDepth 20000 in
theorem gL_law_X6_thrown : GoodIn wsL_law (wsV RL 79 RX6 yX6_thrown wsX6_thrown) := goodIn_app (goodIn_of _ (by decide +kernel)) ggL_law_X6_thrown
set_option maxRecDepth 20000 in
theorem ggL_law_L_addSatellite : GoodIn wsL_law wsL_addSatellite := goodIn_ca (goodIn_ca (goodIn_r _ [174, 73, 74, 175, 176, 177, 2, 178, 79, 80, 81, 82, 179, 17, 180, 181, 182, 86, 87, 88, 89, 90, 91, 15, 92, 93, 183, 184, 185, 186, 11, 12, 187, 188, 189, 190, 191, 192, 193, 194, 103, 104, 105, 106, 107, 108, 30, 109, 110, 111, 112, 113, 114, 115, 116, 117, 118, 119, 120, 29, 121, 122, 123, 124, 125, 126, 127, 128, 129, 130, 131, 132, 133, 134, 135, 136, 137, 138, 139, 140, 141, 142, 143, 144, 145, 146, 147, 148, 149, 150, 151, 152, 153, 154, 715, 716, 717, 718, 719, 720, 721, 760, 761, 762, 763, 764, 765, 766, 767, 748, 749, 750] (by decide +kernel) (by decide +kernel)) (goodIn_sub (fun _ h => List.mem_append_left _ (List.mem_append_left _ (List.mem_append_right _ h))) (by decide +kernel))) (goodIn_sub (fun _ h => List.mem_append_left _ (List.mem_append_right _ h)) (by decide +kernel))
set_option maxRecDepth 20000 in
theorem gL_law_L_addSatellite : GoodIn wsL_law (va_wsS RL 83 yL_addSatellite wsL_addSatellite) := goodIn_app (goodIn_of _ (by decide +kernel)) ggL_law_L_addSatellite
set_option maxRecDepth 20000 in
theorem ggL_law_X6_addSatellite : GoodIn wsL_law wsX6_addSatellite := goodIn_r _ [198, 159, 199, 200, 57, 58, 59, 60, 161, 162, 5, 163, 164, 165, 166, 167, 722, 723, 724, 725, 726, 727, 728, 729, 730, 731, 732, 733, 734, 735, 736, 737, 738, 739, 740, 741, 742, 743, 744, 745, 746, 747] (by decide +kernel) (by decide +kernel)
set_option maxRecDepth 20000 in
theorem gL_law_X6_addSatellite : GoodIn wsL_law (wsV RL 86 RX6 yX6_addSatellite wsX6_addSatellite) := goodIn_app (goodIn_of _ (by decide +kernel)) ggL_law_X6_addSatellite
set_option maxRecDepth 20000 in
theorem ggL_law_L_addPass : GoodIn wsL_law wsL_addPass := goodIn_ca (goodIn_ca (goodIn_ca (goodIn_r _ [203, 204, 73, 74, 205, 206, 207, 2, 208, 79, 80, 81, 82, 209, 210, 18, 211, 212, 213, 214, 215, 216, 217, 218, 219, 17, 220, 89, 90, 91, 15, 92, 93, 221, 222, 223, 224, 225, 226, 227, 228, 229, 230, 231, 232, 233, 234, 235, 236, 30, 237, 238, 239, 240, 16, 241, 242, 243, 244, 245, 24, 246, 247, 248, 249, 250, 251, 252, 11, 12, 253, 254, 255, 256, 257, 258, 259, 103, 104, 105, 106, 107, 108, 109, 110, 111, 112, 113, 114, 115, 116, 117, 118, 119, 120, 29, 121, 122, 123, 124, 125, 126, 127, 128, 129, 130, 131, 132, 133, 134, 135, 136, 137, 138, 139, 140, 141, 142, 143, 144, 145, 146, 147, 148, 149, 150, 151, 152, 153, 154, 755, 756, 757, 758, 759, 760, 761, 762, 763, 764, 765, 766, 767, 715, 716, 717, 718, 719, 720, 721, 768, 769, 770, 771, 772, 773, 774, 748, 749, 750] (by decide +kernel) (by decide +kernel)) (goodIn_sub (fun _ h => List.mem_append_left _ (List.mem_append_left _ (List.mem_append_right _ h))) (by decide +kernel))) (goodIn_sub (fun _ h => List.mem_append_left _ (List.mem_append_right _ h)) (by decide +kernel))) (goodIn_sub (fun _ h => List.mem_append_right _ h) (by decide +kernel))
set_option maxRecDepth 20000 in
theorem gL_law_L_addPass : GoodIn wsL_law (va_wsS RL 87 yL_addPass wsL_addPass) := goodIn_app (goodIn_of _ (by decide +kernel)) ggL_law_L_addPass
set_option maxRecDepth 20000 in
theorem ggL_law_X6_addPass : GoodIn wsL_law wsX6_addPass := goodIn_r _ [263, 159, 264, 52, 57, 265, 64, 65, 66, 67, 266, 267, 268, 5, 269, 200, 161, 162, 163, 270, 271, 272, 273, 160, 164, 165, 166, 167, 274, 275, 276, 722, 723, 724, 725, 726, 727, 728, 729, 730, 731, 732, 733, 734, 735, 736, 737, 738, 739, 740, 741, 742, 743, 744, 745, 746, 747] (by decide +kernel) (by decide +kernel)
set_option maxRecDepth 20000 in
theorem gL_law_X6_addPass : GoodIn wsL_law (wsV RL 89 RX6 yX6_addPass wsX6_addPass) := goodIn_app (goodIn_of _ (by decide +kernel)) ggL_law_X6_addPass
set_option maxRecDepth 20000 in
theorem ggL_law_L_addOutage : GoodIn wsL_law wsL_addOutage := goodIn_ca (goodIn_ca (goodIn_ca (goodIn_r _ [279, 204, 73, 74, 280, 281, 282, 2, 283, 81, 82, 19, 284, 285, 286, 237, 238, 239, 240, 218, 219, 16, 241, 89, 90, 91, 15, 92, 93, 221, 222, 223, 224, 225, 226, 227, 228, 229, 230, 231, 232, 233, 234, 235, 236, 30, 242, 243, 244, 245, 79, 80, 24, 287, 288, 289, 290, 11, 12, 291, 292, 293, 103, 104, 105, 106, 107, 108, 109, 110, 111, 112, 113, 114, 115, 116, 117, 118, 119, 120, 29, 121, 122, 123, 124, 125, 126, 127, 128, 129, 130, 131, 132, 133, 134, 135, 136, 137, 138, 139, 140, 141, 142, 143, 144, 145, 146, 147, 148, 149, 150, 151, 152, 153, 154, 294, 295, 296, 297, 18, 298, 299, 300, 301, 302, 303, 304, 305, 306, 307, 715, 716, 717, 718, 719, 720, 721, 775, 776, 777, 748, 749, 750, 768, 769, 770, 771, 772, 773, 774] (by decide +kernel) (by decide +kernel)) (goodIn_sub (fun _ h => List.mem_append_left _ (List.mem_append_right _ h)) (by decide +kernel))) (goodIn_sub (fun _ h => List.mem_append_right _ h) (by decide +kernel))) (goodIn_sub (fun _ h => List.mem_append_left _ (List.mem_append_left _ (List.mem_append_right _ h))) (by decide +kernel))
set_option maxRecDepth 20000 in
theorem gL_law_L_addOutage : GoodIn wsL_law (va_wsS RL 90 yL_addOutage wsL_addOutage) := goodIn_app (goodIn_of _ (by decide +kernel)) ggL_law_L_addOutage
set_option maxRecDepth 20000 in
theorem ggL_law_X6_addOutage : GoodIn wsL_law wsX6_addOutage := goodIn_r _ [311, 159, 264, 312, 56, 265, 313, 270, 271, 272, 5, 273, 160, 161, 162, 163, 164, 165, 166, 167, 274, 275, 276, 314, 315, 316, 317, 65, 66, 67, 318, 319, 320, 722, 723, 724, 725, 726, 727, 728, 729, 730, 731, 732, 733, 734, 735, 736, 737, 738, 739, 740, 741, 742, 743, 744, 745, 746, 747] (by decide +kernel) (by decide +kernel)
set_option maxRecDepth 20000 in
theorem gL_law_X6_addOutage : GoodIn wsL_law (wsV RL 92 RX6 yX6_addOutage wsX6_addOutage) := goodIn_app (goodIn_of _ (by decide +kernel)) ggL_law_X6_addOutage
set_option maxRecDepth 20000 in
theorem ggL_law_L_setHandover : GoodIn wsL_law wsL_setHandover := goodIn_ca (goodIn_r _ [323, 73, 324, 325, 326, 2, 327, 79, 80, 25, 86, 87, 88, 715, 716, 717, 718, 719, 720, 721] (by decide +kernel) (by decide +kernel)) (goodIn_sub (fun _ h => List.mem_append_left _ (List.mem_append_left _ (List.mem_append_right _ h))) (by decide +kernel))
set_option maxRecDepth 20000 in
theorem gL_law_L_setHandover : GoodIn wsL_law (va_wsS RL 93 yL_setHandover wsL_setHandover) := goodIn_app (goodIn_of _ (by decide +kernel)) ggL_law_L_setHandover
set_option maxRecDepth 20000 in
theorem ggL_law_X6_setHandover : GoodIn wsL_law wsX6_setHandover := goodIn_r _ [331, 159, 51, 161, 162, 5, 163, 164, 165, 166, 167, 722, 723, 724, 725, 726, 727, 728, 729, 730, 731, 732, 733, 734, 735, 736, 737, 738, 739, 740, 741, 742, 743, 744, 745, 746, 747] (by decide +kernel) (by decide +kernel)
set_option maxRecDepth 20000 in
theorem gL_law_X6_setHandover : GoodIn wsL_law (wsV RL 96 RX6 yX6_setHandover wsX6_setHandover) := goodIn_app (goodIn_of _ (by decide +kernel)) ggL_law_X6_setHandover
set_option maxRecDepth 20000 in
theorem ggL_law_L_count : GoodIn wsL_law wsL_count := goodIn_ca (goodIn_r _ [334, 204, 335, 336, 337, 2, 338, 218, 219, 16, 17, 18, 89, 90, 91, 15, 92, 93, 715, 716, 717, 718, 719, 720, 721, 748, 749, 750] (by decide +kernel) (by decide +kernel)) (goodIn_sub (fun _ h => List.mem_append_right _ h) (by decide +kernel))
set_option maxRecDepth 20000 in
theorem gL_law_L_count : GoodIn wsL_law (va_wsS RL 97 yL_count wsL_count) := goodIn_app (goodIn_of _ (by decide +kernel)) ggL_law_L_count
set_option maxRecDepth 20000 in
theorem ggL_law_X6_count : GoodIn wsL_law wsX6_count := goodIn_r _ [342, 159, 160, 200, 265, 161, 162, 5, 163, 164, 165, 166, 167, 722, 723, 724, 725, 726, 727, 728, 729, 730, 731, 732, 733, 734, 735, 736, 737, 738, 739, 740, 741, 742, 743, 744, 745, 746, 747] (by decide +kernel) (by decide +kernel)
set_option maxRecDepth 20000 in
theorem gL_law_X6_count : GoodIn wsL_law (wsV RL 99 RX6 yX6_count wsX6_count) := goodIn_app (goodIn_of _ (by decide +kernel)) ggL_law_X6_count
set_option maxRecDepth 20000 in
theorem ggL_law_L_pass : GoodIn wsL_law wsL_pass := goodIn_ca (goodIn_r _ [345, 204, 346, 347, 348, 2, 349, 218, 219, 350, 351, 299, 352, 302, 303, 301, 353, 354, 355, 356, 357, 18, 298, 89, 90, 91, 15, 92, 93, 221, 222, 223, 224, 225, 226, 227, 228, 229, 230, 231, 232, 233, 234, 235, 236, 30, 358, 359, 360, 213, 361, 256, 362, 259, 258, 363, 364, 365, 366, 367, 122, 123, 124, 368, 369, 370, 371, 255, 768, 769, 770, 771, 772, 773, 774, 760, 761, 762, 763, 764, 765, 766, 767, 755, 756, 757, 758, 759, 715, 716, 717, 718, 719, 720, 721, 748, 749, 750] (by decide +kernel) (by decide +kernel)) (goodIn_sub (fun _ h => List.mem_append_right _ h) (by decide +kernel))
set_option maxRecDepth 20000 in
theorem gL_law_L_pass : GoodIn wsL_law (va_wsS RL 100 yL_pass wsL_pass) := goodIn_app (goodIn_of _ (by decide +kernel)) ggL_law_L_pass
set_option maxRecDepth 20000 in
theorem ggL_law_X6_pass : GoodIn wsL_law wsX6_pass := goodIn_r _ [375, 159, 376, 377, 378, 5, 379, 265, 161, 162, 163, 380, 381, 382, 383, 64, 65, 66, 67, 313, 68, 384, 385, 386, 387, 58, 274, 275, 276, 388, 389, 390, 391, 392, 122, 123, 124, 393, 394, 395, 396, 164, 165, 166, 167, 722, 723, 724, 725, 726, 727, 728, 729, 730, 731, 732, 733, 734, 735, 736, 737, 738, 739, 740, 741, 742, 743, 744, 745, 746, 747] (by decide +kernel) (by decide +kernel)
set_option maxRecDepth 20000 in
theorem gL_law_X6_pass : GoodIn wsL_law (wsV RL 103 RX6 yX6_pass wsX6_pass) := goodIn_app (goodIn_of _ (by decide +kernel)) ggL_law_X6_pass
set_option maxRecDepth 20000 in
theorem ggL_law_L_isConflict : GoodIn wsL_law wsL_isConflict := goodIn_ca (goodIn_ca (goodIn_r _ [399, 204, 73, 400, 401, 402, 2, 403, 79, 80, 354, 355, 356, 357, 218, 219, 18, 298, 89, 90, 91, 15, 92, 93, 221, 222, 223, 224, 225, 226, 227, 228, 229, 230, 231, 232, 233, 234, 235, 236, 30, 404, 405, 406, 407, 299, 302, 303, 408, 350, 25, 368, 369, 370, 213, 371, 258, 255, 715, 716, 717, 718, 719, 720, 721, 748, 749, 750, 768, 769, 770, 771, 772, 773, 774, 755, 756, 757, 758, 759] (by decide +kernel) (by decide +kernel)) (goodIn_sub (fun _ h => List.mem_append_left _ (List.mem_append_left _ (List.mem_append_right _ h))) (by decide +kernel))) (goodIn_sub (fun _ h => List.mem_append_right _ h) (by decide +kernel))
set_option maxRecDepth 20000 in
theorem gL_law_L_isConflict : GoodIn wsL_law (va_wsS RL 104 yL_isConflict wsL_isConflict) := goodIn_app (goodIn_of _ (by decide +kernel)) ggL_law_L_isConflict
set_option maxRecDepth 20000 in
theorem ggL_law_X6_isConflict : GoodIn wsL_law wsX6_isConflict := goodIn_r _ [412, 159, 376, 377, 378, 5, 379, 265, 161, 162, 163, 413, 414, 415, 416, 65, 66, 67, 53, 64, 51, 393, 394, 395, 396, 722, 723, 724, 725, 726, 727, 728, 729, 730, 731, 732, 733, 734, 735, 736, 737, 738, 739, 740, 741, 742, 743, 744, 745, 746, 747] (by decide +kernel) (by decide +kernel)
set_option maxRecDepth 20000 in
theorem gL_law_X6_isConflict : GoodIn wsL_law (wsV RL 106 RX6 yX6_isConflict wsX6_isConflict) := goodIn_app (goodIn_of _ (by decide +kernel)) ggL_law_X6_isConflict
set_option maxRecDepth 20000 in
theorem ggL_law_L_canTake : GoodIn wsL_law wsL_canTake := goodIn_ca (goodIn_r _ [419, 204, 420, 421, 422, 2, 423, 354, 355, 356, 357, 218, 219, 18, 298, 89, 90, 91, 15, 92, 93, 221, 222, 223, 224, 225, 226, 227, 228, 229, 230, 231, 232, 233, 234, 235, 236, 30, 424, 425, 426, 427, 301, 302, 24, 299, 303, 428, 429, 430, 431, 19, 432, 300, 304, 305, 306, 286, 307, 292, 293, 433, 434, 435, 436, 404, 405, 406, 407, 408, 350, 25, 368, 369, 370, 213, 371, 258, 255, 715, 716, 717, 718, 719, 720, 721, 748, 749, 750, 768, 769, 770, 771, 772, 773, 774, 775, 776, 777, 755, 756, 757, 758, 759] (by decide +kernel) (by decide +kernel)) (goodIn_sub (fun _ h => List.mem_append_right _ h) (by decide +kernel))
set_option maxRecDepth 20000 in
theorem gL_law_L_canTake : GoodIn wsL_law (va_wsS RL 107 yL_canTake wsL_canTake) := goodIn_app (goodIn_of _ (by decide +kernel)) ggL_law_L_canTake
set_option maxRecDepth 20000 in
theorem ggL_law_X6_canTake : GoodIn wsL_law wsX6_canTake := goodIn_r _ [440, 159, 376, 377, 378, 5, 379, 265, 161, 162, 163, 441, 442, 443, 444, 313, 66, 264, 312, 274, 275, 276, 445, 446, 447, 448, 413, 414, 415, 416, 65, 67, 53, 64, 51, 393, 394, 395, 396, 314, 315, 316, 317, 56, 318, 319, 320, 722, 723, 724, 725, 726, 727, 728, 729, 730, 731, 732, 733, 734, 735, 736, 737, 738, 739, 740, 741, 742, 743, 744, 745, 746, 747] (by decide +kernel) (by decide +kernel)
set_option maxRecDepth 20000 in
theorem gL_law_X6_canTake : GoodIn wsL_law (wsV RL 109 RX6 yX6_canTake wsX6_canTake) := goodIn_app (goodIn_of _ (by decide +kernel)) ggL_law_X6_canTake
set_option maxRecDepth 20000 in
theorem ggL_law_X5_best : GoodIn wsL_law wsX5_best := goodIn_r _ [452, 23, 453, 454, 455, 456, 2, 457, 18, 298, 458, 459, 460, 89, 90, 91, 15, 92, 93, 221, 222, 223, 224, 225, 226, 227, 228, 229, 230, 231, 232, 233, 234, 235, 236, 30, 358, 359, 360, 213, 361, 256, 362, 259, 258, 461, 462, 463, 464, 404, 405, 406, 407, 299, 302, 303, 408, 350, 25, 368, 369, 370, 371, 255, 424, 425, 426, 427, 301, 24, 428, 429, 430, 431, 19, 432, 300, 304, 305, 306, 286, 307, 292, 293, 433, 434, 435, 436, 465, 466, 467, 468, 469, 470, 22, 471, 472, 473, 474, 475, 476, 477, 478, 479, 480, 481, 482, 483, 484, 485, 486, 487, 488, 45, 247, 248, 246, 715, 716, 717, 718, 719, 720, 721, 751, 752, 753, 754, 748, 749, 750, 768, 769, 770, 771, 772, 773, 774, 760, 761, 762, 763, 764, 765, 766, 767, 755, 756, 757, 758, 759, 775, 776, 777] (by decide +kernel) (by decide +kernel)
set_option maxRecDepth 20000 in
theorem gL_law_X5_best : GoodIn wsL_law (wsV RL 110 RX5 yX5_best wsX5_best) := goodIn_app (goodIn_of _ (by decide +kernel)) ggL_law_X5_best
set_option maxRecDepth 20000 in
theorem ggL_law_X6_best : GoodIn wsL_law wsX6_best := goodIn_r _ [492, 159, 265, 44, 441, 442, 443, 5, 444, 313, 66, 264, 312, 274, 275, 276, 445, 446, 447, 448, 413, 414, 415, 416, 65, 67, 53, 64, 51, 393, 394, 395, 396, 314, 315, 316, 317, 56, 318, 319, 320, 384, 385, 386, 387, 58, 493, 479, 480, 481, 482, 483, 484, 722, 723, 724, 725, 726, 727, 728, 729, 730, 731, 732, 733, 734, 735, 736, 737, 738, 739, 740, 741, 742, 743, 744, 745, 746, 747] (by decide +kernel) (by decide +kernel)
set_option maxRecDepth 20000 in
theorem gL_law_X6_best : GoodIn wsL_law (wsV RL 113 RX6 yX6_best wsX6_best) := goodIn_app (goodIn_of _ (by decide +kernel)) ggL_law_X6_best
set_option maxRecDepth 20000 in
theorem ggL_law_L_weight : GoodIn wsL_law wsL_weight := goodIn_ca (goodIn_r _ [496, 73, 497, 498, 499, 2, 500, 18, 298, 501, 502, 503, 504, 79, 80, 89, 90, 91, 15, 92, 93, 246, 247, 248, 221, 222, 223, 224, 225, 226, 227, 228, 229, 230, 231, 232, 233, 234, 235, 236, 30, 358, 359, 360, 213, 361, 256, 362, 259, 258, 715, 716, 717, 718, 719, 720, 721, 748, 749, 750, 768, 769, 770, 771, 772, 773, 774, 760, 761, 762, 763, 764, 765, 766, 767] (by decide +kernel) (by decide +kernel)) (goodIn_sub (fun _ h => List.mem_append_left _ (List.mem_append_left _ (List.mem_append_right _ h))) (by decide +kernel))
set_option maxRecDepth 20000 in
theorem gL_law_L_weight : GoodIn wsL_law (va_wsS RL 114 yL_weight wsL_weight) := goodIn_app (goodIn_of _ (by decide +kernel)) ggL_law_L_weight
set_option maxRecDepth 20000 in
theorem ggL_law_X6_weight : GoodIn wsL_law wsX6_weight := goodIn_r _ [508, 159, 509, 510, 511, 5, 512, 265, 161, 162, 163, 513, 514, 515, 516, 274, 275, 276, 384, 385, 386, 387, 58, 64, 67, 66, 164, 165, 166, 167, 722, 723, 724, 725, 726, 727, 728, 729, 730, 731, 732, 733, 734, 735, 736, 737, 738, 739, 740, 741, 742, 743, 744, 745, 746, 747] (by decide +kernel) (by decide +kernel)
set_option maxRecDepth 20000 in
theorem gL_law_X6_weight : GoodIn wsL_law (wsV RL 116 RX6 yX6_weight wsX6_weight) := goodIn_app (goodIn_of _ (by decide +kernel)) ggL_law_X6_weight
set_option maxRecDepth 20000 in
theorem ggL_law_L_take : GoodIn wsL_law wsL_take := goodIn_ca (goodIn_ca (goodIn_r _ [519, 73, 74, 520, 521, 522, 2, 523, 81, 82, 18, 298, 301, 501, 502, 503, 504, 79, 80, 89, 90, 91, 15, 92, 93, 524, 525, 526, 527, 246, 247, 248, 221, 222, 223, 224, 225, 226, 227, 228, 229, 230, 231, 232, 233, 234, 235, 236, 30, 424, 425, 426, 427, 302, 24, 299, 303, 428, 429, 430, 431, 19, 432, 300, 304, 305, 306, 286, 307, 292, 293, 433, 434, 435, 436, 404, 405, 406, 407, 408, 350, 25, 368, 369, 370, 213, 371, 258, 255, 461, 462, 463, 464, 528, 529, 530, 531, 715, 716, 717, 718, 719, 720, 721, 768, 769, 770, 771, 772, 773, 774, 748, 749, 750, 775, 776, 777, 755, 756, 757, 758, 759] (by decide +kernel) (by decide +kernel)) (goodIn_sub (fun _ h => List.mem_append_left _ (List.mem_append_right _ h)) (by decide +kernel))) (goodIn_sub (fun _ h => List.mem_append_left _ (List.mem_append_left _ (List.mem_append_right _ h))) (by decide +kernel))
set_option maxRecDepth 20000 in
theorem gL_law_L_take : GoodIn wsL_law (va_wsS RL 117 yL_take wsL_take) := goodIn_app (goodIn_of _ (by decide +kernel)) ggL_law_L_take
set_option maxRecDepth 20000 in
theorem ggL_law_X6_take : GoodIn wsL_law wsX6_take := goodIn_r _ [535, 159, 265, 313, 509, 510, 511, 5, 512, 161, 162, 163, 164, 165, 166, 167, 274, 275, 276, 441, 442, 443, 444, 66, 264, 312, 445, 446, 447, 448, 413, 414, 415, 416, 65, 67, 53, 64, 51, 393, 394, 395, 396, 314, 315, 316, 317, 56, 318, 319, 320, 722, 723, 724, 725, 726, 727, 728, 729, 730, 731, 732, 733, 734, 735, 736, 737, 738, 739, 740, 741, 742, 743, 744, 745, 746, 747] (by decide +kernel) (by decide +kernel)
set_option maxRecDepth 20000 in
theorem gL_law_X6_take : GoodIn wsL_law (wsV RL 119 RX6 yX6_take wsX6_take) := goodIn_app (goodIn_of _ (by decide +kernel)) ggL_law_X6_take
set_option maxRecDepth 20000 in
theorem ggL_law_L_giveUp : GoodIn wsL_law wsL_giveUp := goodIn_ca (goodIn_ca (goodIn_r _ [538, 204, 74, 539, 540, 541, 2, 542, 81, 82, 301, 302, 24, 354, 355, 356, 357, 218, 219, 18, 298, 89, 90, 91, 15, 92, 93, 221, 222, 223, 224, 225, 226, 227, 228, 229, 230, 231, 232, 233, 234, 235, 236, 30, 528, 529, 530, 531, 768, 769, 770, 771, 772, 773, 774, 715, 716, 717, 718, 719, 720, 721, 748, 749, 750] (by decide +kernel) (by decide +kernel)) (goodIn_sub (fun _ h => List.mem_append_left _ (List.mem_append_right _ h)) (by decide +kernel))) (goodIn_sub (fun _ h => List.mem_append_right _ h) (by decide +kernel))
set_option maxRecDepth 20000 in
theorem gL_law_L_giveUp : GoodIn wsL_law (va_wsS RL 120 yL_giveUp wsL_giveUp) := goodIn_app (goodIn_of _ (by decide +kernel)) ggL_law_L_giveUp
set_option maxRecDepth 20000 in
theorem ggL_law_X6_giveUp : GoodIn wsL_law wsX6_giveUp := goodIn_r _ [546, 159, 313, 66, 264, 376, 377, 378, 5, 379, 265, 161, 162, 163, 164, 165, 166, 167, 274, 275, 276, 722, 723, 724, 725, 726, 727, 728, 729, 730, 731, 732, 733, 734, 735, 736, 737, 738, 739, 740, 741, 742, 743, 744, 745, 746, 747] (by decide +kernel) (by decide +kernel)
set_option maxRecDepth 20000 in
theorem gL_law_X6_giveUp : GoodIn wsL_law (wsV RL 122 RX6 yX6_giveUp wsX6_giveUp) := goodIn_app (goodIn_of _ (by decide +kernel)) ggL_law_X6_giveUp
set_option maxRecDepth 20000 in
theorem ggL_law_X5_taken : GoodIn wsL_law wsX5_taken := goodIn_r _ [550, 528, 529, 530, 2, 531, 18, 298, 301, 89, 90, 91, 15, 92, 93, 221, 222, 223, 224, 225, 226, 227, 228, 229, 230, 231, 232, 233, 234, 235, 236, 30, 715, 716, 717, 718, 719, 720, 721, 768, 769, 770, 771, 772, 773, 774, 748, 749, 750] (by decide +kernel) (by decide +kernel)
set_option maxRecDepth 20000 in
theorem gL_law_X5_taken : GoodIn wsL_law (wsV RL 123 RX5 yX5_taken wsX5_taken) := goodIn_app (goodIn_of _ (by decide +kernel)) ggL_law_X5_taken
set_option maxRecDepth 20000 in
theorem ggL_law_X6_taken : GoodIn wsL_law wsX6_taken := goodIn_r _ [554, 159, 313, 722, 723, 724, 725, 726, 727, 728, 729, 730, 731, 732, 733, 734, 735, 736, 737, 738, 739, 740, 741, 742, 743, 744, 745, 746, 747] (by decide +kernel) (by decide +kernel)
set_option maxRecDepth 20000 in
theorem gL_law_X6_taken : GoodIn wsL_law (wsV RL 126 RX6 yX6_taken wsX6_taken) := goodIn_app (goodIn_of _ (by decide +kernel)) ggL_law_X6_taken
set_option maxRecDepth 20000 in
theorem ggL_law_L_handovers : GoodIn wsL_law wsL_handovers := goodIn_ca (goodIn_r _ [557, 204, 558, 559, 560, 2, 561, 18, 298, 350, 301, 302, 214, 215, 216, 217, 218, 219, 17, 220, 89, 90, 91, 15, 92, 93, 221, 222, 223, 224, 225, 226, 227, 228, 229, 230, 231, 232, 233, 234, 235, 236, 30, 363, 364, 365, 366, 303, 367, 122, 123, 124, 368, 369, 370, 213, 371, 258, 255, 715, 716, 717, 718, 719, 720, 721, 768, 769, 770, 771, 772, 773, 774, 748, 749, 750] (by decide +kernel) (by decide +kernel)) (goodIn_sub (fun _ h => List.mem_append_right _ h) (by decide +kernel))
set_option maxRecDepth 20000 in
theorem gL_law_L_handovers : GoodIn wsL_law (va_wsS RL 127 yL_handovers wsL_handovers) := goodIn_app (goodIn_of _ (by decide +kernel)) ggL_law_L_handovers
set_option maxRecDepth 20000 in
theorem ggL_law_X6_handovers : GoodIn wsL_law wsX6_handovers := goodIn_r _ [565, 159, 265, 313, 64, 66, 266, 267, 268, 5, 269, 200, 161, 162, 163, 164, 165, 166, 167, 274, 275, 276, 388, 389, 390, 391, 67, 392, 122, 123, 124, 393, 394, 395, 396, 722, 723, 724, 725, 726, 727, 728, 729, 730, 731, 732, 733, 734, 735, 736, 737, 738, 739, 740, 741, 742, 743, 744, 745, 746, 747] (by decide +kernel) (by decide +kernel)
set_option maxRecDepth 20000 in
theorem gL_law_X6_handovers : GoodIn wsL_law (wsV RL 129 RX6 yX6_handovers wsX6_handovers) := goodIn_app (goodIn_of _ (by decide +kernel)) ggL_law_X6_handovers
set_option maxRecDepth 20000 in
theorem ggL_law_L_run : GoodIn wsL_law wsL_run := goodIn_ca (goodIn_ca (goodIn_r _ [568, 73, 74, 569, 570, 571, 2, 572, 79, 80, 81, 82, 24, 86, 87, 88, 573, 574, 575, 576, 17, 220, 89, 90, 91, 15, 92, 93, 221, 222, 223, 224, 225, 226, 227, 228, 229, 230, 231, 232, 233, 234, 235, 236, 30, 577, 578, 579, 182, 580, 193, 194, 187, 581, 149, 123, 150, 188, 582, 583, 584, 585, 18, 298, 299, 586, 587, 588, 589, 301, 302, 303, 363, 364, 365, 366, 350, 367, 122, 124, 368, 369, 370, 213, 371, 258, 255, 428, 429, 430, 431, 19, 432, 300, 304, 305, 306, 286, 307, 292, 293, 590, 591, 592, 593, 257, 594, 256, 595, 596, 597, 598, 254, 715, 716, 717, 718, 719, 720, 721, 748, 749, 750, 760, 761, 762, 763, 764, 765, 766, 767, 768, 769, 770, 771, 772, 773, 774, 775, 776, 777, 755, 756, 757, 758, 759] (by decide +kernel) (by decide +kernel)) (goodIn_sub (fun _ h => List.mem_append_left _ (List.mem_append_left _ (List.mem_append_right _ h))) (by decide +kernel))) (goodIn_sub (fun _ h => List.mem_append_left _ (List.mem_append_right _ h)) (by decide +kernel))
set_option maxRecDepth 20000 in
theorem gL_law_L_run : GoodIn wsL_law (va_wsS RL 130 yL_run wsL_run) := goodIn_app (goodIn_of _ (by decide +kernel)) ggL_law_L_run
set_option maxRecDepth 20000 in
theorem ggL_law_X6_run : GoodIn wsL_law wsX6_run := goodIn_r _ [602, 159, 264, 161, 162, 5, 163, 164, 165, 166, 167, 603, 604, 605, 606, 200, 61, 59, 60, 392, 122, 123, 124, 62, 607, 265, 65, 54, 64, 608, 149, 150, 63, 68, 55, 609, 610, 611, 612, 313, 67, 274, 275, 276, 388, 389, 390, 391, 66, 393, 394, 395, 396, 613, 614, 615, 616, 312, 56, 722, 723, 724, 725, 726, 727, 728, 729, 730, 731, 732, 733, 734, 735, 736, 737, 738, 739, 740, 741, 742, 743, 744, 745, 746, 747] (by decide +kernel) (by decide +kernel)
set_option maxRecDepth 20000 in
theorem gL_law_X6_run : GoodIn wsL_law (wsV RL 132 RX6 yX6_run wsX6_run) := goodIn_app (goodIn_of _ (by decide +kernel)) ggL_law_X6_run
set_option maxRecDepth 20000 in
theorem ggL_law_X5_now : GoodIn wsL_law wsX5_now := goodIn_r _ [620, 24, 715, 716, 717, 718, 719, 720, 721] (by decide +kernel) (by decide +kernel)
set_option maxRecDepth 20000 in
theorem gL_law_X5_now : GoodIn wsL_law (wsV RL 133 RX5 yX5_now wsX5_now) := goodIn_app (goodIn_of _ (by decide +kernel)) ggL_law_X5_now
set_option maxRecDepth 20000 in
theorem ggL_law_X6_now : GoodIn wsL_law wsX6_now := goodIn_r _ [624, 159, 264, 722, 723, 724, 725, 726, 727, 728, 729, 730, 731, 732, 733, 734, 735, 736, 737, 738, 739, 740, 741, 742, 743, 744, 745, 746, 747] (by decide +kernel) (by decide +kernel)
set_option maxRecDepth 20000 in
theorem gL_law_X6_now : GoodIn wsL_law (wsV RL 136 RX6 yX6_now wsX6_now) := goodIn_app (goodIn_of _ (by decide +kernel)) ggL_law_X6_now
set_option maxRecDepth 20000 in
theorem ggL_law_L_satellite : GoodIn wsL_law wsL_satellite := goodIn_ca (goodIn_r _ [627, 204, 628, 629, 630, 2, 631, 218, 219, 632, 633, 634, 214, 215, 216, 217, 17, 220, 89, 90, 91, 15, 92, 93, 221, 222, 223, 224, 225, 226, 227, 228, 229, 230, 231, 232, 233, 234, 235, 236, 30, 635, 636, 637, 638, 639, 640, 24, 760, 761, 762, 763, 764, 765, 766, 767, 715, 716, 717, 718, 719, 720, 721, 748, 749, 750] (by decide +kernel) (by decide +kernel)) (goodIn_sub (fun _ h => List.mem_append_right _ h) (by decide +kernel))
set_option maxRecDepth 20000 in
theorem gL_law_L_satellite : GoodIn wsL_law (va_wsS RL 137 yL_satellite wsL_satellite) := goodIn_app (goodIn_of _ (by decide +kernel)) ggL_law_L_satellite
set_option maxRecDepth 20000 in
theorem ggL_law_X6_satellite : GoodIn wsL_law wsX6_satellite := goodIn_r _ [644, 159, 266, 267, 268, 5, 269, 200, 161, 162, 163, 645, 646, 647, 648, 61, 62, 63, 649, 650, 651, 652, 60, 59, 264, 164, 165, 166, 167, 722, 723, 724, 725, 726, 727, 728, 729, 730, 731, 732, 733, 734, 735, 736, 737, 738, 739, 740, 741, 742, 743, 744, 745, 746, 747] (by decide +kernel) (by decide +kernel)
set_option maxRecDepth 20000 in
theorem gL_law_X6_satellite : GoodIn wsL_law (wsV RL 139 RX6 yX6_satellite wsX6_satellite) := goodIn_app (goodIn_of _ (by decide +kernel)) ggL_law_X6_satellite
set_option maxRecDepth 20000 in
theorem ggL_law_L_antenna : GoodIn wsL_law wsL_antenna := goodIn_ca (goodIn_r _ [655, 204, 656, 657, 658, 2, 659, 218, 219, 24, 660, 237, 238, 239, 240, 16, 241, 89, 90, 91, 15, 92, 93, 221, 222, 223, 224, 225, 226, 227, 228, 229, 230, 231, 232, 233, 234, 235, 236, 30, 661, 662, 663, 664, 18, 298, 299, 586, 587, 588, 589, 301, 302, 303, 363, 364, 365, 366, 350, 367, 122, 123, 124, 368, 369, 370, 213, 371, 258, 255, 665, 666, 667, 668, 428, 429, 430, 431, 19, 432, 300, 304, 305, 306, 286, 307, 292, 293, 715, 716, 717, 718, 719, 720, 721, 755, 756, 757, 758, 759, 748, 749, 750, 768, 769, 770, 771, 772, 773, 774, 775, 776, 777] (by decide +kernel) (by decide +kernel)) (goodIn_sub (fun _ h => List.mem_append_right _ h) (by decide +kernel))
set_option maxRecDepth 20000 in
theorem gL_law_L_antenna : GoodIn wsL_law (va_wsS RL 140 yL_antenna wsL_antenna) := goodIn_app (goodIn_of _ (by decide +kernel)) ggL_law_L_antenna
set_option maxRecDepth 20000 in
theorem ggL_law_X6_antenna : GoodIn wsL_law wsX6_antenna := goodIn_r _ [672, 159, 270, 271, 272, 5, 273, 160, 161, 162, 163, 673, 674, 675, 676, 55, 677, 678, 679, 680, 265, 65, 609, 610, 611, 612, 313, 264, 67, 274, 275, 276, 388, 389, 390, 391, 66, 64, 392, 122, 123, 124, 393, 394, 395, 396, 681, 682, 683, 684, 613, 614, 615, 616, 312, 56, 164, 165, 166, 167, 722, 723, 724, 725, 726, 727, 728, 729, 730, 731, 732, 733, 734, 735, 736, 737, 738, 739, 740, 741, 742, 743, 744, 745, 746, 747] (by decide +kernel) (by decide +kernel)
set_option maxRecDepth 20000 in
theorem gL_law_X6_antenna : GoodIn wsL_law (wsV RL 142 RX6 yX6_antenna wsX6_antenna) := goodIn_app (goodIn_of _ (by decide +kernel)) ggL_law_X6_antenna
set_option maxRecDepth 20000 in
theorem ggL_law_X5_share : GoodIn wsL_law wsX5_share := goodIn_r _ [688, 17, 220, 634, 89, 90, 91, 15, 92, 93, 221, 222, 223, 224, 225, 226, 227, 228, 229, 230, 231, 232, 233, 234, 235, 236, 30, 689, 690, 691, 182, 692, 187, 188, 189, 715, 716, 717, 718, 719, 720, 721, 760, 761, 762, 763, 764, 765, 766, 767, 748, 749, 750] (by decide +kernel) (by decide +kernel)
set_option maxRecDepth 20000 in
theorem gL_law_X5_share : GoodIn wsL_law (wsV RL 143 RX5 yX5_share wsX5_share) := goodIn_app (goodIn_of _ (by decide +kernel)) ggL_law_X5_share
set_option maxRecDepth 20000 in
theorem ggL_law_X6_share : GoodIn wsL_law wsX6_share := goodIn_r _ [696, 159, 200, 63, 607, 722, 723, 724, 725, 726, 727, 728, 729, 730, 731, 732, 733, 734, 735, 736, 737, 738, 739, 740, 741, 742, 743, 744, 745, 746, 747] (by decide +kernel) (by decide +kernel)
set_option maxRecDepth 20000 in
theorem gL_law_X6_share : GoodIn wsL_law (wsV RL 147 RX6 yX6_share wsX6_share) := goodIn_app (goodIn_of _ (by decide +kernel)) ggL_law_X6_share
set_option maxRecDepth 20000 in
theorem ggL_law_X5_digest : GoodIn wsL_law wsX5_digest := goodIn_ca (goodIn_r _ [700, 701, 24, 25, 16, 17, 18, 702, 703, 2, 704, 705, 89, 90, 91, 15, 92, 93, 706, 657, 658, 659, 218, 219, 660, 237, 238, 239, 240, 241, 221, 222, 223, 224, 225, 226, 227, 228, 229, 230, 231, 232, 233, 234, 235, 236, 30, 661, 662, 663, 664, 298, 299, 586, 587, 588, 589, 301, 302, 303, 363, 364, 365, 366, 350, 367, 122, 123, 124, 368, 369, 370, 213, 371, 258, 255, 665, 666, 667, 668, 428, 429, 430, 431, 19, 432, 300, 304, 305, 306, 286, 307, 292, 293, 707, 629, 630, 631, 632, 633, 634, 214, 215, 216, 217, 220, 635, 636, 637, 638, 639, 640, 708, 347, 348, 349, 351, 352, 353, 354, 355, 356, 357, 358, 359, 360, 361, 256, 362, 259, 715, 716, 717, 718, 719, 720, 721, 748, 749, 750, 755, 756, 757, 758, 759, 768, 769, 770, 771, 772, 773, 774, 775, 776, 777, 760, 761, 762, 763, 764, 765, 766, 767] (by decide +kernel) (by decide +kernel)) (goodIn_sub (fun _ h => List.mem_append_right _ h) (by decide +kernel))
set_option maxRecDepth 20000 in
theorem gL_law_X5_digest : GoodIn wsL_law (wsV RL 148 RX5 yX5_digest wsX5_digest) := goodIn_app (goodIn_of _ (by decide +kernel)) ggL_law_X5_digest
set_option maxRecDepth 20000 in
theorem ggL_law_X6_digest : GoodIn wsL_law wsX6_digest := goodIn_r _ [712, 159, 713, 264, 714, 51, 160, 200, 265, 673, 674, 675, 5, 676, 55, 677, 678, 679, 680, 65, 609, 610, 611, 612, 313, 67, 274, 275, 276, 388, 389, 390, 391, 66, 64, 392, 122, 123, 124, 393, 394, 395, 396, 681, 682, 683, 684, 613, 614, 615, 616, 312, 56, 161, 162, 163, 645, 646, 647, 648, 61, 62, 63, 649, 650, 651, 652, 60, 59, 380, 381, 382, 383, 68, 384, 385, 386, 387, 58, 722, 723, 724, 725, 726, 727, 728, 729, 730, 731, 732, 733, 734, 735, 736, 737, 738, 739, 740, 741, 742, 743, 744, 745, 746, 747] (by decide +kernel) (by decide +kernel)
set_option maxRecDepth 20000 in
theorem gL_law_X6_digest : GoodIn wsL_law (wsV RL 152 RX6 yX6_digest wsX6_digest) := goodIn_app (goodIn_of _ (by decide +kernel)) ggL_law_X6_digest

set_option maxRecDepth 20000 in
theorem ggL_law_X3_init : GoodIn wsL_law wsX3_init := goodIn_r _ [10, 11, 12, 13, 14, 15, 16, 17, 18, 19, 20, 21, 22, 23, 24, 25, 26, 27, 28, 29, 30, 31, 32, 33, 34, 35, 36, 37, 38, 39, 40, 41, 42, 43, 44, 45, 46, 47, 48, 49, 50, 51, 52, 53, 54, 731, 732, 733, 696, 697, 698, 699, 700, 701, 702, 703, 704, 705, 706, 707, 708, 709, 710, 734, 735, 736, 737, 738, 739, 740, 741, 742] (by decide +kernel) (by decide +kernel)
set_option maxRecDepth 20000 in
theorem gL_law_X3_init : GoodIn wsL_law (wsX3_init) := ggL_law_X3_init
set_option maxRecDepth 20000 in
theorem ggL_law_X4_init : GoodIn wsL_law wsX4_init := goodIn_r _ [57, 58, 12, 13, 59, 29, 60, 61, 62, 63, 64, 65, 66, 67, 68, 69, 27, 70, 71, 72, 711, 712, 713, 714, 715, 716, 717, 718, 719, 720, 721, 722, 723, 724, 725, 726, 727, 728, 729, 730] (by decide +kernel) (by decide +kernel)
set_option maxRecDepth 20000 in
theorem gL_law_X4_init : GoodIn wsL_law (wsX4_init) := ggL_law_X4_init
set_option maxRecDepth 20000 in
theorem ggL_law_L_addKind : GoodIn wsL_law wsL_addKind := goodIn_ca (goodIn_ca (goodIn_r _ [76, 77, 78, 79, 80, 81, 2, 82, 83, 84, 17, 85, 86, 87, 88, 89, 90, 91, 16, 92, 93, 41, 94, 95, 96, 97, 98, 99, 40, 39, 100, 101, 102, 103, 696, 697, 698, 699, 700, 701, 702, 703, 704, 705, 706, 707, 708, 709, 710, 731, 732, 733] (by decide +kernel) (by decide +kernel)) (goodIn_sub (fun _ h => List.mem_append_left _ (List.mem_append_left _ (List.mem_append_right _ h))) (by decide +kernel))) (goodIn_sub (fun _ h => List.mem_append_left _ (List.mem_append_right _ h)) (by decide +kernel))
set_option maxRecDepth 20000 in
theorem gL_law_L_addKind : GoodIn wsL_law (va_wsS RL 74 yL_addKind wsL_addKind) := goodIn_app (goodIn_of _ (by decide +kernel)) ggL_law_L_addKind
set_option maxRecDepth 20000 in
theorem ggL_law_X4_addKind : GoodIn wsL_law wsX4_addKind := goodIn_r _ [107, 108, 59, 60, 69, 109, 110, 111, 5, 112, 113, 114, 115, 116, 117, 118, 119, 711, 712, 713, 714, 715, 716, 717, 718, 719, 720, 721, 722, 723, 724, 725, 726, 727, 728, 729, 730] (by decide +kernel) (by decide +kernel)
set_option maxRecDepth 20000 in
theorem gL_law_X4_addKind : GoodIn wsL_law (wsV RL 79 RX4 yX4_addKind wsX4_addKind) := goodIn_app (goodIn_of _ (by decide +kernel)) ggL_law_X4_addKind
set_option maxRecDepth 20000 in
theorem ggL_law_X4_thrown : GoodIn wsL_law wsX4_thrown := goodIn_r _ [123, 108, 711, 712, 713, 714, 715, 716, 717, 718, 719, 720, 721, 722, 723, 724, 725, 726, 727, 728, 729, 730] (by decide +kernel) (by decide +kernel)
set_option maxRecDepth 20000 in
theorem gL_law_X4_thrown : GoodIn wsL_law (wsV RL 80 RX4 yX4_thrown wsX4_thrown) := goodIn_app (goodIn_of _ (by decide +kernel)) ggL_law_X4_thrown
set_option maxRecDepth 20000 in
theorem ggL_law_X3_kindCount : GoodIn wsL_law wsX3_kindCount := goodIn_r _ [127, 17, 696, 697, 698, 699, 700, 701, 702, 703, 704, 705, 706, 707, 708, 709, 710, 731, 732, 733] (by decide +kernel) (by decide +kernel)
set_option maxRecDepth 20000 in
theorem gL_law_X3_kindCount : GoodIn wsL_law (wsV RL 83 RX3 yX3_kindCount wsX3_kindCount) := goodIn_app (goodIn_of _ (by decide +kernel)) ggL_law_X3_kindCount
set_option maxRecDepth 20000 in
theorem ggL_law_X4_kindCount : GoodIn wsL_law wsX4_kindCount := goodIn_r _ [131, 108, 59, 711, 712, 713, 714, 715, 716, 717, 718, 719, 720, 721, 722, 723, 724, 725, 726, 727, 728, 729, 730] (by decide +kernel) (by decide +kernel)
set_option maxRecDepth 20000 in
theorem gL_law_X4_kindCount : GoodIn wsL_law (wsV RL 86 RX4 yX4_kindCount wsX4_kindCount) := goodIn_app (goodIn_of _ (by decide +kernel)) ggL_law_X4_kindCount
set_option maxRecDepth 20000 in
theorem ggL_law_L_isBelow : GoodIn wsL_law wsL_isBelow := goodIn_ca (goodIn_r _ [134, 77, 135, 136, 137, 2, 138, 17, 85, 86, 87, 88, 89, 90, 91, 16, 92, 93, 41, 101, 102, 103, 40, 696, 697, 698, 699, 700, 701, 702, 703, 704, 705, 706, 707, 708, 709, 710, 731, 732, 733] (by decide +kernel) (by decide +kernel)) (goodIn_sub (fun _ h => List.mem_append_left _ (List.mem_append_right _ h)) (by decide +kernel))
set_option maxRecDepth 20000 in
theorem gL_law_L_isBelow : GoodIn wsL_law (va_wsS RL 87 yL_isBelow wsL_isBelow) := goodIn_app (goodIn_of _ (by decide +kernel)) ggL_law_L_isBelow
set_option maxRecDepth 20000 in
theorem ggL_law_X4_isBelow : GoodIn wsL_law wsX4_isBelow := goodIn_r _ [142, 108, 69, 109, 110, 111, 5, 112, 59, 113, 114, 115, 143, 144, 145, 711, 712, 713, 714, 715, 716, 717, 718, 719, 720, 721, 722, 723, 724, 725, 726, 727, 728, 729, 730] (by decide +kernel) (by decide +kernel)
set_option maxRecDepth 20000 in
theorem gL_law_X4_isBelow : GoodIn wsL_law (wsV RL 90 RX4 yX4_isBelow wsX4_isBelow) := goodIn_app (goodIn_of _ (by decide +kernel)) ggL_law_X4_isBelow
set_option maxRecDepth 20000 in
theorem ggL_law_L_common : GoodIn wsL_law wsL_common := goodIn_ca (goodIn_r _ [148, 77, 149, 150, 151, 2, 152, 17, 85, 86, 87, 88, 89, 90, 91, 16, 92, 93, 41, 153, 154, 155, 156, 157, 158, 159, 100, 101, 102, 103, 40, 696, 697, 698, 699, 700, 701, 702, 703, 704, 705, 706, 707, 708, 709, 710, 731, 732, 733] (by decide +kernel) (by decide +kernel)) (goodIn_sub (fun _ h => List.mem_append_left _ (List.mem_append_right _ h)) (by decide +kernel))
set_option maxRecDepth 20000 in
theorem gL_law_L_common : GoodIn wsL_law (va_wsS RL 91 yL_common wsL_common) := goodIn_app (goodIn_of _ (by decide +kernel)) ggL_law_L_common
set_option maxRecDepth 20000 in
theorem ggL_law_X4_common : GoodIn wsL_law wsX4_common := goodIn_r _ [163, 108, 109, 110, 111, 5, 112, 59, 113, 114, 115, 164, 165, 166, 167, 69, 143, 144, 145, 116, 117, 118, 119, 711, 712, 713, 714, 715, 716, 717, 718, 719, 720, 721, 722, 723, 724, 725, 726, 727, 728, 729, 730] (by decide +kernel) (by decide +kernel)
set_option maxRecDepth 20000 in
theorem gL_law_X4_common : GoodIn wsL_law (wsV RL 93 RX4 yX4_common wsX4_common) := goodIn_app (goodIn_of _ (by decide +kernel)) ggL_law_X4_common
set_option maxRecDepth 20000 in
theorem ggL_law_L_step : GoodIn wsL_law wsL_step := goodIn_ca (goodIn_ca (goodIn_r _ [170, 171, 78, 172, 173, 174, 2, 175, 21, 176, 177, 178, 179, 180, 181, 17, 182, 16, 183, 184, 41, 185, 186, 187, 188, 83, 84, 189, 20, 190, 191, 192, 193, 194, 195, 45, 46, 47, 696, 697, 698, 699, 700, 701, 702, 703, 704, 705, 706, 707, 708, 709, 710, 731, 732, 733, 734, 735, 736, 737] (by decide +kernel) (by decide +kernel)) (goodIn_sub (fun _ h => List.mem_append_right _ h) (by decide +kernel))) (goodIn_sub (fun _ h => List.mem_append_left _ (List.mem_append_left _ (List.mem_append_right _ h))) (by decide +kernel))
set_option maxRecDepth 20000 in
theorem gL_law_L_step : GoodIn wsL_law (va_wsS RL 94 yL_step wsL_step) := goodIn_app (goodIn_of _ (by decide +kernel)) ggL_law_L_step
set_option maxRecDepth 20000 in
theorem ggL_law_X4_step : GoodIn wsL_law wsX4_step := goodIn_r _ [199, 108, 200, 201, 202, 5, 203, 59, 204, 205, 206, 207, 208, 61, 62, 63, 116, 117, 118, 119, 711, 712, 713, 714, 715, 716, 717, 718, 719, 720, 721, 722, 723, 724, 725, 726, 727, 728, 729, 730] (by decide +kernel) (by decide +kernel)
set_option maxRecDepth 20000 in
theorem gL_law_X4_step : GoodIn wsL_law (wsV RL 96 RX4 yX4_step wsX4_step) := goodIn_app (goodIn_of _ (by decide +kernel)) ggL_law_X4_step
set_option maxRecDepth 20000 in
theorem ggL_law_L_jump : GoodIn wsL_law wsL_jump := goodIn_ca (goodIn_ca (goodIn_r _ [211, 171, 78, 212, 213, 214, 2, 215, 21, 216, 217, 218, 219, 180, 181, 185, 186, 187, 188, 83, 84, 189, 20, 190, 191, 192, 193, 194, 195, 45, 46, 47, 696, 697, 698, 699, 700, 701, 702, 703, 704, 705, 706, 707, 708, 709, 710, 734, 735, 736, 737] (by decide +kernel) (by decide +kernel)) (goodIn_sub (fun _ h => List.mem_append_right _ h) (by decide +kernel))) (goodIn_sub (fun _ h => List.mem_append_left _ (List.mem_append_left _ (List.mem_append_right _ h))) (by decide +kernel))
set_option maxRecDepth 20000 in
theorem gL_law_L_jump : GoodIn wsL_law (va_wsS RL 97 yL_jump wsL_jump) := goodIn_app (goodIn_of _ (by decide +kernel)) ggL_law_L_jump
set_option maxRecDepth 20000 in
theorem ggL_law_X4_jump : GoodIn wsL_law wsX4_jump := goodIn_r _ [223, 108, 224, 225, 5, 226, 113, 114, 115, 204, 205, 206, 207, 208, 61, 62, 63, 116, 117, 118, 119, 711, 712, 713, 714, 715, 716, 717, 718, 719, 720, 721, 722, 723, 724, 725, 726, 727, 728, 729, 730] (by decide +kernel) (by decide +kernel)
set_option maxRecDepth 20000 in
theorem gL_law_X4_jump : GoodIn wsL_law (wsV RL 99 RX4 yX4_jump wsX4_jump) := goodIn_app (goodIn_of _ (by decide +kernel)) ggL_law_X4_jump
set_option maxRecDepth 20000 in
theorem ggL_law_L_branch : GoodIn wsL_law wsL_branch := goodIn_ca (goodIn_ca (goodIn_r _ [229, 171, 78, 230, 231, 232, 2, 233, 21, 176, 177, 178, 179, 180, 181, 17, 182, 16, 183, 184, 41, 216, 217, 218, 219, 185, 186, 187, 188, 83, 84, 189, 20, 190, 191, 192, 193, 194, 195, 45, 46, 47, 696, 697, 698, 699, 700, 701, 702, 703, 704, 705, 706, 707, 708, 709, 710, 731, 732, 733, 734, 735, 736, 737] (by decide +kernel) (by decide +kernel)) (goodIn_sub (fun _ h => List.mem_append_right _ h) (by decide +kernel))) (goodIn_sub (fun _ h => List.mem_append_left _ (List.mem_append_left _ (List.mem_append_right _ h))) (by decide +kernel))
set_option maxRecDepth 20000 in
theorem gL_law_L_branch : GoodIn wsL_law (va_wsS RL 100 yL_branch wsL_branch) := goodIn_app (goodIn_of _ (by decide +kernel)) ggL_law_L_branch
set_option maxRecDepth 20000 in
theorem ggL_law_X4_branch : GoodIn wsL_law wsX4_branch := goodIn_r _ [237, 108, 200, 201, 202, 5, 203, 59, 224, 225, 226, 113, 114, 115, 204, 205, 206, 207, 208, 61, 62, 63, 116, 117, 118, 119, 711, 712, 713, 714, 715, 716, 717, 718, 719, 720, 721, 722, 723, 724, 725, 726, 727, 728, 729, 730] (by decide +kernel) (by decide +kernel)
set_option maxRecDepth 20000 in
theorem gL_law_X4_branch : GoodIn wsL_law (wsV RL 102 RX4 yX4_branch wsX4_branch) := goodIn_app (goodIn_of _ (by decide +kernel)) ggL_law_X4_branch
set_option maxRecDepth 20000 in
theorem ggL_law_L_end : GoodIn wsL_law wsL_end := goodIn_ca (goodIn_r _ [240, 78, 241, 242, 243, 2, 244, 21, 185, 186, 187, 188, 83, 84, 189, 20, 190, 191, 192, 193, 194, 195, 45, 46, 47, 696, 697, 698, 699, 700, 701, 702, 703, 704, 705, 706, 707, 708, 709, 710, 734, 735, 736, 737] (by decide +kernel) (by decide +kernel)) (goodIn_sub (fun _ h => List.mem_append_left _ (List.mem_append_left _ (List.mem_append_right _ h))) (by decide +kernel))
set_option maxRecDepth 20000 in
theorem gL_law_L_end : GoodIn wsL_law (va_wsS RL 103 yL_end wsL_end) := goodIn_app (goodIn_of _ (by decide +kernel)) ggL_law_L_end
set_option maxRecDepth 20000 in
theorem ggL_law_X4_end : GoodIn wsL_law wsX4_end := goodIn_r _ [248, 108, 204, 205, 206, 5, 207, 208, 61, 62, 63, 116, 117, 118, 119, 711, 712, 713, 714, 715, 716, 717, 718, 719, 720, 721, 722, 723, 724, 725, 726, 727, 728, 729, 730] (by decide +kernel) (by decide +kernel)
set_option maxRecDepth 20000 in
theorem gL_law_X4_end : GoodIn wsL_law (wsV RL 106 RX4 yX4_end wsX4_end) := goodIn_app (goodIn_of _ (by decide +kernel)) ggL_law_X4_end
set_option maxRecDepth 20000 in
theorem ggL_law_L_raise : GoodIn wsL_law wsL_raise := goodIn_ca (goodIn_ca (goodIn_r _ [251, 77, 78, 252, 253, 254, 2, 255, 21, 85, 86, 87, 88, 89, 90, 17, 91, 16, 92, 93, 41, 185, 186, 187, 188, 83, 84, 189, 20, 190, 191, 192, 193, 194, 195, 45, 46, 47, 696, 697, 698, 699, 700, 701, 702, 703, 704, 705, 706, 707, 708, 709, 710, 731, 732, 733, 734, 735, 736, 737] (by decide +kernel) (by decide +kernel)) (goodIn_sub (fun _ h => List.mem_append_left _ (List.mem_append_right _ h)) (by decide +kernel))) (goodIn_sub (fun _ h => List.mem_append_left _ (List.mem_append_left _ (List.mem_append_right _ h))) (by decide +kernel))
set_option maxRecDepth 20000 in
theorem gL_law_L_raise : GoodIn wsL_law (va_wsS RL 107 yL_raise wsL_raise) := goodIn_app (goodIn_of _ (by decide +kernel)) ggL_law_L_raise
set_option maxRecDepth 20000 in
theorem ggL_law_X4_raise : GoodIn wsL_law wsX4_raise := goodIn_r _ [259, 108, 109, 110, 111, 5, 112, 59, 113, 114, 115, 204, 205, 206, 207, 208, 61, 62, 63, 116, 117, 118, 119, 711, 712, 713, 714, 715, 716, 717, 718, 719, 720, 721, 722, 723, 724, 725, 726, 727, 728, 729, 730] (by decide +kernel) (by decide +kernel)
set_option maxRecDepth 20000 in
theorem gL_law_X4_raise : GoodIn wsL_law (wsV RL 109 RX4 yX4_raise wsX4_raise) := goodIn_app (goodIn_of _ (by decide +kernel)) ggL_law_X4_raise
set_option maxRecDepth 20000 in
theorem ggL_law_X3_size : GoodIn wsL_law wsX3_size := goodIn_r _ [263, 21, 696, 697, 698, 699, 700, 701, 702, 703, 704, 705, 706, 707, 708, 709, 710, 734, 735, 736, 737] (by decide +kernel) (by decide +kernel)
set_option maxRecDepth 20000 in
theorem gL_law_X3_size : GoodIn wsL_law (wsV RL 110 RX3 yX3_size wsX3_size) := goodIn_app (goodIn_of _ (by decide +kernel)) ggL_law_X3_size
set_option maxRecDepth 20000 in
theorem ggL_law_X4_size : GoodIn wsL_law wsX4_size := goodIn_r _ [267, 108, 208, 711, 712, 713, 714, 715, 716, 717, 718, 719, 720, 721, 722, 723, 724, 725, 726, 727, 728, 729, 730] (by decide +kernel) (by decide +kernel)
set_option maxRecDepth 20000 in
theorem gL_law_X4_size : GoodIn wsL_law (wsV RL 113 RX4 yX4_size wsX4_size) := goodIn_app (goodIn_of _ (by decide +kernel)) ggL_law_X4_size
set_option maxRecDepth 20000 in
theorem ggL_law_L_instruction : GoodIn wsL_law wsL_instruction := goodIn_ca (goodIn_r _ [270, 77, 271, 272, 273, 2, 274, 89, 90, 21, 275, 276, 277, 278, 279, 20, 280, 281, 192, 696, 697, 698, 699, 700, 701, 702, 703, 704, 705, 706, 707, 708, 709, 710, 734, 735, 736, 737] (by decide +kernel) (by decide +kernel)) (goodIn_sub (fun _ h => List.mem_append_left _ (List.mem_append_right _ h)) (by decide +kernel))
set_option maxRecDepth 20000 in
theorem gL_law_L_instruction : GoodIn wsL_law (va_wsS RL 114 yL_instruction wsL_instruction) := goodIn_app (goodIn_of _ (by decide +kernel)) ggL_law_L_instruction
set_option maxRecDepth 20000 in
theorem ggL_law_X4_instruction : GoodIn wsL_law wsX4_instruction := goodIn_r _ [285, 108, 61, 62, 63, 286, 287, 288, 5, 289, 208, 113, 114, 115, 116, 117, 118, 119, 711, 712, 713, 714, 715, 716, 717, 718, 719, 720, 721, 722, 723, 724, 725, 726, 727, 728, 729, 730] (by decide +kernel) (by decide +kernel)
set_option maxRecDepth 20000 in
theorem gL_law_X4_instruction : GoodIn wsL_law (wsV RL 116 RX4 yX4_instruction wsX4_instruction) := goodIn_app (goodIn_of _ (by decide +kernel)) ggL_law_X4_instruction
set_option maxRecDepth 20000 in
theorem ggL_law_L_addEntry : GoodIn wsL_law wsL_addEntry := goodIn_ca (goodIn_ca (goodIn_ca (goodIn_r _ [292, 77, 171, 78, 293, 294, 295, 2, 296, 180, 181, 83, 84, 25, 85, 86, 87, 88, 89, 90, 17, 91, 16, 92, 93, 41, 216, 217, 218, 219, 297, 24, 298, 299, 300, 301, 302, 303, 51, 52, 53, 54, 696, 697, 698, 699, 700, 701, 702, 703, 704, 705, 706, 707, 708, 709, 710, 731, 732, 733, 738, 739, 740, 741, 742] (by decide +kernel) (by decide +kernel)) (goodIn_sub (fun _ h => List.mem_append_right _ h) (by decide +kernel))) (goodIn_sub (fun _ h => List.mem_append_left _ (List.mem_append_left _ (List.mem_append_right _ h))) (by decide +kernel))) (goodIn_sub (fun _ h => List.mem_append_left _ (List.mem_append_right _ h)) (by decide +kernel))
set_option maxRecDepth 20000 in
theorem gL_law_L_addEntry : GoodIn wsL_law (va_wsS RL 117 yL_addEntry wsL_addEntry) := goodIn_app (goodIn_of _ (by decide +kernel)) ggL_law_L_addEntry
set_option maxRecDepth 20000 in
theorem ggL_law_X4_addEntry : GoodIn wsL_law wsX4_addEntry := goodIn_r _ [307, 108, 308, 109, 110, 111, 5, 112, 59, 113, 114, 115, 116, 117, 118, 119, 224, 225, 226, 309, 310, 311, 312, 64, 65, 66, 67, 711, 712, 713, 714, 715, 716, 717, 718, 719, 720, 721, 722, 723, 724, 725, 726, 727, 728, 729, 730] (by decide +kernel) (by decide +kernel)
set_option maxRecDepth 20000 in
theorem gL_law_X4_addEntry : GoodIn wsL_law (wsV RL 120 RX4 yX4_addEntry wsX4_addEntry) := goodIn_app (goodIn_of _ (by decide +kernel)) ggL_law_X4_addEntry
set_option maxRecDepth 20000 in
theorem ggL_law_L_removeEntry : GoodIn wsL_law wsL_removeEntry := goodIn_ca (goodIn_r _ [315, 77, 316, 317, 318, 2, 319, 25, 320, 321, 322, 323, 89, 90, 324, 24, 325, 326, 300, 327, 328, 329, 330, 331, 332, 333, 51, 52, 53, 54, 696, 697, 698, 699, 700, 701, 702, 703, 704, 705, 706, 707, 708, 709, 710, 738, 739, 740, 741, 742] (by decide +kernel) (by decide +kernel)) (goodIn_sub (fun _ h => List.mem_append_left _ (List.mem_append_right _ h)) (by decide +kernel))
set_option maxRecDepth 20000 in
theorem gL_law_L_removeEntry : GoodIn wsL_law (va_wsS RL 121 yL_removeEntry wsL_removeEntry) := goodIn_app (goodIn_of _ (by decide +kernel)) ggL_law_L_removeEntry
set_option maxRecDepth 20000 in
theorem ggL_law_X4_removeEntry : GoodIn wsL_law wsX4_removeEntry := goodIn_r _ [337, 108, 308, 338, 339, 340, 5, 341, 113, 114, 115, 116, 117, 118, 119, 342, 343, 344, 345, 64, 65, 66, 67, 309, 310, 311, 312, 711, 712, 713, 714, 715, 716, 717, 718, 719, 720, 721, 722, 723, 724, 725, 726, 727, 728, 729, 730] (by decide +kernel) (by decide +kernel)
set_option maxRecDepth 20000 in
theorem gL_law_X4_removeEntry : GoodIn wsL_law (wsV RL 123 RX4 yX4_removeEntry wsX4_removeEntry) := goodIn_app (goodIn_of _ (by decide +kernel)) ggL_law_X4_removeEntry
set_option maxRecDepth 20000 in
theorem ggL_law_X3_entryCount : GoodIn wsL_law wsX3_entryCount := goodIn_r _ [349, 25, 696, 697, 698, 699, 700, 701, 702, 703, 704, 705, 706, 707, 708, 709, 710, 738, 739, 740, 741, 742] (by decide +kernel) (by decide +kernel)
set_option maxRecDepth 20000 in
theorem gL_law_X3_entryCount : GoodIn wsL_law (wsV RL 124 RX3 yX3_entryCount wsX3_entryCount) := goodIn_app (goodIn_of _ (by decide +kernel)) ggL_law_X3_entryCount
set_option maxRecDepth 20000 in
theorem ggL_law_X4_entryCount : GoodIn wsL_law wsX4_entryCount := goodIn_r _ [353, 108, 308, 711, 712, 713, 714, 715, 716, 717, 718, 719, 720, 721, 722, 723, 724, 725, 726, 727, 728, 729, 730] (by decide +kernel) (by decide +kernel)
set_option maxRecDepth 20000 in
theorem gL_law_X4_entryCount : GoodIn wsL_law (wsV RL 127 RX4 yX4_entryCount wsX4_entryCount) := goodIn_app (goodIn_of _ (by decide +kernel)) ggL_law_X4_entryCount
set_option maxRecDepth 20000 in
theorem ggL_law_L_entry : GoodIn wsL_law wsL_entry := goodIn_ca (goodIn_r _ [356, 77, 357, 358, 359, 2, 360, 89, 90, 25, 320, 321, 322, 323, 324, 24, 325, 326, 300, 696, 697, 698, 699, 700, 701, 702, 703, 704, 705, 706, 707, 708, 709, 710, 738, 739, 740, 741, 742] (by decide +kernel) (by decide +kernel)) (goodIn_sub (fun _ h => List.mem_append_left _ (List.mem_append_right _ h)) (by decide +kernel))
set_option maxRecDepth 20000 in
theorem gL_law_L_entry : GoodIn wsL_law (va_wsS RL 128 yL_entry wsL_entry) := goodIn_app (goodIn_of _ (by decide +kernel)) ggL_law_L_entry
set_option maxRecDepth 20000 in
theorem ggL_law_X4_entry : GoodIn wsL_law wsX4_entry := goodIn_r _ [364, 108, 64, 65, 66, 67, 338, 339, 340, 5, 341, 308, 113, 114, 115, 116, 117, 118, 119, 711, 712, 713, 714, 715, 716, 717, 718, 719, 720, 721, 722, 723, 724, 725, 726, 727, 728, 729, 730] (by decide +kernel) (by decide +kernel)
set_option maxRecDepth 20000 in
theorem gL_law_X4_entry : GoodIn wsL_law (wsV RL 130 RX4 yX4_entry wsX4_entry) := goodIn_app (goodIn_of _ (by decide +kernel)) ggL_law_X4_entry
set_option maxRecDepth 20000 in
theorem ggL_law_L_taker : GoodIn wsL_law wsL_taker := goodIn_ca (goodIn_r _ [367, 77, 368, 369, 370, 2, 371, 25, 17, 275, 276, 277, 278, 89, 90, 21, 279, 20, 280, 281, 192, 85, 86, 87, 88, 91, 16, 92, 93, 41, 372, 24, 373, 374, 300, 51, 52, 53, 696, 697, 698, 699, 700, 701, 702, 703, 704, 705, 706, 707, 708, 709, 710, 734, 735, 736, 737, 731, 732, 733, 738, 739, 740, 741, 742] (by decide +kernel) (by decide +kernel)) (goodIn_sub (fun _ h => List.mem_append_left _ (List.mem_append_right _ h)) (by decide +kernel))
set_option maxRecDepth 20000 in
theorem gL_law_L_taker : GoodIn wsL_law (va_wsS RL 131 yL_taker wsL_taker) := goodIn_app (goodIn_of _ (by decide +kernel)) ggL_law_L_taker
set_option maxRecDepth 20000 in
theorem ggL_law_X4_taker : GoodIn wsL_law wsX4_taker := goodIn_r _ [378, 108, 286, 287, 288, 5, 289, 208, 113, 114, 115, 109, 110, 111, 112, 59, 379, 380, 381, 382, 308, 64, 65, 69, 66, 143, 144, 145, 116, 117, 118, 119, 711, 712, 713, 714, 715, 716, 717, 718, 719, 720, 721, 722, 723, 724, 725, 726, 727, 728, 729, 730] (by decide +kernel) (by decide +kernel)
set_option maxRecDepth 20000 in
theorem gL_law_X4_taker : GoodIn wsL_law (wsV RL 133 RX4 yX4_taker wsX4_taker) := goodIn_app (goodIn_of _ (by decide +kernel)) ggL_law_X4_taker
set_option maxRecDepth 20000 in
theorem ggL_law_L_isReached : GoodIn wsL_law wsL_isReached := goodIn_ca (goodIn_r _ [385, 77, 386, 387, 388, 2, 389, 28, 275, 276, 277, 278, 89, 90, 21, 279, 20, 280, 281, 192, 390, 391, 392, 393, 394, 30, 395, 396, 397, 398, 399, 400, 401, 402, 17, 25, 403, 404, 405, 46, 406, 24, 407, 408, 54, 409, 372, 373, 374, 300, 51, 52, 53, 696, 697, 698, 699, 700, 701, 702, 703, 704, 705, 706, 707, 708, 709, 710, 734, 735, 736, 737, 731, 732, 733, 738, 739, 740, 741, 742] (by decide +kernel) (by decide +kernel)) (goodIn_sub (fun _ h => List.mem_append_left _ (List.mem_append_right _ h)) (by decide +kernel))
set_option maxRecDepth 20000 in
theorem gL_law_L_isReached : GoodIn wsL_law (va_wsS RL 134 yL_isReached wsL_isReached) := goodIn_app (goodIn_of _ (by decide +kernel)) ggL_law_L_isReached
set_option maxRecDepth 20000 in
theorem ggL_law_X4_isReached : GoodIn wsL_law wsX4_isReached := goodIn_r _ [413, 108, 70, 286, 287, 288, 5, 289, 208, 113, 114, 115, 414, 415, 416, 417, 61, 63, 59, 62, 418, 419, 420, 421, 143, 144, 145, 422, 423, 424, 425, 67, 379, 380, 381, 382, 308, 64, 65, 69, 66, 711, 712, 713, 714, 715, 716, 717, 718, 719, 720, 721, 722, 723, 724, 725, 726, 727, 728, 729, 730] (by decide +kernel) (by decide +kernel)
set_option maxRecDepth 20000 in
theorem gL_law_X4_isReached : GoodIn wsL_law (wsV RL 136 RX4 yX4_isReached wsX4_isReached) := goodIn_app (goodIn_of _ (by decide +kernel)) ggL_law_X4_isReached
set_option maxRecDepth 20000 in
theorem ggL_law_L_isUsed : GoodIn wsL_law wsL_isUsed := goodIn_ca (goodIn_r _ [428, 77, 429, 430, 431, 2, 432, 320, 321, 322, 323, 89, 90, 25, 324, 24, 325, 326, 300, 433, 434, 435, 436, 32, 21, 17, 390, 391, 392, 393, 28, 394, 30, 395, 396, 397, 398, 279, 20, 280, 281, 192, 399, 400, 401, 402, 403, 404, 405, 46, 406, 407, 408, 54, 409, 372, 373, 374, 51, 52, 53, 437, 438, 439, 440, 441, 442, 443, 444, 31, 445, 446, 447, 448, 696, 697, 698, 699, 700, 701, 702, 703, 704, 705, 706, 707, 708, 709, 710, 738, 739, 740, 741, 742, 734, 735, 736, 737, 731, 732, 733] (by decide +kernel) (by decide +kernel)) (goodIn_sub (fun _ h => List.mem_append_left _ (List.mem_append_right _ h)) (by decide +kernel))
set_option maxRecDepth 20000 in
theorem gL_law_L_isUsed : GoodIn wsL_law (va_wsS RL 137 yL_isUsed wsL_isUsed) := goodIn_app (goodIn_of _ (by decide +kernel)) ggL_law_L_isUsed
set_option maxRecDepth 20000 in
theorem ggL_law_X4_isUsed : GoodIn wsL_law wsX4_isUsed := goodIn_r _ [452, 108, 338, 339, 340, 5, 341, 308, 113, 114, 115, 414, 415, 416, 417, 70, 208, 61, 63, 59, 62, 418, 419, 420, 421, 286, 287, 288, 289, 143, 144, 145, 422, 423, 424, 425, 67, 379, 380, 381, 382, 64, 65, 69, 66, 453, 454, 455, 456, 457, 458, 459, 460, 711, 712, 713, 714, 715, 716, 717, 718, 719, 720, 721, 722, 723, 724, 725, 726, 727, 728, 729, 730] (by decide +kernel) (by decide +kernel)
set_option maxRecDepth 20000 in
theorem gL_law_X4_isUsed : GoodIn wsL_law (wsV RL 139 RX4 yX4_isUsed wsX4_isUsed) := goodIn_app (goodIn_of _ (by decide +kernel)) ggL_law_X4_isUsed
set_option maxRecDepth 20000 in
theorem ggL_law_X3_leaving : GoodIn wsL_law wsX3_leaving := goodIn_r _ [464, 21, 17, 25, 390, 391, 392, 2, 393, 28, 394, 30, 395, 396, 397, 398, 279, 20, 280, 281, 192, 399, 400, 401, 402, 403, 404, 405, 46, 406, 24, 407, 408, 54, 409, 372, 373, 374, 300, 51, 52, 53, 437, 438, 439, 440, 696, 697, 698, 699, 700, 701, 702, 703, 704, 705, 706, 707, 708, 709, 710, 734, 735, 736, 737, 731, 732, 733, 738, 739, 740, 741, 742] (by decide +kernel) (by decide +kernel)
set_option maxRecDepth 20000 in
theorem gL_law_X3_leaving : GoodIn wsL_law (wsV RL 140 RX3 yX3_leaving wsX3_leaving) := goodIn_app (goodIn_of _ (by decide +kernel)) ggL_law_X3_leaving
set_option maxRecDepth 20000 in
theorem ggL_law_X4_leaving : GoodIn wsL_law wsX4_leaving := goodIn_r _ [468, 108, 208, 59, 70, 62, 414, 415, 416, 5, 417, 61, 63, 418, 419, 420, 421, 286, 287, 288, 289, 113, 114, 115, 143, 144, 145, 422, 423, 424, 425, 67, 379, 380, 381, 382, 308, 64, 65, 69, 66, 711, 712, 713, 714, 715, 716, 717, 718, 719, 720, 721, 722, 723, 724, 725, 726, 727, 728, 729, 730] (by decide +kernel) (by decide +kernel)
set_option maxRecDepth 20000 in
theorem gL_law_X4_leaving : GoodIn wsL_law (wsV RL 143 RX4 yX4_leaving wsX4_leaving) := goodIn_app (goodIn_of _ (by decide +kernel)) ggL_law_X4_leaving
set_option maxRecDepth 20000 in
theorem ggL_law_X3_share : GoodIn wsL_law wsX3_share := goodIn_r _ [472, 21, 17, 25, 390, 391, 392, 2, 393, 28, 394, 30, 395, 396, 397, 398, 279, 20, 280, 281, 192, 399, 400, 401, 402, 403, 404, 405, 46, 406, 24, 407, 408, 54, 409, 372, 373, 374, 300, 51, 52, 53, 437, 438, 439, 440, 696, 697, 698, 699, 700, 701, 702, 703, 704, 705, 706, 707, 708, 709, 710, 734, 735, 736, 737, 731, 732, 733, 738, 739, 740, 741, 742] (by decide +kernel) (by decide +kernel)
set_option maxRecDepth 20000 in
theorem gL_law_X3_share : GoodIn wsL_law (wsV RL 144 RX3 yX3_share wsX3_share) := goodIn_app (goodIn_of _ (by decide +kernel)) ggL_law_X3_share
set_option maxRecDepth 20000 in
theorem ggL_law_X4_share : GoodIn wsL_law wsX4_share := goodIn_r _ [476, 108, 208, 59, 70, 62, 414, 415, 416, 5, 417, 61, 63, 418, 419, 420, 421, 286, 287, 288, 289, 113, 114, 115, 143, 144, 145, 422, 423, 424, 425, 67, 379, 380, 381, 382, 308, 64, 65, 69, 66, 711, 712, 713, 714, 715, 716, 717, 718, 719, 720, 721, 722, 723, 724, 725, 726, 727, 728, 729, 730] (by decide +kernel) (by decide +kernel)
set_option maxRecDepth 20000 in
theorem gL_law_X4_share : GoodIn wsL_law (wsV RL 148 RX4 yX4_share wsX4_share) := goodIn_app (goodIn_of _ (by decide +kernel)) ggL_law_X4_share
set_option maxRecDepth 20000 in
theorem ggL_law_X3_parts : GoodIn wsL_law wsX3_parts := goodIn_r _ [480, 21, 481, 482, 483, 2, 484, 17, 25, 406, 24, 407, 408, 54, 409, 372, 373, 374, 300, 51, 52, 53, 696, 697, 698, 699, 700, 701, 702, 703, 704, 705, 706, 707, 708, 709, 710, 734, 735, 736, 737, 731, 732, 733, 738, 739, 740, 741, 742] (by decide +kernel) (by decide +kernel)
set_option maxRecDepth 20000 in
theorem gL_law_X3_parts : GoodIn wsL_law (wsV RL 149 RX3 yX3_parts wsX3_parts) := goodIn_app (goodIn_of _ (by decide +kernel)) ggL_law_X3_parts
set_option maxRecDepth 20000 in
theorem ggL_law_X4_parts : GoodIn wsL_law wsX4_parts := goodIn_r _ [488, 108, 208, 59, 422, 423, 424, 5, 425, 67, 379, 380, 381, 382, 308, 64, 65, 69, 66, 143, 144, 145, 711, 712, 713, 714, 715, 716, 717, 718, 719, 720, 721, 722, 723, 724, 725, 726, 727, 728, 729, 730] (by decide +kernel) (by decide +kernel)
set_option maxRecDepth 20000 in
theorem gL_law_X4_parts : GoodIn wsL_law (wsV RL 152 RX4 yX4_parts wsX4_parts) := goodIn_app (goodIn_of _ (by decide +kernel)) ggL_law_X4_parts
set_option maxRecDepth 20000 in
theorem ggL_law_X3_drop : GoodIn wsL_law wsX3_drop := goodIn_r _ [492, 25, 433, 434, 435, 2, 436, 32, 21, 17, 390, 391, 392, 393, 28, 394, 30, 395, 396, 397, 398, 279, 20, 280, 281, 192, 399, 400, 401, 402, 403, 404, 405, 46, 406, 24, 407, 408, 54, 409, 372, 373, 374, 300, 51, 52, 53, 437, 438, 439, 440, 441, 442, 443, 444, 31, 445, 446, 447, 448, 327, 328, 329, 330, 331, 332, 333, 696, 697, 698, 699, 700, 701, 702, 703, 704, 705, 706, 707, 708, 709, 710, 738, 739, 740, 741, 742, 734, 735, 736, 737, 731, 732, 733] (by decide +kernel) (by decide +kernel)
set_option maxRecDepth 20000 in
theorem gL_law_X3_drop : GoodIn wsL_law (wsV RL 153 RX3 yX3_drop wsX3_drop) := goodIn_app (goodIn_of _ (by decide +kernel)) ggL_law_X3_drop
set_option maxRecDepth 20000 in
theorem ggL_law_X4_drop : GoodIn wsL_law wsX4_drop := goodIn_r _ [496, 108, 497, 498, 499, 5, 500, 27, 308, 414, 415, 416, 417, 70, 208, 61, 63, 59, 62, 418, 419, 420, 421, 286, 287, 288, 289, 113, 114, 115, 143, 144, 145, 422, 423, 424, 425, 67, 379, 380, 381, 382, 64, 65, 69, 66, 453, 454, 455, 456, 457, 458, 459, 460, 342, 343, 344, 345, 309, 310, 311, 312, 711, 712, 713, 714, 715, 716, 717, 718, 719, 720, 721, 722, 723, 724, 725, 726, 727, 728, 729, 730] (by decide +kernel) (by decide +kernel)
set_option maxRecDepth 20000 in
theorem gL_law_X4_drop : GoodIn wsL_law (wsV RL 156 RX4 yX4_drop wsX4_drop) := goodIn_app (goodIn_of _ (by decide +kernel)) ggL_law_X4_drop
set_option maxRecDepth 20000 in
theorem ggL_law_X3_shrink : GoodIn wsL_law wsX3_shrink := goodIn_r _ [504, 25, 31, 32, 433, 434, 435, 2, 436, 21, 17, 390, 391, 392, 393, 28, 394, 30, 395, 396, 397, 398, 279, 20, 280, 281, 192, 399, 400, 401, 402, 403, 404, 405, 46, 406, 24, 407, 408, 54, 409, 372, 373, 374, 300, 51, 52, 53, 437, 438, 439, 440, 441, 442, 443, 444, 445, 446, 447, 448, 505, 506, 507, 508, 696, 697, 698, 699, 700, 701, 702, 703, 704, 705, 706, 707, 708, 709, 710, 738, 739, 740, 741, 742, 734, 735, 736, 737, 731, 732, 733] (by decide +kernel) (by decide +kernel)
set_option maxRecDepth 20000 in
theorem gL_law_X3_shrink : GoodIn wsL_law (wsV RL 157 RX3 yX3_shrink wsX3_shrink) := goodIn_app (goodIn_of _ (by decide +kernel)) ggL_law_X3_shrink
set_option maxRecDepth 20000 in
theorem ggL_law_X4_shrink : GoodIn wsL_law wsX4_shrink := goodIn_r _ [512, 108, 513, 514, 515, 5, 516, 29, 308, 208, 64, 65, 414, 415, 416, 417, 70, 61, 63, 59, 62, 418, 419, 420, 421, 286, 287, 288, 289, 113, 114, 115, 143, 144, 145, 422, 423, 424, 425, 67, 379, 380, 381, 382, 69, 66, 457, 458, 459, 460, 711, 712, 713, 714, 715, 716, 717, 718, 719, 720, 721, 722, 723, 724, 725, 726, 727, 728, 729, 730] (by decide +kernel) (by decide +kernel)
set_option maxRecDepth 20000 in
theorem gL_law_X4_shrink : GoodIn wsL_law (wsV RL 160 RX4 yX4_shrink wsX4_shrink) := goodIn_app (goodIn_of _ (by decide +kernel)) ggL_law_X4_shrink
set_option maxRecDepth 20000 in
theorem ggL_law_X3_join : GoodIn wsL_law wsX3_join := goodIn_r _ [520, 390, 391, 392, 2, 393, 28, 394, 30, 395, 396, 397, 398, 21, 279, 20, 280, 281, 192, 399, 400, 401, 402, 17, 25, 403, 404, 405, 46, 406, 24, 407, 408, 54, 409, 372, 373, 374, 300, 51, 52, 53, 521, 522, 523, 524, 33, 525, 526, 527, 528, 529, 530, 531, 532, 26, 533, 157, 158, 159, 534, 535, 536, 537, 538, 539, 330, 331, 332, 333, 153, 16, 154, 155, 156, 100, 101, 102, 103, 40, 327, 328, 329, 540, 541, 542, 543, 437, 438, 439, 440, 696, 697, 698, 699, 700, 701, 702, 703, 704, 705, 706, 707, 708, 709, 710, 734, 735, 736, 737, 731, 732, 733, 738, 739, 740, 741, 742] (by decide +kernel) (by decide +kernel)
set_option maxRecDepth 20000 in
theorem gL_law_X3_join : GoodIn wsL_law (wsV RL 161 RX3 yX3_join wsX3_join) := goodIn_app (goodIn_of _ (by decide +kernel)) ggL_law_X3_join
set_option maxRecDepth 20000 in
theorem ggL_law_X4_join : GoodIn wsL_law wsX4_join := goodIn_r _ [547, 108, 548, 549, 550, 5, 551, 414, 415, 416, 417, 70, 208, 61, 63, 59, 62, 418, 419, 420, 421, 286, 287, 288, 289, 113, 114, 115, 143, 144, 145, 422, 423, 424, 425, 67, 379, 380, 381, 382, 308, 64, 65, 69, 66, 552, 553, 554, 555, 71, 556, 557, 558, 559, 560, 561, 562, 563, 72, 564, 157, 158, 159, 565, 535, 536, 164, 165, 166, 167, 309, 310, 311, 312, 342, 343, 344, 345, 566, 567, 568, 569, 711, 712, 713, 714, 715, 716, 717, 718, 719, 720, 721, 722, 723, 724, 725, 726, 727, 728, 729, 730] (by decide +kernel) (by decide +kernel)
set_option maxRecDepth 20000 in
theorem gL_law_X4_join : GoodIn wsL_law (wsV RL 164 RX4 yX4_join wsX4_join) := goodIn_app (goodIn_of _ (by decide +kernel)) ggL_law_X4_join
set_option maxRecDepth 20000 in
theorem ggL_law_X3_improve : GoodIn wsL_law wsX3_improve := goodIn_r _ [573, 574, 490, 491, 2, 492, 25, 433, 434, 435, 436, 32, 21, 17, 390, 391, 392, 393, 28, 394, 30, 395, 396, 397, 398, 279, 20, 280, 281, 192, 399, 400, 401, 402, 403, 404, 405, 46, 406, 24, 407, 408, 54, 409, 372, 373, 374, 300, 51, 52, 53, 437, 438, 439, 440, 441, 442, 443, 444, 31, 445, 446, 447, 448, 327, 328, 329, 330, 331, 332, 333, 575, 502, 503, 504, 505, 506, 507, 508, 576, 518, 519, 520, 521, 522, 523, 524, 33, 525, 526, 527, 528, 529, 530, 531, 532, 26, 533, 157, 158, 159, 534, 535, 536, 537, 538, 539, 153, 16, 154, 155, 156, 100, 101, 102, 103, 40, 540, 541, 542, 543, 696, 697, 698, 699, 700, 701, 702, 703, 704, 705, 706, 707, 708, 709, 710, 738, 739, 740, 741, 742, 734, 735, 736, 737, 731, 732, 733] (by decide +kernel) (by decide +kernel)
set_option maxRecDepth 20000 in
theorem gL_law_X3_improve : GoodIn wsL_law (wsV RL 165 RX3 yX3_improve wsX3_improve) := goodIn_app (goodIn_of _ (by decide +kernel)) ggL_law_X3_improve
set_option maxRecDepth 20000 in
theorem ggL_law_X4_improve : GoodIn wsL_law wsX4_improve := goodIn_r _ [580, 108, 497, 498, 499, 5, 500, 27, 308, 414, 415, 416, 417, 70, 208, 61, 63, 59, 62, 418, 419, 420, 421, 286, 287, 288, 289, 113, 114, 115, 143, 144, 145, 422, 423, 424, 425, 67, 379, 380, 381, 382, 64, 65, 69, 66, 453, 454, 455, 456, 457, 458, 459, 460, 342, 343, 344, 345, 309, 310, 311, 312, 513, 514, 515, 516, 29, 548, 549, 550, 551, 552, 553, 554, 555, 71, 556, 557, 558, 559, 560, 561, 562, 563, 72, 564, 157, 158, 159, 565, 535, 536, 164, 165, 166, 167, 566, 567, 568, 569, 711, 712, 713, 714, 715, 716, 717, 718, 719, 720, 721, 722, 723, 724, 725, 726, 727, 728, 729, 730] (by decide +kernel) (by decide +kernel)
set_option maxRecDepth 20000 in
theorem gL_law_X4_improve : GoodIn wsL_law (wsV RL 168 RX4 yX4_improve wsX4_improve) := goodIn_app (goodIn_of _ (by decide +kernel)) ggL_law_X4_improve
set_option maxRecDepth 20000 in
theorem ggL_law_X3_sweep : GoodIn wsL_law wsX3_sweep := goodIn_r _ [584, 21, 390, 391, 392, 2, 393, 28, 394, 30, 395, 396, 397, 398, 279, 20, 280, 281, 192, 399, 400, 401, 402, 17, 25, 403, 404, 405, 46, 406, 24, 407, 408, 54, 409, 372, 373, 374, 300, 51, 52, 53, 585, 586, 587, 588, 34, 589, 590, 591, 592, 593, 594, 595, 596, 327, 328, 329, 330, 331, 332, 333, 597, 598, 599, 600, 193, 194, 195, 45, 47, 696, 697, 698, 699, 700, 701, 702, 703, 704, 705, 706, 707, 708, 709, 710, 734, 735, 736, 737, 731, 732, 733, 738, 739, 740, 741, 742] (by decide +kernel) (by decide +kernel)
set_option maxRecDepth 20000 in
theorem gL_law_X3_sweep : GoodIn wsL_law (wsV RL 169 RX3 yX3_sweep wsX3_sweep) := goodIn_app (goodIn_of _ (by decide +kernel)) ggL_law_X3_sweep
set_option maxRecDepth 20000 in
theorem ggL_law_X4_sweep : GoodIn wsL_law wsX4_sweep := goodIn_r _ [604, 108, 29, 208, 70, 61, 62, 63, 308, 64, 65, 66, 67, 414, 415, 416, 5, 417, 59, 418, 419, 420, 421, 286, 287, 288, 289, 113, 114, 115, 143, 144, 145, 422, 423, 424, 425, 379, 380, 381, 382, 69, 309, 310, 311, 312, 342, 343, 344, 345, 711, 712, 713, 714, 715, 716, 717, 718, 719, 720, 721, 722, 723, 724, 725, 726, 727, 728, 729, 730] (by decide +kernel) (by decide +kernel)
set_option maxRecDepth 20000 in
theorem gL_law_X4_sweep : GoodIn wsL_law (wsV RL 172 RX4 yX4_sweep wsX4_sweep) := goodIn_app (goodIn_of _ (by decide +kernel)) ggL_law_X4_sweep
set_option maxRecDepth 20000 in
theorem ggL_law_L_run : GoodIn wsL_law wsL_run := goodIn_ca (goodIn_r _ [607, 171, 608, 609, 610, 2, 611, 180, 181, 612, 613, 35, 614, 615, 21, 279, 20, 280, 281, 192, 616, 617, 618, 45, 619, 620, 621, 622, 623, 624, 625, 626, 627, 628, 629, 630, 631, 632, 633, 47, 634, 635, 636, 637, 17, 403, 404, 405, 46, 638, 639, 640, 641, 642, 25, 372, 24, 373, 374, 300, 51, 52, 53, 696, 697, 698, 699, 700, 701, 702, 703, 704, 705, 706, 707, 708, 709, 710, 734, 735, 736, 737, 731, 732, 733, 738, 739, 740, 741, 742] (by decide +kernel) (by decide +kernel)) (goodIn_sub (fun _ h => List.mem_append_right _ h) (by decide +kernel))
set_option maxRecDepth 20000 in
theorem gL_law_L_run : GoodIn wsL_law (va_wsS RL 175 yL_run wsL_run) := goodIn_app (goodIn_of _ (by decide +kernel)) ggL_law_L_run
set_option maxRecDepth 20000 in
theorem ggL_law_X4_run : GoodIn wsL_law wsX4_run := goodIn_r _ [646, 108, 647, 648, 68, 649, 650, 651, 61, 62, 63, 652, 67, 113, 114, 5, 115, 116, 117, 118, 119, 286, 287, 288, 289, 208, 653, 620, 621, 622, 623, 624, 625, 143, 144, 145, 379, 380, 381, 382, 308, 64, 65, 69, 66, 711, 712, 713, 714, 715, 716, 717, 718, 719, 720, 721, 722, 723, 724, 725, 726, 727, 728, 729, 730] (by decide +kernel) (by decide +kernel)
set_option maxRecDepth 20000 in
theorem gL_law_X4_run : GoodIn wsL_law (wsV RL 178 RX4 yX4_run wsX4_run) := goodIn_app (goodIn_of _ (by decide +kernel)) ggL_law_X4_run
set_option maxRecDepth 20000 in
theorem ggL_law_X3_executed : GoodIn wsL_law wsX3_executed := goodIn_r _ [657, 612, 696, 697, 698, 699, 700, 701, 702, 703, 704, 705, 706, 707, 708, 709, 710] (by decide +kernel) (by decide +kernel)
set_option maxRecDepth 20000 in
theorem gL_law_X3_executed : GoodIn wsL_law (wsV RL 179 RX3 yX3_executed wsX3_executed) := goodIn_app (goodIn_of _ (by decide +kernel)) ggL_law_X3_executed
set_option maxRecDepth 20000 in
theorem ggL_law_X4_executed : GoodIn wsL_law wsX4_executed := goodIn_r _ [661, 108, 647, 711, 712, 713, 714, 715, 716, 717, 718, 719, 720, 721, 722, 723, 724, 725, 726, 727, 728, 729, 730] (by decide +kernel) (by decide +kernel)
set_option maxRecDepth 20000 in
theorem gL_law_X4_executed : GoodIn wsL_law (wsV RL 182 RX4 yX4_executed wsX4_executed) := goodIn_app (goodIn_of _ (by decide +kernel)) ggL_law_X4_executed
set_option maxRecDepth 20000 in
theorem ggL_law_X3_taken : GoodIn wsL_law wsX3_taken := goodIn_r _ [665, 613, 696, 697, 698, 699, 700, 701, 702, 703, 704, 705, 706, 707, 708, 709, 710] (by decide +kernel) (by decide +kernel)
set_option maxRecDepth 20000 in
theorem gL_law_X3_taken : GoodIn wsL_law (wsV RL 183 RX3 yX3_taken wsX3_taken) := goodIn_app (goodIn_of _ (by decide +kernel)) ggL_law_X3_taken
set_option maxRecDepth 20000 in
theorem ggL_law_X4_taken : GoodIn wsL_law wsX4_taken := goodIn_r _ [669, 108, 648, 711, 712, 713, 714, 715, 716, 717, 718, 719, 720, 721, 722, 723, 724, 725, 726, 727, 728, 729, 730] (by decide +kernel) (by decide +kernel)
set_option maxRecDepth 20000 in
theorem gL_law_X4_taken : GoodIn wsL_law (wsV RL 186 RX4 yX4_taken wsX4_taken) := goodIn_app (goodIn_of _ (by decide +kernel)) ggL_law_X4_taken
set_option maxRecDepth 20000 in
theorem ggL_law_X3_escaped : GoodIn wsL_law wsX3_escaped := goodIn_r _ [673, 35, 696, 697, 698, 699, 700, 701, 702, 703, 704, 705, 706, 707, 708, 709, 710] (by decide +kernel) (by decide +kernel)
set_option maxRecDepth 20000 in
theorem gL_law_X3_escaped : GoodIn wsL_law (wsV RL 187 RX3 yX3_escaped wsX3_escaped) := goodIn_app (goodIn_of _ (by decide +kernel)) ggL_law_X3_escaped
set_option maxRecDepth 20000 in
theorem ggL_law_X4_escaped : GoodIn wsL_law wsX4_escaped := goodIn_r _ [677, 108, 68, 711, 712, 713, 714, 715, 716, 717, 718, 719, 720, 721, 722, 723, 724, 725, 726, 727, 728, 729, 730] (by decide +kernel) (by decide +kernel)
set_option maxRecDepth 20000 in
theorem gL_law_X4_escaped : GoodIn wsL_law (wsV RL 190 RX4 yX4_escaped wsX4_escaped) := goodIn_app (goodIn_of _ (by decide +kernel)) ggL_law_X4_escaped
set_option maxRecDepth 20000 in
theorem ggL_law_X3_way : GoodIn wsL_law wsX3_way := goodIn_r _ [681, 615, 696, 697, 698, 699, 700, 701, 702, 703, 704, 705, 706, 707, 708, 709, 710] (by decide +kernel) (by decide +kernel)
set_option maxRecDepth 20000 in
theorem gL_law_X3_way : GoodIn wsL_law (wsV RL 191 RX3 yX3_way wsX3_way) := goodIn_app (goodIn_of _ (by decide +kernel)) ggL_law_X3_way
set_option maxRecDepth 20000 in
theorem ggL_law_X4_way : GoodIn wsL_law wsX4_way := goodIn_r _ [685, 108, 650, 711, 712, 713, 714, 715, 716, 717, 718, 719, 720, 721, 722, 723, 724, 725, 726, 727, 728, 729, 730] (by decide +kernel) (by decide +kernel)
set_option maxRecDepth 20000 in
theorem gL_law_X4_way : GoodIn wsL_law (wsV RL 195 RX4 yX4_way wsX4_way) := goodIn_app (goodIn_of _ (by decide +kernel)) ggL_law_X4_way
set_option maxRecDepth 20000 in
theorem ggL_law_X3_digest : GoodIn wsL_law wsX3_digest := goodIn_r _ [689, 690, 630, 17, 21, 25, 612, 613, 35, 696, 697, 698, 699, 700, 701, 702, 703, 704, 705, 706, 707, 708, 709, 710, 731, 732, 733, 734, 735, 736, 737, 738, 739, 740, 741, 742] (by decide +kernel) (by decide +kernel)
set_option maxRecDepth 20000 in
theorem gL_law_X3_digest : GoodIn wsL_law (wsV RL 196 RX3 yX3_digest wsX3_digest) := goodIn_app (goodIn_of _ (by decide +kernel)) ggL_law_X3_digest
set_option maxRecDepth 20000 in
theorem ggL_law_X4_digest : GoodIn wsL_law wsX4_digest := goodIn_r _ [694, 108, 695, 59, 651, 60, 208, 61, 62, 63, 308, 64, 65, 66, 67, 647, 648, 68, 711, 712, 713, 714, 715, 716, 717, 718, 719, 720, 721, 722, 723, 724, 725, 726, 727, 728, 729, 730] (by decide +kernel) (by decide +kernel)
set_option maxRecDepth 20000 in
theorem gL_law_X4_digest : GoodIn wsL_law (wsV RL 199 RX4 yX4_digest wsX4_digest) := goodIn_app (goodIn_of _ (by decide +kernel)) ggL_law_X4_digest

set_option maxRecDepth 20000 in
theorem ghL_law_X5_init_0 : GoodIn wsL_law ((wsX5_init.drop 0).take 48) := goodIn_r _ [8, 9, 10, 11, 12, 13, 14, 15, 16, 17, 18, 19, 20, 21, 22, 23, 24, 25, 26, 27, 28, 29, 30, 31, 32, 33, 34, 35, 36, 37, 38, 39, 40, 41, 42, 43, 44, 45, 46, 47, 48, 49, 50, 51, 52, 53, 54, 55] (by decide +kernel) (by decide +kernel)
set_option maxRecDepth 20000 in
theorem ghL_law_X5_init_1 : GoodIn wsL_law ((wsX5_init.drop 48).take 48) := goodIn_r _ [56, 57, 58, 59, 60, 61, 62, 63, 64, 65, 66, 67, 68, 742, 743, 744, 745, 746, 747, 748, 749, 750, 751, 752, 753, 754, 755, 756, 757, 700, 701, 702, 703, 704, 705, 706, 707, 708, 709, 710, 758, 759, 760, 761, 762, 763, 764, 765] (by decide +kernel) (by decide +kernel)
set_option maxRecDepth 20000 in
theorem ghL_law_X5_init_2 : GoodIn wsL_law (wsX5_init.drop 96) := goodIn_r _ [766, 767, 768, 769, 770, 771, 772, 773, 774, 775] (by decide +kernel) (by decide +kernel)
theorem ggL_law_X5_init : GoodIn wsL_law wsX5_init := (gg_cut (a := 0) (b := 48) ghL_law_X5_init_0 (gg_cut (a := 48) (b := 48) ghL_law_X5_init_1 ghL_law_X5_init_2))
set_option maxRecDepth 20000 in
theorem gL_law_X5_init : GoodIn wsL_law (wsX5_init) := ggL_law_X5_init
set_option maxRecDepth 20000 in
theorem ggL_law_X6_init : GoodIn wsL_law wsX6_init := goodIn_r _ [71, 72, 10, 11, 34, 73, 74, 75, 76, 77, 78, 79, 80, 81, 82, 83, 84, 85, 86, 87, 711, 712, 713, 714, 715, 716, 717, 718, 719, 720, 721, 722, 723, 724, 725, 726, 727, 728, 729, 730, 731, 732, 733, 734, 735, 736, 737, 738, 739, 740, 741] (by decide +kernel) (by decide +kernel)
set_option maxRecDepth 20000 in
theorem gL_law_X6_init : GoodIn wsL_law (wsX6_init) := ggL_law_X6_init
set_option maxRecDepth 20000 in
theorem ggL_law_X5_letter : GoodIn wsL_law wsX5_letter := goodIn_r _ [91, 21, 92, 93, 94, 2, 95, 36, 96, 20, 97, 98, 99, 100, 101, 102, 59, 700, 701, 702, 703, 704, 705, 706, 707, 708, 709, 710, 758, 759, 760, 761, 762, 763, 764] (by decide +kernel) (by decide +kernel)
set_option maxRecDepth 20000 in
theorem gL_law_X5_letter : GoodIn wsL_law (wsV RL 13 RX5 yX5_letter wsX5_letter) := goodIn_app (goodIn_of _ (by decide +kernel)) ggL_law_X5_letter
set_option maxRecDepth 20000 in
theorem ggL_law_X6_letter : GoodIn wsL_law wsX6_letter := goodIn_r _ [106, 107, 76, 108, 109, 110, 5, 111, 78, 711, 712, 713, 714, 715, 716, 717, 718, 719, 720, 721, 722, 723, 724, 725, 726, 727, 728, 729, 730, 731, 732, 733, 734, 735, 736, 737, 738, 739, 740, 741] (by decide +kernel) (by decide +kernel)
set_option maxRecDepth 20000 in
theorem gL_law_X6_letter : GoodIn wsL_law (wsV RL 17 RX6 yX6_letter wsX6_letter) := goodIn_app (goodIn_of _ (by decide +kernel)) ggL_law_X6_letter
set_option maxRecDepth 20000 in
theorem ghL_law_X5_office_0 : GoodIn wsL_law ((wsX5_office.drop 0).take 48) := goodIn_r _ [115, 16, 15, 21, 116, 14, 117, 118, 40, 41, 42, 43, 44, 45, 46, 47, 48, 49, 50, 51, 52, 53, 54, 55, 119, 20, 120, 121, 122, 123, 124, 125, 126, 99, 127, 128, 129, 130, 131, 132, 133, 134, 135, 59, 136, 137, 138, 139] (by decide +kernel) (by decide +kernel)
set_option maxRecDepth 20000 in
theorem ghL_law_X5_office_1 : GoodIn wsL_law ((wsX5_office.drop 48).take 48) := goodIn_r _ [140, 141, 142, 143, 144, 145, 146, 147, 148, 149, 150, 151, 152, 153, 154, 155, 156, 157, 158, 159, 160, 161, 162, 163, 164, 165, 166, 167, 168, 169, 170, 171, 172, 173, 174, 175, 176, 177, 178, 179, 180, 181, 182, 183, 184, 185, 186, 187] (by decide +kernel) (by decide +kernel)
set_option maxRecDepth 20000 in
theorem ghL_law_X5_office_2 : GoodIn wsL_law (wsX5_office.drop 96) := goodIn_r _ [188, 189, 190, 191, 192, 193, 194, 195, 196, 197, 198, 199, 200, 700, 701, 702, 703, 704, 705, 706, 707, 708, 709, 710, 742, 743, 744, 745, 746, 747, 748, 749, 750, 751, 752, 753, 754, 755, 756, 757, 758, 759, 760, 761, 762, 763, 764] (by decide +kernel) (by decide +kernel)
theorem ggL_law_X5_office : GoodIn wsL_law wsX5_office := (gg_cut (a := 0) (b := 48) ghL_law_X5_office_0 (gg_cut (a := 48) (b := 48) ghL_law_X5_office_1 ghL_law_X5_office_2))
set_option maxRecDepth 20000 in
theorem gL_law_X5_office : GoodIn wsL_law (wsV RL 18 RX5 yX5_office wsX5_office) := goodIn_app (goodIn_of _ (by decide +kernel)) ggL_law_X5_office
set_option maxRecDepth 20000 in
theorem ghL_law_X6_office_0 : GoodIn wsL_law ((wsX6_office.drop 0).take 8) := goodIn_r _ [204, 205, 107, 80, 206, 207, 208, 5] (by decide +kernel) (by decide +kernel)
theorem stCode : Cond.code yX6_statement cX6_statement 4 (some .int) ∈ wsL_law := by
  unfold wsL_law
  exact List.mem_append_left _ (List.mem_append_left _ (List.mem_append_left _ (List.mem_append_left _ (List.mem_append_left _ (List.mem_append_left _ (List.mem_append_left _ (List.mem_append_left _ (List.mem_append_right _ (List.mem_append_right _ (List.mem_append_right _ (List.mem_append_right _ (List.mem_append_right _ (List.mem_append_right _ (List.mem_append_right _ (List.mem_append_right _ (List.mem_append_left _ (List.mem_of_getElem? (i := 17) rfl)))))))))))))))))
theorem ghL_law_X6_office_1 : GoodIn wsL_law ((wsX6_office.drop 8).take 1) := by
  have e : ((wsX6_office.drop 8).take 1) = [Cond.code yX6_statement cX6_statement 4 (some .int)] := rfl
  rw [e]
  intro w hw
  have hw := List.mem_singleton.mp hw
  subst hw
  exact ⟨stCode, good_of_word (by decide +kernel)⟩
set_option maxRecDepth 20000 in
theorem ghL_law_X6_office_2 : GoodIn wsL_law ((wsX6_office.drop 9).take 23) := goodIn_r _ [210, 85, 82, 83, 84, 86, 81, 211, 212, 87, 76, 213, 73, 74, 75, 214, 215, 216, 217, 218, 219, 220, 221] (by decide +kernel) (by decide +kernel)
set_option maxRecDepth 20000 in
theorem ghL_law_X6_office_3 : GoodIn wsL_law ((wsX6_office.drop 32).take 24) := goodIn_r _ [222, 223, 224, 225, 226, 227, 228, 229, 230, 231, 232, 233, 234, 235, 236, 237, 238, 239, 240, 241, 242, 243, 244, 245] (by decide +kernel) (by decide +kernel)
set_option maxRecDepth 20000 in
theorem ghL_law_X6_office_4 : GoodIn wsL_law ((wsX6_office.drop 56).take 24) := goodIn_r _ [246, 247, 248, 249, 250, 251, 252, 253, 254, 255, 256, 257, 146, 147, 148, 258, 259, 260, 261, 262, 263, 264, 265, 266] (by decide +kernel) (by decide +kernel)
set_option maxRecDepth 20000 in
theorem ghL_law_X6_office_5 : GoodIn wsL_law ((wsX6_office.drop 80).take 24) := goodIn_r _ [267, 268, 269, 270, 271, 272, 273, 274, 275, 276, 277, 278, 279, 280, 281, 282, 283, 284, 285, 286, 287, 288, 289, 290] (by decide +kernel) (by decide +kernel)
set_option maxRecDepth 20000 in
theorem ghL_law_X6_office_6 : GoodIn wsL_law ((wsX6_office.drop 104).take 24) := goodIn_r _ [291, 292, 293, 294, 295, 296, 297, 298, 299, 300, 301, 302, 303, 304, 305, 306, 307, 308, 309, 310, 311, 312, 313, 314] (by decide +kernel) (by decide +kernel)
set_option maxRecDepth 20000 in
theorem ghL_law_X6_office_7 : GoodIn wsL_law ((wsX6_office.drop 128).take 24) := goodIn_r _ [315, 316, 317, 318, 319, 320, 321, 322, 323, 324, 325, 711, 712, 713, 714, 715, 716, 717, 718, 719, 720, 721, 722, 723] (by decide +kernel) (by decide +kernel)
set_option maxRecDepth 20000 in
theorem ghL_law_X6_office_8 : GoodIn wsL_law (wsX6_office.drop 152) := goodIn_r _ [724, 725, 726, 727, 728, 729, 730, 731, 732, 733, 734, 735, 736, 737, 738, 739, 740, 741] (by decide +kernel) (by decide +kernel)
theorem ggL_law_X6_office : GoodIn wsL_law wsX6_office := (gg_cut (a := 0) (b := 8) ghL_law_X6_office_0 (gg_cut (a := 8) (b := 1) ghL_law_X6_office_1 (gg_cut (a := 9) (b := 23) ghL_law_X6_office_2 (gg_cut (a := 32) (b := 24) ghL_law_X6_office_3 (gg_cut (a := 56) (b := 24) ghL_law_X6_office_4 (gg_cut (a := 80) (b := 24) ghL_law_X6_office_5 (gg_cut (a := 104) (b := 24) ghL_law_X6_office_6 (gg_cut (a := 128) (b := 24) ghL_law_X6_office_7 ghL_law_X6_office_8))))))))
set_option maxRecDepth 20000 in
theorem gL_law_X6_office : GoodIn wsL_law (wsV RL 22 RX6 yX6_office wsX6_office) := goodIn_app (goodIn_of _ (by decide +kernel)) ggL_law_X6_office
set_option maxRecDepth 20000 in
theorem ghL_law_X5_ball_0 : GoodIn wsL_law ((wsX5_ball.drop 0).take 48) := goodIn_r _ [329, 15, 330, 14, 331, 332, 52, 92, 93, 94, 2, 95, 36, 333, 334, 335, 53, 336, 337, 338, 339, 54, 340, 341, 342, 55, 343, 344, 345, 346, 146, 147, 148, 347, 348, 349, 350, 351, 352, 353, 354, 355, 47, 700, 701, 702, 703, 704] (by decide +kernel) (by decide +kernel)
set_option maxRecDepth 20000 in
theorem ghL_law_X5_ball_1 : GoodIn wsL_law (wsX5_ball.drop 48) := goodIn_r _ [705, 706, 707, 708, 709, 710, 742, 743, 744, 745, 746, 747, 748, 749, 750, 751, 752, 753, 754, 755, 756, 757] (by decide +kernel) (by decide +kernel)
theorem ggL_law_X5_ball : GoodIn wsL_law wsX5_ball := (gg_cut (a := 0) (b := 48) ghL_law_X5_ball_0 ghL_law_X5_ball_1)
set_option maxRecDepth 20000 in
theorem gL_law_X5_ball : GoodIn wsL_law (wsV RL 23 RX5 yX5_ball wsX5_ball) := goodIn_app (goodIn_of _ (by decide +kernel)) ggL_law_X5_ball
set_option maxRecDepth 20000 in
theorem ghL_law_X6_ball_0 : GoodIn wsL_law ((wsX6_ball.drop 0).take 48) := goodIn_r _ [359, 73, 74, 75, 360, 361, 362, 5, 363, 213, 226, 227, 228, 108, 109, 110, 111, 78, 364, 365, 366, 367, 368, 146, 147, 148, 369, 370, 371, 372, 373, 374, 375, 376, 212, 711, 712, 713, 714, 715, 716, 717, 718, 719, 720, 721, 722, 723] (by decide +kernel) (by decide +kernel)
set_option maxRecDepth 20000 in
theorem ghL_law_X6_ball_1 : GoodIn wsL_law (wsX6_ball.drop 48) := goodIn_r _ [724, 725, 726, 727, 728, 729, 730, 731, 732, 733, 734, 735, 736, 737, 738, 739, 740, 741] (by decide +kernel) (by decide +kernel)
theorem ggL_law_X6_ball : GoodIn wsL_law wsX6_ball := (gg_cut (a := 0) (b := 48) ghL_law_X6_ball_0 ghL_law_X6_ball_1)
set_option maxRecDepth 20000 in
theorem gL_law_X6_ball : GoodIn wsL_law (wsV RL 27 RX6 yX6_ball wsX6_ball) := goodIn_app (goodIn_of _ (by decide +kernel)) ggL_law_X6_ball
set_option maxRecDepth 20000 in
theorem ggL_law_X5_crumple : GoodIn wsL_law wsX5_crumple := goodIn_r _ [380, 15, 330, 14, 331, 332, 52, 92, 93, 94, 2, 95, 36, 340, 341, 342, 55, 336, 381, 382, 383, 700, 701, 702, 703, 704, 705, 706, 707, 708, 709, 710, 742, 743, 744, 745, 746, 747, 748, 749, 750, 751, 752, 753, 754, 755, 756, 757] (by decide +kernel) (by decide +kernel)
set_option maxRecDepth 20000 in
theorem gL_law_X5_crumple : GoodIn wsL_law (wsV RL 28 RX5 yX5_crumple wsX5_crumple) := goodIn_app (goodIn_of _ (by decide +kernel)) ggL_law_X5_crumple
set_option maxRecDepth 20000 in
theorem ggL_law_X6_crumple : GoodIn wsL_law wsX6_crumple := goodIn_r _ [387, 75, 360, 361, 362, 5, 363, 213, 226, 227, 228, 108, 109, 110, 111, 78, 711, 712, 713, 714, 715, 716, 717, 718, 719, 720, 721, 722, 723, 724, 725, 726, 727, 728, 729, 730, 731, 732, 733, 734, 735, 736, 737, 738, 739, 740, 741] (by decide +kernel) (by decide +kernel)
set_option maxRecDepth 20000 in
theorem gL_law_X6_crumple : GoodIn wsL_law (wsV RL 31 RX6 yX6_crumple wsX6_crumple) := goodIn_app (goodIn_of _ (by decide +kernel)) ggL_law_X6_crumple
set_option maxRecDepth 20000 in
theorem ghL_law_X5_fly_0 : GoodIn wsL_law ((wsX5_fly.drop 0).take 48) := goodIn_r _ [391, 25, 15, 392, 393, 394, 2, 395, 330, 14, 331, 332, 52, 396, 397, 398, 399, 92, 93, 94, 95, 36, 400, 24, 401, 402, 403, 404, 405, 406, 407, 408, 409, 410, 343, 344, 345, 346, 146, 147, 148, 347, 337, 338, 339, 54, 336, 348] (by decide +kernel) (by decide +kernel)
set_option maxRecDepth 20000 in
theorem ghL_law_X5_fly_1 : GoodIn wsL_law ((wsX5_fly.drop 48).take 48) := goodIn_r _ [340, 341, 342, 55, 349, 333, 334, 335, 53, 350, 351, 352, 353, 354, 355, 47, 411, 412, 413, 414, 415, 416, 417, 418, 419, 420, 421, 422, 423, 424, 425, 426, 41, 42, 427, 428, 429, 430, 431, 432, 433, 259, 260, 434, 435, 436, 48, 700] (by decide +kernel) (by decide +kernel)
set_option maxRecDepth 20000 in
theorem ghL_law_X5_fly_2 : GoodIn wsL_law (wsX5_fly.drop 96) := goodIn_r _ [701, 702, 703, 704, 705, 706, 707, 708, 709, 710, 765, 766, 767, 768, 769, 770, 771, 772, 742, 743, 744, 745, 746, 747, 748, 749, 750, 751, 752, 753, 754, 755, 756, 757] (by decide +kernel) (by decide +kernel)
theorem ggL_law_X5_fly : GoodIn wsL_law wsX5_fly := (gg_cut (a := 0) (b := 48) ghL_law_X5_fly_0 (gg_cut (a := 48) (b := 48) ghL_law_X5_fly_1 ghL_law_X5_fly_2))
set_option maxRecDepth 20000 in
theorem gL_law_X5_fly : GoodIn wsL_law (wsV RL 32 RX5 yX5_fly wsX5_fly) := goodIn_app (goodIn_of _ (by decide +kernel)) ggL_law_X5_fly
set_option maxRecDepth 20000 in
theorem ghL_law_X6_fly_0 : GoodIn wsL_law ((wsX6_fly.drop 0).take 48) := goodIn_r _ [440, 319, 441, 442, 443, 444, 445, 360, 361, 362, 5, 363, 213, 226, 227, 228, 108, 109, 110, 111, 78, 446, 447, 448, 449, 450, 451, 452, 453, 81, 86, 85, 84, 82, 83, 368, 146, 147, 148, 211, 454, 259, 260, 87, 364, 365, 366, 367] (by decide +kernel) (by decide +kernel)
set_option maxRecDepth 20000 in
theorem ghL_law_X6_fly_1 : GoodIn wsL_law (wsX6_fly.drop 48) := goodIn_r _ [74, 75, 73, 369, 370, 371, 372, 373, 374, 375, 376, 212, 711, 712, 713, 714, 715, 716, 717, 718, 719, 720, 721, 722, 723, 724, 725, 726, 727, 728, 729, 730, 731, 732, 733, 734, 735, 736, 737, 738, 739, 740, 741] (by decide +kernel) (by decide +kernel)
theorem ggL_law_X6_fly : GoodIn wsL_law wsX6_fly := (gg_cut (a := 0) (b := 48) ghL_law_X6_fly_0 ghL_law_X6_fly_1)
set_option maxRecDepth 20000 in
theorem gL_law_X6_fly : GoodIn wsL_law (wsV RL 36 RX6 yX6_fly wsX6_fly) := goodIn_app (goodIn_of _ (by decide +kernel)) ggL_law_X6_fly
set_option maxRecDepth 20000 in
theorem ghL_law_X5_throwIt_0 : GoodIn wsL_law ((wsX5_throwIt.drop 0).take 48) := goodIn_r _ [458, 15, 392, 393, 394, 2, 395, 330, 14, 331, 332, 52, 396, 397, 398, 399, 92, 93, 94, 95, 36, 459, 460, 461, 462, 25, 400, 24, 401, 402, 403, 404, 405, 406, 407, 408, 409, 410, 343, 344, 345, 346, 146, 147, 148, 347, 337, 338] (by decide +kernel) (by decide +kernel)
set_option maxRecDepth 20000 in
theorem ghL_law_X5_throwIt_1 : GoodIn wsL_law ((wsX5_throwIt.drop 48).take 48) := goodIn_r _ [339, 54, 336, 348, 340, 341, 342, 55, 349, 333, 334, 335, 53, 350, 351, 352, 353, 354, 355, 47, 411, 412, 413, 414, 415, 416, 417, 418, 419, 420, 421, 422, 423, 424, 425, 426, 41, 42, 427, 428, 429, 430, 431, 432, 433, 259, 260, 434] (by decide +kernel) (by decide +kernel)
set_option maxRecDepth 20000 in
theorem ghL_law_X5_throwIt_2 : GoodIn wsL_law (wsX5_throwIt.drop 96) := goodIn_r _ [435, 436, 48, 463, 464, 465, 49, 51, 50, 44, 700, 701, 702, 703, 704, 705, 706, 707, 708, 709, 710, 742, 743, 744, 745, 746, 747, 748, 749, 750, 751, 752, 753, 754, 755, 756, 757, 765, 766, 767, 768, 769, 770, 771, 772] (by decide +kernel) (by decide +kernel)
theorem ggL_law_X5_throwIt : GoodIn wsL_law wsX5_throwIt := (gg_cut (a := 0) (b := 48) ghL_law_X5_throwIt_0 (gg_cut (a := 48) (b := 48) ghL_law_X5_throwIt_1 ghL_law_X5_throwIt_2))
set_option maxRecDepth 20000 in
theorem gL_law_X5_throwIt : GoodIn wsL_law (wsV RL 37 RX5 yX5_throwIt wsX5_throwIt) := goodIn_app (goodIn_of _ (by decide +kernel)) ggL_law_X5_throwIt

set_option maxRecDepth 20000 in
theorem ghL_law_X6_farthest_0 : GoodIn wsL_law ((wsX6_farthest.drop 0).take 48) := goodIn_r _ [633, 82, 85, 83, 454, 259, 147, 260, 360, 361, 362, 5, 363, 213, 226, 227, 228, 108, 109, 110, 111, 78, 510, 511, 512, 513, 319, 450, 451, 452, 453, 81, 442, 443, 444, 445, 86, 84, 368, 146, 148, 211, 441, 87, 364, 365, 366, 367] (by decide +kernel) (by decide +kernel)
set_option maxRecDepth 20000 in
theorem ghL_law_X6_farthest_1 : GoodIn wsL_law (wsX6_farthest.drop 48) := goodIn_r _ [74, 75, 73, 369, 370, 371, 372, 373, 374, 375, 376, 212, 711, 712, 713, 714, 715, 716, 717, 718, 719, 720, 721, 722, 723, 724, 725, 726, 727, 728, 729, 730, 731, 732, 733, 734, 735, 736, 737, 738, 739, 740, 741] (by decide +kernel) (by decide +kernel)
theorem ggL_law_X6_farthest : GoodIn wsL_law wsX6_farthest := (gg_cut (a := 0) (b := 48) ghL_law_X6_farthest_0 ghL_law_X6_farthest_1)
set_option maxRecDepth 20000 in
theorem gL_law_X6_farthest : GoodIn wsL_law (wsV RL 91 RX6 yX6_farthest wsX6_farthest) := goodIn_app (goodIn_of _ (by decide +kernel)) ggL_law_X6_farthest
set_option maxRecDepth 20000 in
theorem ggL_law_X5_row : GoodIn wsL_law wsX5_row := goodIn_r _ [637, 638, 35, 92, 93, 94, 2, 95, 36, 700, 701, 702, 703, 704, 705, 706, 707, 708, 709, 710] (by decide +kernel) (by decide +kernel)
set_option maxRecDepth 20000 in
theorem gL_law_X5_row : GoodIn wsL_law (wsV RL 92 RX5 yX5_row wsX5_row) := goodIn_app (goodIn_of _ (by decide +kernel)) ggL_law_X5_row
set_option maxRecDepth 20000 in
theorem ggL_law_X6_row : GoodIn wsL_law wsX6_row := goodIn_r _ [642, 643, 77, 108, 109, 110, 5, 111, 78, 711, 712, 713, 714, 715, 716, 717, 718, 719, 720, 721, 722, 723, 724, 725, 726, 727, 728, 729, 730, 731, 732, 733, 734, 735, 736, 737, 738, 739, 740, 741] (by decide +kernel) (by decide +kernel)
set_option maxRecDepth 20000 in
theorem gL_law_X6_row : GoodIn wsL_law (wsV RL 95 RX6 yX6_row wsX6_row) := goodIn_app (goodIn_of _ (by decide +kernel)) ggL_law_X6_row
set_option maxRecDepth 20000 in
theorem ghL_law_X5_judge_0 : GoodIn wsL_law ((wsX5_judge.drop 0).take 48) := goodIn_r _ [647, 16, 15, 638, 35, 116, 14, 117, 118, 40, 41, 42, 43, 44, 45, 46, 47, 48, 49, 50, 51, 52, 53, 54, 55, 648, 649, 650, 2, 651, 392, 393, 394, 395, 330, 331, 332, 396, 397, 398, 399, 459, 460, 461, 462, 25, 400, 24] (by decide +kernel) (by decide +kernel)
set_option maxRecDepth 20000 in
theorem ghL_law_X5_judge_1 : GoodIn wsL_law ((wsX5_judge.drop 48).take 48) := goodIn_r _ [401, 402, 403, 404, 405, 406, 407, 408, 409, 410, 343, 344, 345, 346, 146, 147, 148, 347, 337, 338, 339, 336, 348, 340, 341, 342, 349, 333, 334, 335, 350, 351, 352, 353, 354, 355, 411, 412, 413, 414, 415, 416, 417, 418, 419, 420, 421, 422] (by decide +kernel) (by decide +kernel)
set_option maxRecDepth 20000 in
theorem ghL_law_X5_judge_2 : GoodIn wsL_law ((wsX5_judge.drop 96).take 48) := goodIn_r _ [423, 424, 425, 426, 427, 428, 429, 430, 431, 432, 433, 259, 260, 434, 435, 436, 463, 464, 465, 700, 701, 702, 703, 704, 705, 706, 707, 708, 709, 710, 742, 743, 744, 745, 746, 747, 748, 749, 750, 751, 752, 753, 754, 755, 756, 757, 765, 766] (by decide +kernel) (by decide +kernel)
set_option maxRecDepth 20000 in
theorem ghL_law_X5_judge_3 : GoodIn wsL_law (wsX5_judge.drop 144) := goodIn_r _ [767, 768, 769, 770, 771, 772] (by decide +kernel) (by decide +kernel)
theorem ggL_law_X5_judge : GoodIn wsL_law wsX5_judge := (gg_cut (a := 0) (b := 48) ghL_law_X5_judge_0 (gg_cut (a := 48) (b := 48) ghL_law_X5_judge_1 (gg_cut (a := 96) (b := 48) ghL_law_X5_judge_2 ghL_law_X5_judge_3)))
set_option maxRecDepth 20000 in
theorem gL_law_X5_judge : GoodIn wsL_law (wsV RL 96 RX5 yX5_judge wsX5_judge) := goodIn_app (goodIn_of _ (by decide +kernel)) ggL_law_X5_judge
set_option maxRecDepth 20000 in
theorem ghL_law_X6_judge_0 : GoodIn wsL_law ((wsX6_judge.drop 0).take 48) := goodIn_r _ [655, 643, 80, 77, 315, 316, 317, 5, 318, 73, 74, 75, 81, 82, 83, 84, 211, 85, 86, 212, 87, 319, 320, 321, 213, 360, 361, 362, 363, 226, 227, 228, 446, 447, 448, 449, 470, 471, 472, 473, 450, 451, 452, 453, 442, 443, 444, 445] (by decide +kernel) (by decide +kernel)
set_option maxRecDepth 20000 in
theorem ghL_law_X6_judge_1 : GoodIn wsL_law ((wsX6_judge.drop 48).take 48) := goodIn_r _ [368, 146, 147, 148, 441, 454, 259, 260, 364, 365, 366, 367, 369, 370, 371, 372, 373, 374, 375, 376, 322, 323, 324, 325, 711, 712, 713, 714, 715, 716, 717, 718, 719, 720, 721, 722, 723, 724, 725, 726, 727, 728, 729, 730, 731, 732, 733, 734] (by decide +kernel) (by decide +kernel)
set_option maxRecDepth 20000 in
theorem ghL_law_X6_judge_2 : GoodIn wsL_law (wsX6_judge.drop 96) := goodIn_r _ [735, 736, 737, 738, 739, 740, 741] (by decide +kernel) (by decide +kernel)
theorem ggL_law_X6_judge : GoodIn wsL_law wsX6_judge := (gg_cut (a := 0) (b := 48) ghL_law_X6_judge_0 (gg_cut (a := 48) (b := 48) ghL_law_X6_judge_1 ghL_law_X6_judge_2))
set_option maxRecDepth 20000 in
theorem gL_law_X6_judge : GoodIn wsL_law (wsV RL 99 RX6 yX6_judge wsX6_judge) := goodIn_app (goodIn_of _ (by decide +kernel)) ggL_law_X6_judge
set_option maxRecDepth 20000 in
theorem ghL_law_X5_lots_0 : GoodIn wsL_law ((wsX5_lots.drop 0).take 48) := goodIn_r _ [659, 15, 16, 29, 92, 93, 94, 2, 95, 36, 116, 14, 117, 118, 40, 41, 42, 43, 44, 45, 46, 47, 48, 49, 50, 51, 52, 53, 54, 55, 660, 28, 661, 662, 663, 664, 665, 666, 459, 460, 461, 462, 25, 400, 24, 401, 402, 403] (by decide +kernel) (by decide +kernel)
set_option maxRecDepth 20000 in
theorem ghL_law_X5_lots_1 : GoodIn wsL_law ((wsX5_lots.drop 48).take 48) := goodIn_r _ [404, 405, 406, 407, 408, 409, 410, 343, 344, 345, 346, 146, 147, 148, 347, 337, 338, 339, 336, 330, 331, 332, 348, 340, 341, 342, 349, 333, 334, 335, 350, 351, 352, 353, 354, 355, 411, 412, 413, 414, 415, 416, 417, 418, 419, 420, 421, 422] (by decide +kernel) (by decide +kernel)
set_option maxRecDepth 20000 in
theorem ghL_law_X5_lots_2 : GoodIn wsL_law ((wsX5_lots.drop 96).take 48) := goodIn_r _ [423, 424, 425, 426, 427, 428, 429, 430, 431, 432, 433, 259, 260, 434, 435, 436, 463, 464, 465, 700, 701, 702, 703, 704, 705, 706, 707, 708, 709, 710, 742, 743, 744, 745, 746, 747, 748, 749, 750, 751, 752, 753, 754, 755, 756, 757, 773, 765] (by decide +kernel) (by decide +kernel)
set_option maxRecDepth 20000 in
theorem ghL_law_X5_lots_3 : GoodIn wsL_law (wsX5_lots.drop 144) := goodIn_r _ [766, 767, 768, 769, 770, 771, 772] (by decide +kernel) (by decide +kernel)
theorem ggL_law_X5_lots : GoodIn wsL_law wsX5_lots := (gg_cut (a := 0) (b := 48) ghL_law_X5_lots_0 (gg_cut (a := 48) (b := 48) ghL_law_X5_lots_1 (gg_cut (a := 96) (b := 48) ghL_law_X5_lots_2 ghL_law_X5_lots_3)))
set_option maxRecDepth 20000 in
theorem gL_law_X5_lots : GoodIn wsL_law (wsV RL 100 RX5 yX5_lots wsX5_lots) := goodIn_app (goodIn_of _ (by decide +kernel)) ggL_law_X5_lots
set_option maxRecDepth 20000 in
theorem ghL_law_X6_lots_0 : GoodIn wsL_law ((wsX6_lots.drop 0).take 48) := goodIn_r _ [670, 213, 80, 320, 671, 672, 673, 108, 109, 110, 5, 111, 78, 315, 316, 317, 318, 73, 74, 75, 81, 82, 83, 84, 211, 85, 86, 212, 87, 319, 321, 470, 471, 472, 473, 450, 451, 452, 453, 442, 443, 444, 445, 368, 146, 147, 148, 441] (by decide +kernel) (by decide +kernel)
set_option maxRecDepth 20000 in
theorem ghL_law_X6_lots_1 : GoodIn wsL_law ((wsX6_lots.drop 48).take 48) := goodIn_r _ [454, 259, 260, 364, 365, 366, 367, 226, 227, 228, 369, 370, 371, 372, 373, 374, 375, 376, 322, 323, 324, 325, 711, 712, 713, 714, 715, 716, 717, 718, 719, 720, 721, 722, 723, 724, 725, 726, 727, 728, 729, 730, 731, 732, 733, 734, 735, 736] (by decide +kernel) (by decide +kernel)
set_option maxRecDepth 20000 in
theorem ghL_law_X6_lots_2 : GoodIn wsL_law (wsX6_lots.drop 96) := goodIn_r _ [737, 738, 739, 740, 741] (by decide +kernel) (by decide +kernel)
theorem ggL_law_X6_lots : GoodIn wsL_law wsX6_lots := (gg_cut (a := 0) (b := 48) ghL_law_X6_lots_0 (gg_cut (a := 48) (b := 48) ghL_law_X6_lots_1 ghL_law_X6_lots_2))
set_option maxRecDepth 20000 in
theorem gL_law_X6_lots : GoodIn wsL_law (wsV RL 103 RX6 yX6_lots wsX6_lots) := goodIn_app (goodIn_of _ (by decide +kernel)) ggL_law_X6_lots
set_option maxRecDepth 20000 in
theorem ggL_law_X5_image : GoodIn wsL_law wsX5_image := goodIn_r _ [677, 17, 15, 678, 116, 14, 117, 118, 40, 41, 42, 43, 44, 45, 46, 47, 48, 49, 50, 51, 52, 53, 54, 55, 700, 701, 702, 703, 704, 705, 706, 707, 708, 709, 710, 742, 743, 744, 745, 746, 747, 748, 749, 750, 751, 752, 753, 754, 755, 756, 757] (by decide +kernel) (by decide +kernel)
set_option maxRecDepth 20000 in
theorem gL_law_X5_image : GoodIn wsL_law (wsV RL 104 RX5 yX5_image wsX5_image) := goodIn_app (goodIn_of _ (by decide +kernel)) ggL_law_X5_image
set_option maxRecDepth 20000 in
theorem ggL_law_X6_image : GoodIn wsL_law wsX6_image := goodIn_r _ [682, 683, 79, 319, 315, 316, 317, 5, 318, 73, 74, 75, 81, 82, 83, 84, 211, 85, 86, 212, 87, 320, 321, 213, 711, 712, 713, 714, 715, 716, 717, 718, 719, 720, 721, 722, 723, 724, 725, 726, 727, 728, 729, 730, 731, 732, 733, 734, 735, 736, 737, 738, 739, 740, 741] (by decide +kernel) (by decide +kernel)
set_option maxRecDepth 20000 in
theorem gL_law_X6_image : GoodIn wsL_law (wsV RL 107 RX6 yX6_image wsX6_image) := goodIn_app (goodIn_of _ (by decide +kernel)) ggL_law_X6_image
set_option maxRecDepth 20000 in
theorem ggL_law_X5_on : GoodIn wsL_law wsX5_on := goodIn_r _ [687, 678, 15, 17, 92, 93, 94, 2, 95, 36, 116, 14, 117, 118, 40, 41, 42, 43, 44, 45, 46, 47, 48, 49, 50, 51, 52, 53, 54, 55, 700, 701, 702, 703, 704, 705, 706, 707, 708, 709, 710, 742, 743, 744, 745, 746, 747, 748, 749, 750, 751, 752, 753, 754, 755, 756, 757] (by decide +kernel) (by decide +kernel)
set_option maxRecDepth 20000 in
theorem gL_law_X5_on : GoodIn wsL_law (wsV RL 108 RX5 yX5_on wsX5_on) := goodIn_app (goodIn_of _ (by decide +kernel)) ggL_law_X5_on
set_option maxRecDepth 20000 in
theorem ggL_law_X6_on : GoodIn wsL_law wsX6_on := goodIn_r _ [691, 683, 79, 319, 108, 109, 110, 5, 111, 78, 322, 323, 324, 325, 73, 74, 75, 81, 82, 83, 84, 211, 85, 86, 212, 87, 320, 321, 213, 711, 712, 713, 714, 715, 716, 717, 718, 719, 720, 721, 722, 723, 724, 725, 726, 727, 728, 729, 730, 731, 732, 733, 734, 735, 736, 737, 738, 739, 740, 741] (by decide +kernel) (by decide +kernel)
set_option maxRecDepth 20000 in
theorem gL_law_X6_on : GoodIn wsL_law (wsV RL 111 RX6 yX6_on wsX6_on) := goodIn_app (goodIn_of _ (by decide +kernel)) ggL_law_X6_on
set_option maxRecDepth 20000 in
theorem ggL_law_X5_count : GoodIn wsL_law wsX5_count := goodIn_r _ [695, 36, 15, 638, 21, 700, 701, 702, 703, 704, 705, 706, 707, 708, 709, 710, 742, 743, 744, 745, 746, 747, 748, 749, 750, 751, 752, 753, 754, 755, 756, 757, 758, 759, 760, 761, 762, 763, 764] (by decide +kernel) (by decide +kernel)
set_option maxRecDepth 20000 in
theorem gL_law_X5_count : GoodIn wsL_law (wsV RL 112 RX5 yX5_count wsX5_count) := goodIn_app (goodIn_of _ (by decide +kernel)) ggL_law_X5_count
set_option maxRecDepth 20000 in
theorem ggL_law_X6_count : GoodIn wsL_law wsX6_count := goodIn_r _ [699, 213, 82, 211, 319, 320, 321, 85, 86, 643, 107, 78, 226, 227, 5, 228, 711, 712, 713, 714, 715, 716, 717, 718, 719, 720, 721, 722, 723, 724, 725, 726, 727, 728, 729, 730, 731, 732, 733, 734, 735, 736, 737, 738, 739, 740, 741] (by decide +kernel) (by decide +kernel)
set_option maxRecDepth 20000 in
theorem gL_law_X6_count : GoodIn wsL_law (wsV RL 115 RX6 yX6_count wsX6_count) := goodIn_app (goodIn_of _ (by decide +kernel)) ggL_law_X6_count

set_option maxRecDepth 20000 in
theorem ghL_law_X6_farthest_0 : GoodIn wsL_law ((wsX6_farthest.drop 0).take 48) := goodIn_r _ [636, 82, 85, 83, 457, 262, 259, 263, 363, 364, 365, 5, 366, 213, 226, 227, 228, 108, 109, 110, 111, 78, 513, 514, 515, 516, 322, 453, 454, 455, 456, 81, 445, 446, 447, 448, 86, 84, 371, 258, 260, 211, 444, 87, 367, 368, 369, 370] (by decide +kernel) (by decide +kernel)
set_option maxRecDepth 20000 in
theorem ghL_law_X6_farthest_1 : GoodIn wsL_law (wsX6_farthest.drop 48) := goodIn_r _ [74, 75, 73, 372, 373, 374, 375, 376, 377, 378, 379, 212, 714, 715, 716, 717, 718, 719, 720, 721, 722, 723, 724, 725, 726, 727, 728, 729, 730, 731, 732, 733, 734, 735, 736, 737, 738, 739, 740, 741, 742, 743, 744] (by decide +kernel) (by decide +kernel)
theorem ggL_law_X6_farthest : GoodIn wsL_law wsX6_farthest := (gg_cut (a := 0) (b := 48) ghL_law_X6_farthest_0 ghL_law_X6_farthest_1)
set_option maxRecDepth 20000 in
theorem gL_law_X6_farthest : GoodIn wsL_law (wsV RL 91 RX6 yX6_farthest wsX6_farthest) := goodIn_app (goodIn_of _ (by decide +kernel)) ggL_law_X6_farthest
set_option maxRecDepth 20000 in
theorem ggL_law_X5_row : GoodIn wsL_law wsX5_row := goodIn_r _ [640, 641, 35, 92, 93, 94, 2, 95, 36, 703, 704, 705, 706, 707, 708, 709, 710, 711, 712, 713] (by decide +kernel) (by decide +kernel)
set_option maxRecDepth 20000 in
theorem gL_law_X5_row : GoodIn wsL_law (wsV RL 92 RX5 yX5_row wsX5_row) := goodIn_app (goodIn_of _ (by decide +kernel)) ggL_law_X5_row
set_option maxRecDepth 20000 in
theorem ggL_law_X6_row : GoodIn wsL_law wsX6_row := goodIn_r _ [645, 646, 77, 108, 109, 110, 5, 111, 78, 714, 715, 716, 717, 718, 719, 720, 721, 722, 723, 724, 725, 726, 727, 728, 729, 730, 731, 732, 733, 734, 735, 736, 737, 738, 739, 740, 741, 742, 743, 744] (by decide +kernel) (by decide +kernel)
set_option maxRecDepth 20000 in
theorem gL_law_X6_row : GoodIn wsL_law (wsV RL 95 RX6 yX6_row wsX6_row) := goodIn_app (goodIn_of _ (by decide +kernel)) ggL_law_X6_row
set_option maxRecDepth 20000 in
theorem ghL_law_X5_judge_0 : GoodIn wsL_law ((wsX5_judge.drop 0).take 48) := goodIn_r _ [650, 16, 15, 641, 35, 116, 14, 117, 118, 40, 41, 42, 43, 44, 45, 46, 47, 48, 49, 50, 51, 52, 53, 54, 55, 651, 652, 653, 2, 654, 395, 396, 397, 398, 333, 334, 335, 399, 400, 401, 402, 462, 463, 464, 465, 25, 403, 24] (by decide +kernel) (by decide +kernel)
set_option maxRecDepth 20000 in
theorem ghL_law_X5_judge_1 : GoodIn wsL_law ((wsX5_judge.drop 48).take 48) := goodIn_r _ [404, 405, 406, 407, 408, 409, 410, 411, 412, 413, 346, 347, 348, 349, 258, 259, 260, 350, 340, 341, 342, 339, 351, 343, 344, 345, 352, 336, 337, 338, 353, 354, 355, 356, 357, 358, 414, 415, 416, 417, 418, 419, 420, 421, 422, 423, 424, 425] (by decide +kernel) (by decide +kernel)
set_option maxRecDepth 20000 in
theorem ghL_law_X5_judge_2 : GoodIn wsL_law ((wsX5_judge.drop 96).take 48) := goodIn_r _ [426, 427, 428, 429, 430, 431, 432, 433, 434, 435, 436, 262, 263, 437, 438, 439, 466, 467, 468, 703, 704, 705, 706, 707, 708, 709, 710, 711, 712, 713, 745, 746, 747, 748, 749, 750, 751, 752, 753, 754, 755, 756, 757, 758, 759, 760, 768, 769] (by decide +kernel) (by decide +kernel)
set_option maxRecDepth 20000 in
theorem ghL_law_X5_judge_3 : GoodIn wsL_law (wsX5_judge.drop 144) := goodIn_r _ [770, 771, 772, 773, 774, 775] (by decide +kernel) (by decide +kernel)
theorem ggL_law_X5_judge : GoodIn wsL_law wsX5_judge := (gg_cut (a := 0) (b := 48) ghL_law_X5_judge_0 (gg_cut (a := 48) (b := 48) ghL_law_X5_judge_1 (gg_cut (a := 96) (b := 48) ghL_law_X5_judge_2 ghL_law_X5_judge_3)))
set_option maxRecDepth 20000 in
theorem gL_law_X5_judge : GoodIn wsL_law (wsV RL 96 RX5 yX5_judge wsX5_judge) := goodIn_app (goodIn_of _ (by decide +kernel)) ggL_law_X5_judge
set_option maxRecDepth 20000 in
theorem ghL_law_X6_judge_0 : GoodIn wsL_law ((wsX6_judge.drop 0).take 48) := goodIn_r _ [658, 646, 80, 77, 318, 319, 320, 5, 321, 73, 74, 75, 81, 82, 83, 84, 211, 85, 86, 212, 87, 322, 323, 324, 213, 363, 364, 365, 366, 226, 227, 228, 449, 450, 451, 452, 473, 474, 475, 476, 453, 454, 455, 456, 445, 446, 447, 448] (by decide +kernel) (by decide +kernel)
set_option maxRecDepth 20000 in
theorem ghL_law_X6_judge_1 : GoodIn wsL_law ((wsX6_judge.drop 48).take 48) := goodIn_r _ [371, 258, 259, 260, 444, 457, 262, 263, 367, 368, 369, 370, 372, 373, 374, 375, 376, 377, 378, 379, 325, 326, 327, 328, 714, 715, 716, 717, 718, 719, 720, 721, 722, 723, 724, 725, 726, 727, 728, 729, 730, 731, 732, 733, 734, 735, 736, 737] (by decide +kernel) (by decide +kernel)
set_option maxRecDepth 20000 in
theorem ghL_law_X6_judge_2 : GoodIn wsL_law (wsX6_judge.drop 96) := goodIn_r _ [738, 739, 740, 741, 742, 743, 744] (by decide +kernel) (by decide +kernel)
theorem ggL_law_X6_judge : GoodIn wsL_law wsX6_judge := (gg_cut (a := 0) (b := 48) ghL_law_X6_judge_0 (gg_cut (a := 48) (b := 48) ghL_law_X6_judge_1 ghL_law_X6_judge_2))
set_option maxRecDepth 20000 in
theorem gL_law_X6_judge : GoodIn wsL_law (wsV RL 99 RX6 yX6_judge wsX6_judge) := goodIn_app (goodIn_of _ (by decide +kernel)) ggL_law_X6_judge
set_option maxRecDepth 20000 in
theorem ghL_law_X5_lots_0 : GoodIn wsL_law ((wsX5_lots.drop 0).take 48) := goodIn_r _ [662, 15, 16, 29, 92, 93, 94, 2, 95, 36, 116, 14, 117, 118, 40, 41, 42, 43, 44, 45, 46, 47, 48, 49, 50, 51, 52, 53, 54, 55, 663, 28, 664, 665, 666, 667, 668, 669, 462, 463, 464, 465, 25, 403, 24, 404, 405, 406] (by decide +kernel) (by decide +kernel)
set_option maxRecDepth 20000 in
theorem ghL_law_X5_lots_1 : GoodIn wsL_law ((wsX5_lots.drop 48).take 48) := goodIn_r _ [407, 408, 409, 410, 411, 412, 413, 346, 347, 348, 349, 258, 259, 260, 350, 340, 341, 342, 339, 333, 334, 335, 351, 343, 344, 345, 352, 336, 337, 338, 353, 354, 355, 356, 357, 358, 414, 415, 416, 417, 418, 419, 420, 421, 422, 423, 424, 425] (by decide +kernel) (by decide +kernel)
set_option maxRecDepth 20000 in
theorem ghL_law_X5_lots_2 : GoodIn wsL_law ((wsX5_lots.drop 96).take 48) := goodIn_r _ [426, 427, 428, 429, 430, 431, 432, 433, 434, 435, 436, 262, 263, 437, 438, 439, 466, 467, 468, 703, 704, 705, 706, 707, 708, 709, 710, 711, 712, 713, 745, 746, 747, 748, 749, 750, 751, 752, 753, 754, 755, 756, 757, 758, 759, 760, 776, 768] (by decide +kernel) (by decide +kernel)
set_option maxRecDepth 20000 in
theorem ghL_law_X5_lots_3 : GoodIn wsL_law (wsX5_lots.drop 144) := goodIn_r _ [769, 770, 771, 772, 773, 774, 775] (by decide +kernel) (by decide +kernel)
theorem ggL_law_X5_lots : GoodIn wsL_law wsX5_lots := (gg_cut (a := 0) (b := 48) ghL_law_X5_lots_0 (gg_cut (a := 48) (b := 48) ghL_law_X5_lots_1 (gg_cut (a := 96) (b := 48) ghL_law_X5_lots_2 ghL_law_X5_lots_3)))
set_option maxRecDepth 20000 in
theorem gL_law_X5_lots : GoodIn wsL_law (wsV RL 100 RX5 yX5_lots wsX5_lots) := goodIn_app (goodIn_of _ (by decide +kernel)) ggL_law_X5_lots
set_option maxRecDepth 20000 in
theorem ghL_law_X6_lots_0 : GoodIn wsL_law ((wsX6_lots.drop 0).take 48) := goodIn_r _ [673, 213, 80, 323, 674, 675, 676, 108, 109, 110, 5, 111, 78, 318, 319, 320, 321, 73, 74, 75, 81, 82, 83, 84, 211, 85, 86, 212, 87, 322, 324, 473, 474, 475, 476, 453, 454, 455, 456, 445, 446, 447, 448, 371, 258, 259, 260, 444] (by decide +kernel) (by decide +kernel)
set_option maxRecDepth 20000 in
theorem ghL_law_X6_lots_1 : GoodIn wsL_law ((wsX6_lots.drop 48).take 48) := goodIn_r _ [457, 262, 263, 367, 368, 369, 370, 226, 227, 228, 372, 373, 374, 375, 376, 377, 378, 379, 325, 326, 327, 328, 714, 715, 716, 717, 718, 719, 720, 721, 722, 723, 724, 725, 726, 727, 728, 729, 730, 731, 732, 733, 734, 735, 736, 737, 738, 739] (by decide +kernel) (by decide +kernel)
set_option maxRecDepth 20000 in
theorem ghL_law_X6_lots_2 : GoodIn wsL_law (wsX6_lots.drop 96) := goodIn_r _ [740, 741, 742, 743, 744] (by decide +kernel) (by decide +kernel)
theorem ggL_law_X6_lots : GoodIn wsL_law wsX6_lots := (gg_cut (a := 0) (b := 48) ghL_law_X6_lots_0 (gg_cut (a := 48) (b := 48) ghL_law_X6_lots_1 ghL_law_X6_lots_2))
set_option maxRecDepth 20000 in
theorem gL_law_X6_lots : GoodIn wsL_law (wsV RL 103 RX6 yX6_lots wsX6_lots) := goodIn_app (goodIn_of _ (by decide +kernel)) ggL_law_X6_lots
set_option maxRecDepth 20000 in
theorem ggL_law_X5_image : GoodIn wsL_law wsX5_image := goodIn_r _ [680, 17, 15, 681, 116, 14, 117, 118, 40, 41, 42, 43, 44, 45, 46, 47, 48, 49, 50, 51, 52, 53, 54, 55, 703, 704, 705, 706, 707, 708, 709, 710, 711, 712, 713, 745, 746, 747, 748, 749, 750, 751, 752, 753, 754, 755, 756, 757, 758, 759, 760] (by decide +kernel) (by decide +kernel)
set_option maxRecDepth 20000 in
theorem gL_law_X5_image : GoodIn wsL_law (wsV RL 104 RX5 yX5_image wsX5_image) := goodIn_app (goodIn_of _ (by decide +kernel)) ggL_law_X5_image
set_option maxRecDepth 20000 in
theorem ggL_law_X6_image : GoodIn wsL_law wsX6_image := goodIn_r _ [685, 686, 79, 322, 318, 319, 320, 5, 321, 73, 74, 75, 81, 82, 83, 84, 211, 85, 86, 212, 87, 323, 324, 213, 714, 715, 716, 717, 718, 719, 720, 721, 722, 723, 724, 725, 726, 727, 728, 729, 730, 731, 732, 733, 734, 735, 736, 737, 738, 739, 740, 741, 742, 743, 744] (by decide +kernel) (by decide +kernel)
set_option maxRecDepth 20000 in
theorem gL_law_X6_image : GoodIn wsL_law (wsV RL 107 RX6 yX6_image wsX6_image) := goodIn_app (goodIn_of _ (by decide +kernel)) ggL_law_X6_image
set_option maxRecDepth 20000 in
theorem ggL_law_X5_on : GoodIn wsL_law wsX5_on := goodIn_r _ [690, 681, 15, 17, 92, 93, 94, 2, 95, 36, 116, 14, 117, 118, 40, 41, 42, 43, 44, 45, 46, 47, 48, 49, 50, 51, 52, 53, 54, 55, 703, 704, 705, 706, 707, 708, 709, 710, 711, 712, 713, 745, 746, 747, 748, 749, 750, 751, 752, 753, 754, 755, 756, 757, 758, 759, 760] (by decide +kernel) (by decide +kernel)
set_option maxRecDepth 20000 in
theorem gL_law_X5_on : GoodIn wsL_law (wsV RL 108 RX5 yX5_on wsX5_on) := goodIn_app (goodIn_of _ (by decide +kernel)) ggL_law_X5_on
set_option maxRecDepth 20000 in
theorem ggL_law_X6_on : GoodIn wsL_law wsX6_on := goodIn_r _ [694, 686, 79, 322, 108, 109, 110, 5, 111, 78, 325, 326, 327, 328, 73, 74, 75, 81, 82, 83, 84, 211, 85, 86, 212, 87, 323, 324, 213, 714, 715, 716, 717, 718, 719, 720, 721, 722, 723, 724, 725, 726, 727, 728, 729, 730, 731, 732, 733, 734, 735, 736, 737, 738, 739, 740, 741, 742, 743, 744] (by decide +kernel) (by decide +kernel)
set_option maxRecDepth 20000 in
theorem gL_law_X6_on : GoodIn wsL_law (wsV RL 111 RX6 yX6_on wsX6_on) := goodIn_app (goodIn_of _ (by decide +kernel)) ggL_law_X6_on
set_option maxRecDepth 20000 in
theorem ggL_law_X5_count : GoodIn wsL_law wsX5_count := goodIn_r _ [698, 36, 15, 641, 21, 703, 704, 705, 706, 707, 708, 709, 710, 711, 712, 713, 745, 746, 747, 748, 749, 750, 751, 752, 753, 754, 755, 756, 757, 758, 759, 760, 761, 762, 763, 764, 765, 766, 767] (by decide +kernel) (by decide +kernel)
set_option maxRecDepth 20000 in
theorem gL_law_X5_count : GoodIn wsL_law (wsV RL 112 RX5 yX5_count wsX5_count) := goodIn_app (goodIn_of _ (by decide +kernel)) ggL_law_X5_count
set_option maxRecDepth 20000 in
theorem ggL_law_X6_count : GoodIn wsL_law wsX6_count := goodIn_r _ [702, 213, 82, 211, 322, 323, 324, 85, 86, 646, 107, 78, 226, 227, 5, 228, 714, 715, 716, 717, 718, 719, 720, 721, 722, 723, 724, 725, 726, 727, 728, 729, 730, 731, 732, 733, 734, 735, 736, 737, 738, 739, 740, 741, 742, 743, 744] (by decide +kernel) (by decide +kernel)
set_option maxRecDepth 20000 in
theorem gL_law_X6_count : GoodIn wsL_law (wsV RL 115 RX6 yX6_count wsX6_count) := goodIn_app (goodIn_of _ (by decide +kernel)) ggL_law_X6_count

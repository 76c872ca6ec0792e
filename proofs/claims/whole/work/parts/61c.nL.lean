set_option maxRecDepth 20000 in
theorem ghL_law_X6_throwIt_0 : GoodIn wsL_law ((wsX6_throwIt.drop 0).take 48) := goodIn_r _ [472, 322, 363, 364, 365, 5, 366, 213, 226, 227, 228, 108, 109, 110, 111, 78, 449, 450, 451, 452, 473, 474, 475, 476, 324, 323, 211, 453, 454, 455, 456, 81, 445, 446, 447, 448, 86, 85, 84, 82, 83, 371, 258, 259, 260, 444, 457, 262] (by decide +kernel) (by decide +kernel)
set_option maxRecDepth 20000 in
theorem ghL_law_X6_throwIt_1 : GoodIn wsL_law ((wsX6_throwIt.drop 48).take 48) := goodIn_r _ [263, 87, 367, 368, 369, 370, 74, 75, 73, 372, 373, 374, 375, 376, 377, 378, 379, 212, 714, 715, 716, 717, 718, 719, 720, 721, 722, 723, 724, 725, 726, 727, 728, 729, 730, 731, 732, 733, 734, 735, 736, 737, 738, 739, 740, 741, 742, 743] (by decide +kernel) (by decide +kernel)
set_option maxRecDepth 20000 in
theorem ghL_law_X6_throwIt_2 : GoodIn wsL_law (wsX6_throwIt.drop 96) := goodIn_r _ [744] (by decide +kernel) (by decide +kernel)
theorem ggL_law_X6_throwIt : GoodIn wsL_law wsX6_throwIt := (gg_cut (a := 0) (b := 48) ghL_law_X6_throwIt_0 (gg_cut (a := 48) (b := 48) ghL_law_X6_throwIt_1 ghL_law_X6_throwIt_2))
set_option maxRecDepth 20000 in
theorem gL_law_X6_throwIt : GoodIn wsL_law (wsV RL 41 RX6 yX6_throwIt wsX6_throwIt) := goodIn_app (goodIn_of _ (by decide +kernel)) ggL_law_X6_throwIt
set_option maxRecDepth 20000 in
theorem ggL_law_X5_pass : GoodIn wsL_law wsX5_pass := goodIn_r _ [480, 15, 92, 93, 94, 2, 95, 36, 703, 704, 705, 706, 707, 708, 709, 710, 711, 712, 713, 745, 746, 747, 748, 749, 750, 751, 752, 753, 754, 755, 756, 757, 758, 759, 760] (by decide +kernel) (by decide +kernel)
set_option maxRecDepth 20000 in
theorem gL_law_X5_pass : GoodIn wsL_law (wsV RL 42 RX5 yX5_pass wsX5_pass) := goodIn_app (goodIn_of _ (by decide +kernel)) ggL_law_X5_pass
set_option maxRecDepth 20000 in
theorem ggL_law_X6_pass : GoodIn wsL_law wsX6_pass := goodIn_r _ [484, 322, 108, 109, 110, 5, 111, 78, 714, 715, 716, 717, 718, 719, 720, 721, 722, 723, 724, 725, 726, 727, 728, 729, 730, 731, 732, 733, 734, 735, 736, 737, 738, 739, 740, 741, 742, 743, 744] (by decide +kernel) (by decide +kernel)
set_option maxRecDepth 20000 in
theorem gL_law_X6_pass : GoodIn wsL_law (wsV RL 45 RX6 yX6_pass wsX6_pass) := goodIn_app (goodIn_of _ (by decide +kernel)) ggL_law_X6_pass
set_option maxRecDepth 20000 in
theorem ggL_law_X5_clearBin : GoodIn wsL_law wsX5_clearBin := goodIn_r _ [488, 15, 703, 704, 705, 706, 707, 708, 709, 710, 711, 712, 713, 745, 746, 747, 748, 749, 750, 751, 752, 753, 754, 755, 756, 757, 758, 759, 760] (by decide +kernel) (by decide +kernel)
set_option maxRecDepth 20000 in
theorem gL_law_X5_clearBin : GoodIn wsL_law (wsV RL 46 RX5 yX5_clearBin wsX5_clearBin) := goodIn_app (goodIn_of _ (by decide +kernel)) ggL_law_X5_clearBin
set_option maxRecDepth 20000 in
theorem ggL_law_X6_clearBin : GoodIn wsL_law wsX6_clearBin := goodIn_r _ [492, 211, 714, 715, 716, 717, 718, 719, 720, 721, 722, 723, 724, 725, 726, 727, 728, 729, 730, 731, 732, 733, 734, 735, 736, 737, 738, 739, 740, 741, 742, 743, 744] (by decide +kernel) (by decide +kernel)
set_option maxRecDepth 20000 in
theorem gL_law_X6_clearBin : GoodIn wsL_law (wsV RL 49 RX6 yX6_clearBin wsX6_clearBin) := goodIn_app (goodIn_of _ (by decide +kernel)) ggL_law_X6_clearBin
set_option maxRecDepth 20000 in
theorem ghL_law_X5_good_0 : GoodIn wsL_law ((wsX5_good.drop 0).take 48) := goodIn_r _ [496, 395, 396, 397, 2, 398, 15, 333, 14, 334, 335, 52, 399, 400, 401, 402, 92, 93, 94, 95, 36, 497, 498, 499, 500, 501, 502, 503, 504, 25, 403, 24, 404, 405, 406, 407, 408, 409, 410, 411, 412, 413, 346, 347, 348, 349, 258, 259] (by decide +kernel) (by decide +kernel)
set_option maxRecDepth 20000 in
theorem ghL_law_X5_good_1 : GoodIn wsL_law ((wsX5_good.drop 48).take 48) := goodIn_r _ [260, 350, 340, 341, 342, 54, 339, 351, 343, 344, 345, 55, 352, 336, 337, 338, 53, 353, 354, 355, 356, 357, 358, 47, 414, 415, 416, 417, 418, 419, 420, 421, 422, 423, 424, 425, 426, 427, 428, 429, 41, 42, 430, 431, 432, 433, 434, 435] (by decide +kernel) (by decide +kernel)
set_option maxRecDepth 20000 in
theorem ghL_law_X5_good_2 : GoodIn wsL_law (wsX5_good.drop 96) := goodIn_r _ [436, 262, 263, 437, 438, 439, 48, 703, 704, 705, 706, 707, 708, 709, 710, 711, 712, 713, 745, 746, 747, 748, 749, 750, 751, 752, 753, 754, 755, 756, 757, 758, 759, 760, 768, 769, 770, 771, 772, 773, 774, 775] (by decide +kernel) (by decide +kernel)
theorem ggL_law_X5_good : GoodIn wsL_law wsX5_good := (gg_cut (a := 0) (b := 48) ghL_law_X5_good_0 (gg_cut (a := 48) (b := 48) ghL_law_X5_good_1 ghL_law_X5_good_2))
set_option maxRecDepth 20000 in
theorem gL_law_X5_good : GoodIn wsL_law (wsV RL 50 RX5 yX5_good wsX5_good) := goodIn_app (goodIn_of _ (by decide +kernel)) ggL_law_X5_good
set_option maxRecDepth 20000 in
theorem ghL_law_X6_good_0 : GoodIn wsL_law ((wsX6_good.drop 0).take 48) := goodIn_r _ [508, 363, 364, 365, 5, 366, 213, 226, 227, 228, 108, 109, 110, 111, 78, 449, 450, 451, 452, 509, 510, 511, 512, 513, 514, 515, 516, 322, 453, 454, 455, 456, 81, 445, 446, 447, 448, 86, 85, 84, 82, 83, 371, 258, 259, 260, 211, 444] (by decide +kernel) (by decide +kernel)
set_option maxRecDepth 20000 in
theorem ghL_law_X6_good_1 : GoodIn wsL_law ((wsX6_good.drop 48).take 48) := goodIn_r _ [457, 262, 263, 87, 367, 368, 369, 370, 74, 75, 73, 372, 373, 374, 375, 376, 377, 378, 379, 212, 714, 715, 716, 717, 718, 719, 720, 721, 722, 723, 724, 725, 726, 727, 728, 729, 730, 731, 732, 733, 734, 735, 736, 737, 738, 739, 740, 741] (by decide +kernel) (by decide +kernel)
set_option maxRecDepth 20000 in
theorem ghL_law_X6_good_2 : GoodIn wsL_law (wsX6_good.drop 96) := goodIn_r _ [742, 743, 744] (by decide +kernel) (by decide +kernel)
theorem ggL_law_X6_good : GoodIn wsL_law wsX6_good := (gg_cut (a := 0) (b := 48) ghL_law_X6_good_0 (gg_cut (a := 48) (b := 48) ghL_law_X6_good_1 ghL_law_X6_good_2))
set_option maxRecDepth 20000 in
theorem gL_law_X6_good : GoodIn wsL_law (wsV RL 53 RX6 yX6_good wsX6_good) := goodIn_app (goodIn_of _ (by decide +kernel)) ggL_law_X6_good
set_option maxRecDepth 20000 in
theorem ghL_law_X5_best_0 : GoodIn wsL_law ((wsX5_best.drop 0).take 48) := goodIn_r _ [520, 521, 522, 523, 2, 524, 15, 333, 14, 334, 335, 52, 92, 93, 94, 95, 36, 497, 498, 499, 500, 501, 502, 503, 504, 25, 403, 24, 404, 405, 406, 407, 408, 409, 410, 411, 412, 413, 346, 347, 348, 349, 258, 259, 260, 350, 340, 341] (by decide +kernel) (by decide +kernel)
set_option maxRecDepth 20000 in
theorem ghL_law_X5_best_1 : GoodIn wsL_law ((wsX5_best.drop 48).take 48) := goodIn_r _ [342, 54, 339, 351, 343, 344, 345, 55, 352, 336, 337, 338, 53, 353, 354, 355, 356, 357, 358, 47, 414, 415, 416, 417, 418, 419, 420, 421, 422, 423, 424, 425, 426, 427, 428, 429, 41, 42, 430, 431, 432, 433, 434, 435, 436, 262, 263, 437] (by decide +kernel) (by decide +kernel)
set_option maxRecDepth 20000 in
theorem ghL_law_X5_best_2 : GoodIn wsL_law (wsX5_best.drop 96) := goodIn_r _ [438, 439, 48, 703, 704, 705, 706, 707, 708, 709, 710, 711, 712, 713, 745, 746, 747, 748, 749, 750, 751, 752, 753, 754, 755, 756, 757, 758, 759, 760, 768, 769, 770, 771, 772, 773, 774, 775] (by decide +kernel) (by decide +kernel)
theorem ggL_law_X5_best : GoodIn wsL_law wsX5_best := (gg_cut (a := 0) (b := 48) ghL_law_X5_best_0 (gg_cut (a := 48) (b := 48) ghL_law_X5_best_1 ghL_law_X5_best_2))
set_option maxRecDepth 20000 in
theorem gL_law_X5_best : GoodIn wsL_law (wsV RL 54 RX5 yX5_best wsX5_best) := goodIn_app (goodIn_of _ (by decide +kernel)) ggL_law_X5_best
set_option maxRecDepth 20000 in
theorem ghL_law_X6_best_0 : GoodIn wsL_law ((wsX6_best.drop 0).take 48) := goodIn_r _ [528, 363, 364, 365, 5, 366, 213, 226, 227, 228, 108, 109, 110, 111, 78, 509, 510, 511, 512, 513, 514, 515, 516, 322, 453, 454, 455, 456, 81, 445, 446, 447, 448, 86, 85, 84, 82, 83, 371, 258, 259, 260, 211, 444, 457, 262, 263, 87] (by decide +kernel) (by decide +kernel)
set_option maxRecDepth 20000 in
theorem ghL_law_X6_best_1 : GoodIn wsL_law (wsX6_best.drop 48) := goodIn_r _ [367, 368, 369, 370, 74, 75, 73, 372, 373, 374, 375, 376, 377, 378, 379, 212, 714, 715, 716, 717, 718, 719, 720, 721, 722, 723, 724, 725, 726, 727, 728, 729, 730, 731, 732, 733, 734, 735, 736, 737, 738, 739, 740, 741, 742, 743, 744] (by decide +kernel) (by decide +kernel)
theorem ggL_law_X6_best : GoodIn wsL_law wsX6_best := (gg_cut (a := 0) (b := 48) ghL_law_X6_best_0 ghL_law_X6_best_1)
set_option maxRecDepth 20000 in
theorem gL_law_X6_best : GoodIn wsL_law (wsV RL 57 RX6 yX6_best wsX6_best) := goodIn_app (goodIn_of _ (by decide +kernel)) ggL_law_X6_best
set_option maxRecDepth 20000 in
theorem ghL_law_X5_off_0 : GoodIn wsL_law ((wsX5_off.drop 0).take 48) := goodIn_r _ [532, 15, 521, 522, 523, 2, 524, 333, 14, 334, 335, 52, 92, 93, 94, 95, 36, 501, 502, 503, 504, 25, 403, 24, 404, 405, 406, 407, 408, 409, 410, 411, 412, 413, 346, 347, 348, 349, 258, 259, 260, 350, 340, 341, 342, 54, 339, 351] (by decide +kernel) (by decide +kernel)
set_option maxRecDepth 20000 in
theorem ghL_law_X5_off_1 : GoodIn wsL_law ((wsX5_off.drop 48).take 48) := goodIn_r _ [343, 344, 345, 55, 352, 336, 337, 338, 53, 353, 354, 355, 356, 357, 358, 47, 414, 415, 416, 417, 418, 419, 420, 421, 422, 423, 424, 425, 426, 427, 428, 429, 41, 42, 430, 431, 432, 433, 434, 435, 436, 262, 263, 437, 438, 439, 48, 533] (by decide +kernel) (by decide +kernel)
set_option maxRecDepth 20000 in
theorem ghL_law_X5_off_2 : GoodIn wsL_law (wsX5_off.drop 96) := goodIn_r _ [534, 535, 536, 703, 704, 705, 706, 707, 708, 709, 710, 711, 712, 713, 745, 746, 747, 748, 749, 750, 751, 752, 753, 754, 755, 756, 757, 758, 759, 760, 768, 769, 770, 771, 772, 773, 774, 775] (by decide +kernel) (by decide +kernel)
theorem ggL_law_X5_off : GoodIn wsL_law wsX5_off := (gg_cut (a := 0) (b := 48) ghL_law_X5_off_0 (gg_cut (a := 48) (b := 48) ghL_law_X5_off_1 ghL_law_X5_off_2))
set_option maxRecDepth 20000 in
theorem gL_law_X5_off : GoodIn wsL_law (wsV RL 58 RX5 yX5_off wsX5_off) := goodIn_app (goodIn_of _ (by decide +kernel)) ggL_law_X5_off
set_option maxRecDepth 20000 in
theorem ghL_law_X6_off_0 : GoodIn wsL_law ((wsX6_off.drop 0).take 48) := goodIn_r _ [540, 448, 363, 364, 365, 5, 366, 213, 226, 227, 228, 108, 109, 110, 111, 78, 513, 514, 515, 516, 322, 453, 454, 455, 456, 81, 445, 446, 447, 86, 85, 84, 82, 83, 371, 258, 259, 260, 211, 444, 457, 262, 263, 87, 367, 368, 369, 370] (by decide +kernel) (by decide +kernel)
set_option maxRecDepth 20000 in
theorem ghL_law_X6_off_1 : GoodIn wsL_law (wsX6_off.drop 48) := goodIn_r _ [74, 75, 73, 372, 373, 374, 375, 376, 377, 378, 379, 212, 714, 715, 716, 717, 718, 719, 720, 721, 722, 723, 724, 725, 726, 727, 728, 729, 730, 731, 732, 733, 734, 735, 736, 737, 738, 739, 740, 741, 742, 743, 744] (by decide +kernel) (by decide +kernel)
theorem ggL_law_X6_off : GoodIn wsL_law wsX6_off := (gg_cut (a := 0) (b := 48) ghL_law_X6_off_0 ghL_law_X6_off_1)
set_option maxRecDepth 20000 in
theorem gL_law_X6_off : GoodIn wsL_law (wsV RL 61 RX6 yX6_off wsX6_off) := goodIn_app (goodIn_of _ (by decide +kernel)) ggL_law_X6_off
set_option maxRecDepth 20000 in
theorem ghL_law_X5_when_0 : GoodIn wsL_law ((wsX5_when.drop 0).take 48) := goodIn_r _ [544, 16, 15, 395, 396, 397, 2, 398, 333, 14, 334, 335, 52, 399, 400, 401, 402, 92, 93, 94, 95, 36, 116, 117, 118, 40, 41, 42, 43, 44, 45, 46, 47, 48, 49, 50, 51, 53, 54, 55, 501, 502, 503, 504, 25, 403, 24, 404] (by decide +kernel) (by decide +kernel)
set_option maxRecDepth 20000 in
theorem ghL_law_X5_when_1 : GoodIn wsL_law ((wsX5_when.drop 48).take 48) := goodIn_r _ [405, 406, 407, 408, 409, 410, 411, 412, 413, 346, 347, 348, 349, 258, 259, 260, 350, 340, 341, 342, 339, 351, 343, 344, 345, 352, 336, 337, 338, 353, 354, 355, 356, 357, 358, 414, 415, 416, 417, 418, 419, 420, 421, 422, 423, 424, 425, 426] (by decide +kernel) (by decide +kernel)
set_option maxRecDepth 20000 in
theorem ghL_law_X5_when_2 : GoodIn wsL_law ((wsX5_when.drop 96).take 48) := goodIn_r _ [427, 428, 429, 430, 431, 432, 433, 434, 435, 436, 262, 263, 437, 438, 439, 703, 704, 705, 706, 707, 708, 709, 710, 711, 712, 713, 745, 746, 747, 748, 749, 750, 751, 752, 753, 754, 755, 756, 757, 758, 759, 760, 768, 769, 770, 771, 772, 773] (by decide +kernel) (by decide +kernel)
set_option maxRecDepth 20000 in
theorem ghL_law_X5_when_3 : GoodIn wsL_law (wsX5_when.drop 144) := goodIn_r _ [774, 775] (by decide +kernel) (by decide +kernel)
theorem ggL_law_X5_when : GoodIn wsL_law wsX5_when := (gg_cut (a := 0) (b := 48) ghL_law_X5_when_0 (gg_cut (a := 48) (b := 48) ghL_law_X5_when_1 (gg_cut (a := 96) (b := 48) ghL_law_X5_when_2 ghL_law_X5_when_3)))
set_option maxRecDepth 20000 in
theorem gL_law_X5_when : GoodIn wsL_law (wsV RL 62 RX5 yX5_when wsX5_when) := goodIn_app (goodIn_of _ (by decide +kernel)) ggL_law_X5_when

set_option maxRecDepth 20000 in
theorem ghL_law_X6_throwIt_0 : GoodIn wsL_law ((wsX6_throwIt.drop 0).take 48) := goodIn_r _ [469, 319, 360, 361, 362, 5, 363, 213, 226, 227, 228, 108, 109, 110, 111, 78, 446, 447, 448, 449, 470, 471, 472, 473, 321, 320, 211, 450, 451, 452, 453, 81, 442, 443, 444, 445, 86, 85, 84, 82, 83, 368, 146, 147, 148, 441, 454, 259] (by decide +kernel) (by decide +kernel)
set_option maxRecDepth 20000 in
theorem ghL_law_X6_throwIt_1 : GoodIn wsL_law ((wsX6_throwIt.drop 48).take 48) := goodIn_r _ [260, 87, 364, 365, 366, 367, 74, 75, 73, 369, 370, 371, 372, 373, 374, 375, 376, 212, 711, 712, 713, 714, 715, 716, 717, 718, 719, 720, 721, 722, 723, 724, 725, 726, 727, 728, 729, 730, 731, 732, 733, 734, 735, 736, 737, 738, 739, 740] (by decide +kernel) (by decide +kernel)
set_option maxRecDepth 20000 in
theorem ghL_law_X6_throwIt_2 : GoodIn wsL_law (wsX6_throwIt.drop 96) := goodIn_r _ [741] (by decide +kernel) (by decide +kernel)
theorem ggL_law_X6_throwIt : GoodIn wsL_law wsX6_throwIt := (gg_cut (a := 0) (b := 48) ghL_law_X6_throwIt_0 (gg_cut (a := 48) (b := 48) ghL_law_X6_throwIt_1 ghL_law_X6_throwIt_2))
set_option maxRecDepth 20000 in
theorem gL_law_X6_throwIt : GoodIn wsL_law (wsV RL 41 RX6 yX6_throwIt wsX6_throwIt) := goodIn_app (goodIn_of _ (by decide +kernel)) ggL_law_X6_throwIt
set_option maxRecDepth 20000 in
theorem ggL_law_X5_pass : GoodIn wsL_law wsX5_pass := goodIn_r _ [477, 15, 92, 93, 94, 2, 95, 36, 700, 701, 702, 703, 704, 705, 706, 707, 708, 709, 710, 742, 743, 744, 745, 746, 747, 748, 749, 750, 751, 752, 753, 754, 755, 756, 757] (by decide +kernel) (by decide +kernel)
set_option maxRecDepth 20000 in
theorem gL_law_X5_pass : GoodIn wsL_law (wsV RL 42 RX5 yX5_pass wsX5_pass) := goodIn_app (goodIn_of _ (by decide +kernel)) ggL_law_X5_pass
set_option maxRecDepth 20000 in
theorem ggL_law_X6_pass : GoodIn wsL_law wsX6_pass := goodIn_r _ [481, 319, 108, 109, 110, 5, 111, 78, 711, 712, 713, 714, 715, 716, 717, 718, 719, 720, 721, 722, 723, 724, 725, 726, 727, 728, 729, 730, 731, 732, 733, 734, 735, 736, 737, 738, 739, 740, 741] (by decide +kernel) (by decide +kernel)
set_option maxRecDepth 20000 in
theorem gL_law_X6_pass : GoodIn wsL_law (wsV RL 45 RX6 yX6_pass wsX6_pass) := goodIn_app (goodIn_of _ (by decide +kernel)) ggL_law_X6_pass
set_option maxRecDepth 20000 in
theorem ggL_law_X5_clearBin : GoodIn wsL_law wsX5_clearBin := goodIn_r _ [485, 15, 700, 701, 702, 703, 704, 705, 706, 707, 708, 709, 710, 742, 743, 744, 745, 746, 747, 748, 749, 750, 751, 752, 753, 754, 755, 756, 757] (by decide +kernel) (by decide +kernel)
set_option maxRecDepth 20000 in
theorem gL_law_X5_clearBin : GoodIn wsL_law (wsV RL 46 RX5 yX5_clearBin wsX5_clearBin) := goodIn_app (goodIn_of _ (by decide +kernel)) ggL_law_X5_clearBin
set_option maxRecDepth 20000 in
theorem ggL_law_X6_clearBin : GoodIn wsL_law wsX6_clearBin := goodIn_r _ [489, 211, 711, 712, 713, 714, 715, 716, 717, 718, 719, 720, 721, 722, 723, 724, 725, 726, 727, 728, 729, 730, 731, 732, 733, 734, 735, 736, 737, 738, 739, 740, 741] (by decide +kernel) (by decide +kernel)
set_option maxRecDepth 20000 in
theorem gL_law_X6_clearBin : GoodIn wsL_law (wsV RL 49 RX6 yX6_clearBin wsX6_clearBin) := goodIn_app (goodIn_of _ (by decide +kernel)) ggL_law_X6_clearBin
set_option maxRecDepth 20000 in
theorem ghL_law_X5_good_0 : GoodIn wsL_law ((wsX5_good.drop 0).take 48) := goodIn_r _ [493, 392, 393, 394, 2, 395, 15, 330, 14, 331, 332, 52, 396, 397, 398, 399, 92, 93, 94, 95, 36, 494, 495, 496, 497, 498, 499, 500, 501, 25, 400, 24, 401, 402, 403, 404, 405, 406, 407, 408, 409, 410, 343, 344, 345, 346, 146, 147] (by decide +kernel) (by decide +kernel)
set_option maxRecDepth 20000 in
theorem ghL_law_X5_good_1 : GoodIn wsL_law ((wsX5_good.drop 48).take 48) := goodIn_r _ [148, 347, 337, 338, 339, 54, 336, 348, 340, 341, 342, 55, 349, 333, 334, 335, 53, 350, 351, 352, 353, 354, 355, 47, 411, 412, 413, 414, 415, 416, 417, 418, 419, 420, 421, 422, 423, 424, 425, 426, 41, 42, 427, 428, 429, 430, 431, 432] (by decide +kernel) (by decide +kernel)
set_option maxRecDepth 20000 in
theorem ghL_law_X5_good_2 : GoodIn wsL_law (wsX5_good.drop 96) := goodIn_r _ [433, 259, 260, 434, 435, 436, 48, 700, 701, 702, 703, 704, 705, 706, 707, 708, 709, 710, 742, 743, 744, 745, 746, 747, 748, 749, 750, 751, 752, 753, 754, 755, 756, 757, 765, 766, 767, 768, 769, 770, 771, 772] (by decide +kernel) (by decide +kernel)
theorem ggL_law_X5_good : GoodIn wsL_law wsX5_good := (gg_cut (a := 0) (b := 48) ghL_law_X5_good_0 (gg_cut (a := 48) (b := 48) ghL_law_X5_good_1 ghL_law_X5_good_2))
set_option maxRecDepth 20000 in
theorem gL_law_X5_good : GoodIn wsL_law (wsV RL 50 RX5 yX5_good wsX5_good) := goodIn_app (goodIn_of _ (by decide +kernel)) ggL_law_X5_good
set_option maxRecDepth 20000 in
theorem ghL_law_X6_good_0 : GoodIn wsL_law ((wsX6_good.drop 0).take 48) := goodIn_r _ [505, 360, 361, 362, 5, 363, 213, 226, 227, 228, 108, 109, 110, 111, 78, 446, 447, 448, 449, 506, 507, 508, 509, 510, 511, 512, 513, 319, 450, 451, 452, 453, 81, 442, 443, 444, 445, 86, 85, 84, 82, 83, 368, 146, 147, 148, 211, 441] (by decide +kernel) (by decide +kernel)
set_option maxRecDepth 20000 in
theorem ghL_law_X6_good_1 : GoodIn wsL_law ((wsX6_good.drop 48).take 48) := goodIn_r _ [454, 259, 260, 87, 364, 365, 366, 367, 74, 75, 73, 369, 370, 371, 372, 373, 374, 375, 376, 212, 711, 712, 713, 714, 715, 716, 717, 718, 719, 720, 721, 722, 723, 724, 725, 726, 727, 728, 729, 730, 731, 732, 733, 734, 735, 736, 737, 738] (by decide +kernel) (by decide +kernel)
set_option maxRecDepth 20000 in
theorem ghL_law_X6_good_2 : GoodIn wsL_law (wsX6_good.drop 96) := goodIn_r _ [739, 740, 741] (by decide +kernel) (by decide +kernel)
theorem ggL_law_X6_good : GoodIn wsL_law wsX6_good := (gg_cut (a := 0) (b := 48) ghL_law_X6_good_0 (gg_cut (a := 48) (b := 48) ghL_law_X6_good_1 ghL_law_X6_good_2))
set_option maxRecDepth 20000 in
theorem gL_law_X6_good : GoodIn wsL_law (wsV RL 53 RX6 yX6_good wsX6_good) := goodIn_app (goodIn_of _ (by decide +kernel)) ggL_law_X6_good
set_option maxRecDepth 20000 in
theorem ghL_law_X5_best_0 : GoodIn wsL_law ((wsX5_best.drop 0).take 48) := goodIn_r _ [517, 518, 519, 520, 2, 521, 15, 330, 14, 331, 332, 52, 92, 93, 94, 95, 36, 494, 495, 496, 497, 498, 499, 500, 501, 25, 400, 24, 401, 402, 403, 404, 405, 406, 407, 408, 409, 410, 343, 344, 345, 346, 146, 147, 148, 347, 337, 338] (by decide +kernel) (by decide +kernel)
set_option maxRecDepth 20000 in
theorem ghL_law_X5_best_1 : GoodIn wsL_law ((wsX5_best.drop 48).take 48) := goodIn_r _ [339, 54, 336, 348, 340, 341, 342, 55, 349, 333, 334, 335, 53, 350, 351, 352, 353, 354, 355, 47, 411, 412, 413, 414, 415, 416, 417, 418, 419, 420, 421, 422, 423, 424, 425, 426, 41, 42, 427, 428, 429, 430, 431, 432, 433, 259, 260, 434] (by decide +kernel) (by decide +kernel)
set_option maxRecDepth 20000 in
theorem ghL_law_X5_best_2 : GoodIn wsL_law (wsX5_best.drop 96) := goodIn_r _ [435, 436, 48, 700, 701, 702, 703, 704, 705, 706, 707, 708, 709, 710, 742, 743, 744, 745, 746, 747, 748, 749, 750, 751, 752, 753, 754, 755, 756, 757, 765, 766, 767, 768, 769, 770, 771, 772] (by decide +kernel) (by decide +kernel)
theorem ggL_law_X5_best : GoodIn wsL_law wsX5_best := (gg_cut (a := 0) (b := 48) ghL_law_X5_best_0 (gg_cut (a := 48) (b := 48) ghL_law_X5_best_1 ghL_law_X5_best_2))
set_option maxRecDepth 20000 in
theorem gL_law_X5_best : GoodIn wsL_law (wsV RL 54 RX5 yX5_best wsX5_best) := goodIn_app (goodIn_of _ (by decide +kernel)) ggL_law_X5_best
set_option maxRecDepth 20000 in
theorem ghL_law_X6_best_0 : GoodIn wsL_law ((wsX6_best.drop 0).take 48) := goodIn_r _ [525, 360, 361, 362, 5, 363, 213, 226, 227, 228, 108, 109, 110, 111, 78, 506, 507, 508, 509, 510, 511, 512, 513, 319, 450, 451, 452, 453, 81, 442, 443, 444, 445, 86, 85, 84, 82, 83, 368, 146, 147, 148, 211, 441, 454, 259, 260, 87] (by decide +kernel) (by decide +kernel)
set_option maxRecDepth 20000 in
theorem ghL_law_X6_best_1 : GoodIn wsL_law (wsX6_best.drop 48) := goodIn_r _ [364, 365, 366, 367, 74, 75, 73, 369, 370, 371, 372, 373, 374, 375, 376, 212, 711, 712, 713, 714, 715, 716, 717, 718, 719, 720, 721, 722, 723, 724, 725, 726, 727, 728, 729, 730, 731, 732, 733, 734, 735, 736, 737, 738, 739, 740, 741] (by decide +kernel) (by decide +kernel)
theorem ggL_law_X6_best : GoodIn wsL_law wsX6_best := (gg_cut (a := 0) (b := 48) ghL_law_X6_best_0 ghL_law_X6_best_1)
set_option maxRecDepth 20000 in
theorem gL_law_X6_best : GoodIn wsL_law (wsV RL 57 RX6 yX6_best wsX6_best) := goodIn_app (goodIn_of _ (by decide +kernel)) ggL_law_X6_best
set_option maxRecDepth 20000 in
theorem ghL_law_X5_off_0 : GoodIn wsL_law ((wsX5_off.drop 0).take 48) := goodIn_r _ [529, 15, 518, 519, 520, 2, 521, 330, 14, 331, 332, 52, 92, 93, 94, 95, 36, 498, 499, 500, 501, 25, 400, 24, 401, 402, 403, 404, 405, 406, 407, 408, 409, 410, 343, 344, 345, 346, 146, 147, 148, 347, 337, 338, 339, 54, 336, 348] (by decide +kernel) (by decide +kernel)
set_option maxRecDepth 20000 in
theorem ghL_law_X5_off_1 : GoodIn wsL_law ((wsX5_off.drop 48).take 48) := goodIn_r _ [340, 341, 342, 55, 349, 333, 334, 335, 53, 350, 351, 352, 353, 354, 355, 47, 411, 412, 413, 414, 415, 416, 417, 418, 419, 420, 421, 422, 423, 424, 425, 426, 41, 42, 427, 428, 429, 430, 431, 432, 433, 259, 260, 434, 435, 436, 48, 530] (by decide +kernel) (by decide +kernel)
set_option maxRecDepth 20000 in
theorem ghL_law_X5_off_2 : GoodIn wsL_law (wsX5_off.drop 96) := goodIn_r _ [531, 532, 533, 700, 701, 702, 703, 704, 705, 706, 707, 708, 709, 710, 742, 743, 744, 745, 746, 747, 748, 749, 750, 751, 752, 753, 754, 755, 756, 757, 765, 766, 767, 768, 769, 770, 771, 772] (by decide +kernel) (by decide +kernel)
theorem ggL_law_X5_off : GoodIn wsL_law wsX5_off := (gg_cut (a := 0) (b := 48) ghL_law_X5_off_0 (gg_cut (a := 48) (b := 48) ghL_law_X5_off_1 ghL_law_X5_off_2))
set_option maxRecDepth 20000 in
theorem gL_law_X5_off : GoodIn wsL_law (wsV RL 58 RX5 yX5_off wsX5_off) := goodIn_app (goodIn_of _ (by decide +kernel)) ggL_law_X5_off
set_option maxRecDepth 20000 in
theorem ghL_law_X6_off_0 : GoodIn wsL_law ((wsX6_off.drop 0).take 48) := goodIn_r _ [537, 445, 360, 361, 362, 5, 363, 213, 226, 227, 228, 108, 109, 110, 111, 78, 510, 511, 512, 513, 319, 450, 451, 452, 453, 81, 442, 443, 444, 86, 85, 84, 82, 83, 368, 146, 147, 148, 211, 441, 454, 259, 260, 87, 364, 365, 366, 367] (by decide +kernel) (by decide +kernel)
set_option maxRecDepth 20000 in
theorem ghL_law_X6_off_1 : GoodIn wsL_law (wsX6_off.drop 48) := goodIn_r _ [74, 75, 73, 369, 370, 371, 372, 373, 374, 375, 376, 212, 711, 712, 713, 714, 715, 716, 717, 718, 719, 720, 721, 722, 723, 724, 725, 726, 727, 728, 729, 730, 731, 732, 733, 734, 735, 736, 737, 738, 739, 740, 741] (by decide +kernel) (by decide +kernel)
theorem ggL_law_X6_off : GoodIn wsL_law wsX6_off := (gg_cut (a := 0) (b := 48) ghL_law_X6_off_0 ghL_law_X6_off_1)
set_option maxRecDepth 20000 in
theorem gL_law_X6_off : GoodIn wsL_law (wsV RL 61 RX6 yX6_off wsX6_off) := goodIn_app (goodIn_of _ (by decide +kernel)) ggL_law_X6_off
set_option maxRecDepth 20000 in
theorem ghL_law_X5_when_0 : GoodIn wsL_law ((wsX5_when.drop 0).take 48) := goodIn_r _ [541, 16, 15, 392, 393, 394, 2, 395, 330, 14, 331, 332, 52, 396, 397, 398, 399, 92, 93, 94, 95, 36, 116, 117, 118, 40, 41, 42, 43, 44, 45, 46, 47, 48, 49, 50, 51, 53, 54, 55, 498, 499, 500, 501, 25, 400, 24, 401] (by decide +kernel) (by decide +kernel)
set_option maxRecDepth 20000 in
theorem ghL_law_X5_when_1 : GoodIn wsL_law ((wsX5_when.drop 48).take 48) := goodIn_r _ [402, 403, 404, 405, 406, 407, 408, 409, 410, 343, 344, 345, 346, 146, 147, 148, 347, 337, 338, 339, 336, 348, 340, 341, 342, 349, 333, 334, 335, 350, 351, 352, 353, 354, 355, 411, 412, 413, 414, 415, 416, 417, 418, 419, 420, 421, 422, 423] (by decide +kernel) (by decide +kernel)
set_option maxRecDepth 20000 in
theorem ghL_law_X5_when_2 : GoodIn wsL_law ((wsX5_when.drop 96).take 48) := goodIn_r _ [424, 425, 426, 427, 428, 429, 430, 431, 432, 433, 259, 260, 434, 435, 436, 700, 701, 702, 703, 704, 705, 706, 707, 708, 709, 710, 742, 743, 744, 745, 746, 747, 748, 749, 750, 751, 752, 753, 754, 755, 756, 757, 765, 766, 767, 768, 769, 770] (by decide +kernel) (by decide +kernel)
set_option maxRecDepth 20000 in
theorem ghL_law_X5_when_3 : GoodIn wsL_law (wsX5_when.drop 144) := goodIn_r _ [771, 772] (by decide +kernel) (by decide +kernel)
theorem ggL_law_X5_when : GoodIn wsL_law wsX5_when := (gg_cut (a := 0) (b := 48) ghL_law_X5_when_0 (gg_cut (a := 48) (b := 48) ghL_law_X5_when_1 (gg_cut (a := 96) (b := 48) ghL_law_X5_when_2 ghL_law_X5_when_3)))
set_option maxRecDepth 20000 in
theorem gL_law_X5_when : GoodIn wsL_law (wsV RL 62 RX5 yX5_when wsX5_when) := goodIn_app (goodIn_of _ (by decide +kernel)) ggL_law_X5_when

set_option maxRecDepth 20000 in
theorem ghL_law_X6_when_0 : GoodIn wsL_law ((wsX6_when.drop 0).take 48) := goodIn_r _ [548, 322, 363, 364, 365, 5, 366, 213, 226, 227, 228, 108, 109, 110, 111, 78, 449, 450, 451, 452, 453, 454, 455, 456, 81, 445, 446, 447, 448, 86, 85, 84, 82, 83, 371, 258, 259, 260, 211, 444, 457, 262, 263, 87, 367, 368, 369, 370] (by decide +kernel) (by decide +kernel)
set_option maxRecDepth 20000 in
theorem ghL_law_X6_when_1 : GoodIn wsL_law (wsX6_when.drop 48) := goodIn_r _ [74, 75, 73, 372, 373, 374, 375, 376, 377, 378, 379, 212, 714, 715, 716, 717, 718, 719, 720, 721, 722, 723, 724, 725, 726, 727, 728, 729, 730, 731, 732, 733, 734, 735, 736, 737, 738, 739, 740, 741, 742, 743, 744] (by decide +kernel) (by decide +kernel)
theorem ggL_law_X6_when : GoodIn wsL_law wsX6_when := (gg_cut (a := 0) (b := 48) ghL_law_X6_when_0 ghL_law_X6_when_1)
set_option maxRecDepth 20000 in
theorem gL_law_X6_when : GoodIn wsL_law (wsV RL 65 RX6 yX6_when wsX6_when) := goodIn_app (goodIn_of _ (by decide +kernel)) ggL_law_X6_when
set_option maxRecDepth 20000 in
theorem ghL_law_X5_crumpled_0 : GoodIn wsL_law ((wsX5_crumpled.drop 0).take 48) := goodIn_r _ [552, 16, 15, 395, 396, 397, 2, 398, 333, 14, 334, 335, 52, 399, 400, 401, 402, 92, 93, 94, 95, 36, 116, 117, 118, 40, 41, 42, 43, 44, 45, 46, 47, 48, 49, 50, 51, 53, 54, 55, 384, 385, 386, 339, 501, 502, 503, 504] (by decide +kernel) (by decide +kernel)
set_option maxRecDepth 20000 in
theorem ghL_law_X5_crumpled_1 : GoodIn wsL_law ((wsX5_crumpled.drop 48).take 48) := goodIn_r _ [25, 403, 24, 404, 405, 406, 407, 408, 409, 410, 411, 412, 413, 346, 347, 348, 349, 258, 259, 260, 350, 340, 341, 342, 351, 343, 344, 345, 352, 336, 337, 338, 353, 354, 355, 356, 357, 358, 414, 415, 416, 417, 418, 419, 420, 421, 422, 423] (by decide +kernel) (by decide +kernel)
set_option maxRecDepth 20000 in
theorem ghL_law_X5_crumpled_2 : GoodIn wsL_law ((wsX5_crumpled.drop 96).take 48) := goodIn_r _ [424, 425, 426, 427, 428, 429, 430, 431, 432, 433, 434, 435, 436, 262, 263, 437, 438, 439, 703, 704, 705, 706, 707, 708, 709, 710, 711, 712, 713, 745, 746, 747, 748, 749, 750, 751, 752, 753, 754, 755, 756, 757, 758, 759, 760, 768, 769, 770] (by decide +kernel) (by decide +kernel)
set_option maxRecDepth 20000 in
theorem ghL_law_X5_crumpled_3 : GoodIn wsL_law (wsX5_crumpled.drop 144) := goodIn_r _ [771, 772, 773, 774, 775] (by decide +kernel) (by decide +kernel)
theorem ggL_law_X5_crumpled : GoodIn wsL_law wsX5_crumpled := (gg_cut (a := 0) (b := 48) ghL_law_X5_crumpled_0 (gg_cut (a := 48) (b := 48) ghL_law_X5_crumpled_1 (gg_cut (a := 96) (b := 48) ghL_law_X5_crumpled_2 ghL_law_X5_crumpled_3)))
set_option maxRecDepth 20000 in
theorem gL_law_X5_crumpled : GoodIn wsL_law (wsV RL 66 RX5 yX5_crumpled wsX5_crumpled) := goodIn_app (goodIn_of _ (by decide +kernel)) ggL_law_X5_crumpled
set_option maxRecDepth 20000 in
theorem ghL_law_X6_crumpled_0 : GoodIn wsL_law ((wsX6_crumpled.drop 0).take 48) := goodIn_r _ [556, 75, 363, 364, 365, 5, 366, 213, 226, 227, 228, 108, 109, 110, 111, 78, 449, 450, 451, 452, 513, 514, 515, 516, 322, 453, 454, 455, 456, 81, 445, 446, 447, 448, 86, 85, 84, 82, 83, 371, 258, 259, 260, 211, 444, 457, 262, 263] (by decide +kernel) (by decide +kernel)
set_option maxRecDepth 20000 in
theorem ghL_law_X6_crumpled_1 : GoodIn wsL_law (wsX6_crumpled.drop 48) := goodIn_r _ [87, 367, 368, 369, 370, 74, 73, 372, 373, 374, 375, 376, 377, 378, 379, 212, 714, 715, 716, 717, 718, 719, 720, 721, 722, 723, 724, 725, 726, 727, 728, 729, 730, 731, 732, 733, 734, 735, 736, 737, 738, 739, 740, 741, 742, 743, 744] (by decide +kernel) (by decide +kernel)
theorem ggL_law_X6_crumpled : GoodIn wsL_law wsX6_crumpled := (gg_cut (a := 0) (b := 48) ghL_law_X6_crumpled_0 ghL_law_X6_crumpled_1)
set_option maxRecDepth 20000 in
theorem gL_law_X6_crumpled : GoodIn wsL_law (wsV RL 69 RX6 yX6_crumpled wsX6_crumpled) := goodIn_app (goodIn_of _ (by decide +kernel)) ggL_law_X6_crumpled
set_option maxRecDepth 20000 in
theorem ghL_law_X5_fills_0 : GoodIn wsL_law ((wsX5_fills.drop 0).take 48) := goodIn_r _ [560, 16, 15, 395, 396, 397, 2, 398, 333, 14, 334, 335, 52, 399, 400, 401, 402, 92, 93, 94, 95, 36, 116, 117, 118, 40, 41, 42, 43, 44, 45, 46, 47, 48, 49, 50, 51, 53, 54, 55, 501, 502, 503, 504, 25, 403, 24, 404] (by decide +kernel) (by decide +kernel)
set_option maxRecDepth 20000 in
theorem ghL_law_X5_fills_1 : GoodIn wsL_law ((wsX5_fills.drop 48).take 48) := goodIn_r _ [405, 406, 407, 408, 409, 410, 411, 412, 413, 346, 347, 348, 349, 258, 259, 260, 350, 340, 341, 342, 339, 351, 343, 344, 345, 352, 336, 337, 338, 353, 354, 355, 356, 357, 358, 414, 415, 416, 417, 418, 419, 420, 421, 422, 423, 424, 425, 426] (by decide +kernel) (by decide +kernel)
set_option maxRecDepth 20000 in
theorem ghL_law_X5_fills_2 : GoodIn wsL_law ((wsX5_fills.drop 96).take 48) := goodIn_r _ [427, 428, 429, 430, 431, 432, 433, 434, 435, 436, 262, 263, 437, 438, 439, 703, 704, 705, 706, 707, 708, 709, 710, 711, 712, 713, 745, 746, 747, 748, 749, 750, 751, 752, 753, 754, 755, 756, 757, 758, 759, 760, 768, 769, 770, 771, 772, 773] (by decide +kernel) (by decide +kernel)
set_option maxRecDepth 20000 in
theorem ghL_law_X5_fills_3 : GoodIn wsL_law (wsX5_fills.drop 144) := goodIn_r _ [774, 775] (by decide +kernel) (by decide +kernel)
theorem ggL_law_X5_fills : GoodIn wsL_law wsX5_fills := (gg_cut (a := 0) (b := 48) ghL_law_X5_fills_0 (gg_cut (a := 48) (b := 48) ghL_law_X5_fills_1 (gg_cut (a := 96) (b := 48) ghL_law_X5_fills_2 ghL_law_X5_fills_3)))
set_option maxRecDepth 20000 in
theorem gL_law_X5_fills : GoodIn wsL_law (wsV RL 70 RX5 yX5_fills wsX5_fills) := goodIn_app (goodIn_of _ (by decide +kernel)) ggL_law_X5_fills
set_option maxRecDepth 20000 in
theorem ghL_law_X6_fills_0 : GoodIn wsL_law ((wsX6_fills.drop 0).take 48) := goodIn_r _ [564, 211, 363, 364, 365, 5, 366, 213, 226, 227, 228, 108, 109, 110, 111, 78, 449, 450, 451, 452, 513, 514, 515, 516, 322, 453, 454, 455, 456, 81, 445, 446, 447, 448, 86, 85, 84, 82, 83, 371, 258, 259, 260, 444, 457, 262, 263, 87] (by decide +kernel) (by decide +kernel)
set_option maxRecDepth 20000 in
theorem ghL_law_X6_fills_1 : GoodIn wsL_law (wsX6_fills.drop 48) := goodIn_r _ [367, 368, 369, 370, 74, 75, 73, 372, 373, 374, 375, 376, 377, 378, 379, 212, 714, 715, 716, 717, 718, 719, 720, 721, 722, 723, 724, 725, 726, 727, 728, 729, 730, 731, 732, 733, 734, 735, 736, 737, 738, 739, 740, 741, 742, 743, 744] (by decide +kernel) (by decide +kernel)
theorem ggL_law_X6_fills : GoodIn wsL_law wsX6_fills := (gg_cut (a := 0) (b := 48) ghL_law_X6_fills_0 ghL_law_X6_fills_1)
set_option maxRecDepth 20000 in
theorem gL_law_X6_fills : GoodIn wsL_law (wsV RL 73 RX6 yX6_fills wsX6_fills) := goodIn_app (goodIn_of _ (by decide +kernel)) ggL_law_X6_fills
set_option maxRecDepth 20000 in
theorem ghL_law_X5_whose_0 : GoodIn wsL_law ((wsX5_whose.drop 0).take 48) := goodIn_r _ [568, 15, 25, 399, 400, 401, 2, 402, 92, 93, 94, 95, 36, 403, 24, 404, 405, 406, 407, 408, 409, 410, 411, 412, 413, 346, 14, 347, 348, 349, 258, 259, 260, 350, 340, 341, 342, 54, 339, 333, 334, 335, 52, 351, 343, 344, 345, 55] (by decide +kernel) (by decide +kernel)
set_option maxRecDepth 20000 in
theorem ghL_law_X5_whose_1 : GoodIn wsL_law ((wsX5_whose.drop 48).take 48) := goodIn_r _ [352, 336, 337, 338, 53, 353, 354, 355, 356, 357, 358, 47, 414, 415, 416, 417, 418, 419, 420, 421, 422, 423, 424, 425, 426, 427, 428, 429, 41, 42, 430, 431, 432, 433, 434, 435, 436, 262, 263, 437, 438, 439, 48, 703, 704, 705, 706, 707] (by decide +kernel) (by decide +kernel)
set_option maxRecDepth 20000 in
theorem ghL_law_X5_whose_2 : GoodIn wsL_law (wsX5_whose.drop 96) := goodIn_r _ [708, 709, 710, 711, 712, 713, 745, 746, 747, 748, 749, 750, 751, 752, 753, 754, 755, 756, 757, 758, 759, 760, 768, 769, 770, 771, 772, 773, 774, 775] (by decide +kernel) (by decide +kernel)
theorem ggL_law_X5_whose : GoodIn wsL_law wsX5_whose := (gg_cut (a := 0) (b := 48) ghL_law_X5_whose_0 (gg_cut (a := 48) (b := 48) ghL_law_X5_whose_1 ghL_law_X5_whose_2))
set_option maxRecDepth 20000 in
theorem gL_law_X5_whose : GoodIn wsL_law (wsV RL 74 RX5 yX5_whose wsX5_whose) := goodIn_app (goodIn_of _ (by decide +kernel)) ggL_law_X5_whose
set_option maxRecDepth 20000 in
theorem ghL_law_X6_whose_0 : GoodIn wsL_law ((wsX6_whose.drop 0).take 48) := goodIn_r _ [572, 213, 322, 445, 449, 450, 451, 5, 452, 108, 109, 110, 111, 78, 453, 454, 455, 456, 81, 446, 447, 448, 86, 85, 84, 82, 83, 371, 258, 259, 260, 211, 444, 457, 262, 263, 87, 367, 368, 369, 370, 74, 75, 73, 226, 227, 228, 372] (by decide +kernel) (by decide +kernel)
set_option maxRecDepth 20000 in
theorem ghL_law_X6_whose_1 : GoodIn wsL_law (wsX6_whose.drop 48) := goodIn_r _ [373, 374, 375, 376, 377, 378, 379, 212, 714, 715, 716, 717, 718, 719, 720, 721, 722, 723, 724, 725, 726, 727, 728, 729, 730, 731, 732, 733, 734, 735, 736, 737, 738, 739, 740, 741, 742, 743, 744] (by decide +kernel) (by decide +kernel)
theorem ggL_law_X6_whose : GoodIn wsL_law wsX6_whose := (gg_cut (a := 0) (b := 48) ghL_law_X6_whose_0 ghL_law_X6_whose_1)
set_option maxRecDepth 20000 in
theorem gL_law_X6_whose : GoodIn wsL_law (wsV RL 77 RX6 yX6_whose wsX6_whose) := goodIn_app (goodIn_of _ (by decide +kernel)) ggL_law_X6_whose
set_option maxRecDepth 20000 in
theorem ggL_law_X5_inRow : GoodIn wsL_law wsX5_inRow := goodIn_r _ [576, 577, 578, 579, 2, 580, 581, 92, 93, 94, 95, 36, 582, 583, 584, 585, 33, 586, 32, 587, 588, 589, 590, 591, 592, 593, 594, 595, 596, 597, 598, 599, 600, 703, 704, 705, 706, 707, 708, 709, 710, 711, 712, 713, 777, 778] (by decide +kernel) (by decide +kernel)
set_option maxRecDepth 20000 in
theorem gL_law_X5_inRow : GoodIn wsL_law (wsV RL 78 RX5 yX5_inRow wsX5_inRow) := goodIn_app (goodIn_of _ (by decide +kernel)) ggL_law_X5_inRow
set_option maxRecDepth 20000 in
theorem ggL_law_X6_inRow : GoodIn wsL_law wsX6_inRow := goodIn_r _ [604, 605, 606, 607, 608, 5, 609, 610, 108, 109, 110, 111, 78, 226, 227, 228, 611, 612, 613, 614, 615, 616, 714, 715, 716, 717, 718, 719, 720, 721, 722, 723, 724, 725, 726, 727, 728, 729, 730, 731, 732, 733, 734, 735, 736, 737, 738, 739, 740, 741, 742, 743, 744] (by decide +kernel) (by decide +kernel)
set_option maxRecDepth 20000 in
theorem gL_law_X6_inRow : GoodIn wsL_law (wsV RL 82 RX6 yX6_inRow wsX6_inRow) := goodIn_app (goodIn_of _ (by decide +kernel)) ggL_law_X6_inRow
set_option maxRecDepth 20000 in
theorem ggL_law_X5_soMany : GoodIn wsL_law wsX5_soMany := goodIn_r _ [620, 577, 578, 579, 2, 580, 581, 92, 93, 94, 95, 36, 582, 583, 584, 585, 33, 586, 32, 587, 588, 589, 590, 591, 592, 593, 594, 595, 596, 597, 598, 599, 600, 703, 704, 705, 706, 707, 708, 709, 710, 711, 712, 713, 777, 778] (by decide +kernel) (by decide +kernel)
set_option maxRecDepth 20000 in
theorem gL_law_X5_soMany : GoodIn wsL_law (wsV RL 83 RX5 yX5_soMany wsX5_soMany) := goodIn_app (goodIn_of _ (by decide +kernel)) ggL_law_X5_soMany
set_option maxRecDepth 20000 in
theorem ggL_law_X6_soMany : GoodIn wsL_law wsX6_soMany := goodIn_r _ [624, 605, 606, 607, 608, 5, 609, 610, 108, 109, 110, 111, 78, 226, 227, 228, 611, 612, 613, 614, 615, 616, 714, 715, 716, 717, 718, 719, 720, 721, 722, 723, 724, 725, 726, 727, 728, 729, 730, 731, 732, 733, 734, 735, 736, 737, 738, 739, 740, 741, 742, 743, 744] (by decide +kernel) (by decide +kernel)
set_option maxRecDepth 20000 in
theorem gL_law_X6_soMany : GoodIn wsL_law (wsV RL 87 RX6 yX6_soMany wsX6_soMany) := goodIn_app (goodIn_of _ (by decide +kernel)) ggL_law_X6_soMany
set_option maxRecDepth 20000 in
theorem ghL_law_X5_farthest_0 : GoodIn wsL_law ((wsX5_farthest.drop 0).take 48) := goodIn_r _ [628, 15, 16, 333, 14, 334, 335, 52, 92, 93, 94, 2, 95, 36, 116, 117, 118, 40, 41, 42, 43, 44, 45, 46, 47, 48, 49, 50, 51, 53, 54, 55, 174, 175, 176, 177, 178, 179, 629, 630, 631, 632, 501, 502, 503, 504, 25, 403] (by decide +kernel) (by decide +kernel)
set_option maxRecDepth 20000 in
theorem ghL_law_X5_farthest_1 : GoodIn wsL_law ((wsX5_farthest.drop 48).take 48) := goodIn_r _ [24, 404, 405, 406, 407, 408, 409, 410, 411, 412, 413, 346, 347, 348, 349, 258, 259, 260, 350, 340, 341, 342, 339, 351, 343, 344, 345, 352, 336, 337, 338, 353, 354, 355, 356, 357, 358, 414, 415, 416, 417, 418, 419, 420, 421, 422, 423, 424] (by decide +kernel) (by decide +kernel)
set_option maxRecDepth 20000 in
theorem ghL_law_X5_farthest_2 : GoodIn wsL_law ((wsX5_farthest.drop 96).take 48) := goodIn_r _ [425, 426, 427, 428, 429, 430, 431, 432, 433, 434, 435, 436, 262, 263, 437, 438, 439, 703, 704, 705, 706, 707, 708, 709, 710, 711, 712, 713, 745, 746, 747, 748, 749, 750, 751, 752, 753, 754, 755, 756, 757, 758, 759, 760, 768, 769, 770, 771] (by decide +kernel) (by decide +kernel)
set_option maxRecDepth 20000 in
theorem ghL_law_X5_farthest_3 : GoodIn wsL_law (wsX5_farthest.drop 144) := goodIn_r _ [772, 773, 774, 775] (by decide +kernel) (by decide +kernel)
theorem ggL_law_X5_farthest : GoodIn wsL_law wsX5_farthest := (gg_cut (a := 0) (b := 48) ghL_law_X5_farthest_0 (gg_cut (a := 48) (b := 48) ghL_law_X5_farthest_1 (gg_cut (a := 96) (b := 48) ghL_law_X5_farthest_2 ghL_law_X5_farthest_3)))
set_option maxRecDepth 20000 in
theorem gL_law_X5_farthest : GoodIn wsL_law (wsV RL 88 RX5 yX5_farthest wsX5_farthest) := goodIn_app (goodIn_of _ (by decide +kernel)) ggL_law_X5_farthest

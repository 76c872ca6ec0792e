set_option maxRecDepth 20000 in
theorem ghL_law_X6_when_0 : GoodIn wsL_law ((wsX6_when.drop 0).take 48) := goodIn_r _ [545, 319, 360, 361, 362, 5, 363, 213, 226, 227, 228, 108, 109, 110, 111, 78, 446, 447, 448, 449, 450, 451, 452, 453, 81, 442, 443, 444, 445, 86, 85, 84, 82, 83, 368, 146, 147, 148, 211, 441, 454, 259, 260, 87, 364, 365, 366, 367] (by decide +kernel) (by decide +kernel)
set_option maxRecDepth 20000 in
theorem ghL_law_X6_when_1 : GoodIn wsL_law (wsX6_when.drop 48) := goodIn_r _ [74, 75, 73, 369, 370, 371, 372, 373, 374, 375, 376, 212, 711, 712, 713, 714, 715, 716, 717, 718, 719, 720, 721, 722, 723, 724, 725, 726, 727, 728, 729, 730, 731, 732, 733, 734, 735, 736, 737, 738, 739, 740, 741] (by decide +kernel) (by decide +kernel)
theorem ggL_law_X6_when : GoodIn wsL_law wsX6_when := (gg_cut (a := 0) (b := 48) ghL_law_X6_when_0 ghL_law_X6_when_1)
set_option maxRecDepth 20000 in
theorem gL_law_X6_when : GoodIn wsL_law (wsV RL 65 RX6 yX6_when wsX6_when) := goodIn_app (goodIn_of _ (by decide +kernel)) ggL_law_X6_when
set_option maxRecDepth 20000 in
theorem ghL_law_X5_crumpled_0 : GoodIn wsL_law ((wsX5_crumpled.drop 0).take 48) := goodIn_r _ [549, 16, 15, 392, 393, 394, 2, 395, 330, 14, 331, 332, 52, 396, 397, 398, 399, 92, 93, 94, 95, 36, 116, 117, 118, 40, 41, 42, 43, 44, 45, 46, 47, 48, 49, 50, 51, 53, 54, 55, 381, 382, 383, 336, 498, 499, 500, 501] (by decide +kernel) (by decide +kernel)
set_option maxRecDepth 20000 in
theorem ghL_law_X5_crumpled_1 : GoodIn wsL_law ((wsX5_crumpled.drop 48).take 48) := goodIn_r _ [25, 400, 24, 401, 402, 403, 404, 405, 406, 407, 408, 409, 410, 343, 344, 345, 346, 146, 147, 148, 347, 337, 338, 339, 348, 340, 341, 342, 349, 333, 334, 335, 350, 351, 352, 353, 354, 355, 411, 412, 413, 414, 415, 416, 417, 418, 419, 420] (by decide +kernel) (by decide +kernel)
set_option maxRecDepth 20000 in
theorem ghL_law_X5_crumpled_2 : GoodIn wsL_law ((wsX5_crumpled.drop 96).take 48) := goodIn_r _ [421, 422, 423, 424, 425, 426, 427, 428, 429, 430, 431, 432, 433, 259, 260, 434, 435, 436, 700, 701, 702, 703, 704, 705, 706, 707, 708, 709, 710, 742, 743, 744, 745, 746, 747, 748, 749, 750, 751, 752, 753, 754, 755, 756, 757, 765, 766, 767] (by decide +kernel) (by decide +kernel)
set_option maxRecDepth 20000 in
theorem ghL_law_X5_crumpled_3 : GoodIn wsL_law (wsX5_crumpled.drop 144) := goodIn_r _ [768, 769, 770, 771, 772] (by decide +kernel) (by decide +kernel)
theorem ggL_law_X5_crumpled : GoodIn wsL_law wsX5_crumpled := (gg_cut (a := 0) (b := 48) ghL_law_X5_crumpled_0 (gg_cut (a := 48) (b := 48) ghL_law_X5_crumpled_1 (gg_cut (a := 96) (b := 48) ghL_law_X5_crumpled_2 ghL_law_X5_crumpled_3)))
set_option maxRecDepth 20000 in
theorem gL_law_X5_crumpled : GoodIn wsL_law (wsV RL 66 RX5 yX5_crumpled wsX5_crumpled) := goodIn_app (goodIn_of _ (by decide +kernel)) ggL_law_X5_crumpled
set_option maxRecDepth 20000 in
theorem ghL_law_X6_crumpled_0 : GoodIn wsL_law ((wsX6_crumpled.drop 0).take 48) := goodIn_r _ [553, 75, 360, 361, 362, 5, 363, 213, 226, 227, 228, 108, 109, 110, 111, 78, 446, 447, 448, 449, 510, 511, 512, 513, 319, 450, 451, 452, 453, 81, 442, 443, 444, 445, 86, 85, 84, 82, 83, 368, 146, 147, 148, 211, 441, 454, 259, 260] (by decide +kernel) (by decide +kernel)
set_option maxRecDepth 20000 in
theorem ghL_law_X6_crumpled_1 : GoodIn wsL_law (wsX6_crumpled.drop 48) := goodIn_r _ [87, 364, 365, 366, 367, 74, 73, 369, 370, 371, 372, 373, 374, 375, 376, 212, 711, 712, 713, 714, 715, 716, 717, 718, 719, 720, 721, 722, 723, 724, 725, 726, 727, 728, 729, 730, 731, 732, 733, 734, 735, 736, 737, 738, 739, 740, 741] (by decide +kernel) (by decide +kernel)
theorem ggL_law_X6_crumpled : GoodIn wsL_law wsX6_crumpled := (gg_cut (a := 0) (b := 48) ghL_law_X6_crumpled_0 ghL_law_X6_crumpled_1)
set_option maxRecDepth 20000 in
theorem gL_law_X6_crumpled : GoodIn wsL_law (wsV RL 69 RX6 yX6_crumpled wsX6_crumpled) := goodIn_app (goodIn_of _ (by decide +kernel)) ggL_law_X6_crumpled
set_option maxRecDepth 20000 in
theorem ghL_law_X5_fills_0 : GoodIn wsL_law ((wsX5_fills.drop 0).take 48) := goodIn_r _ [557, 16, 15, 392, 393, 394, 2, 395, 330, 14, 331, 332, 52, 396, 397, 398, 399, 92, 93, 94, 95, 36, 116, 117, 118, 40, 41, 42, 43, 44, 45, 46, 47, 48, 49, 50, 51, 53, 54, 55, 498, 499, 500, 501, 25, 400, 24, 401] (by decide +kernel) (by decide +kernel)
set_option maxRecDepth 20000 in
theorem ghL_law_X5_fills_1 : GoodIn wsL_law ((wsX5_fills.drop 48).take 48) := goodIn_r _ [402, 403, 404, 405, 406, 407, 408, 409, 410, 343, 344, 345, 346, 146, 147, 148, 347, 337, 338, 339, 336, 348, 340, 341, 342, 349, 333, 334, 335, 350, 351, 352, 353, 354, 355, 411, 412, 413, 414, 415, 416, 417, 418, 419, 420, 421, 422, 423] (by decide +kernel) (by decide +kernel)
set_option maxRecDepth 20000 in
theorem ghL_law_X5_fills_2 : GoodIn wsL_law ((wsX5_fills.drop 96).take 48) := goodIn_r _ [424, 425, 426, 427, 428, 429, 430, 431, 432, 433, 259, 260, 434, 435, 436, 700, 701, 702, 703, 704, 705, 706, 707, 708, 709, 710, 742, 743, 744, 745, 746, 747, 748, 749, 750, 751, 752, 753, 754, 755, 756, 757, 765, 766, 767, 768, 769, 770] (by decide +kernel) (by decide +kernel)
set_option maxRecDepth 20000 in
theorem ghL_law_X5_fills_3 : GoodIn wsL_law (wsX5_fills.drop 144) := goodIn_r _ [771, 772] (by decide +kernel) (by decide +kernel)
theorem ggL_law_X5_fills : GoodIn wsL_law wsX5_fills := (gg_cut (a := 0) (b := 48) ghL_law_X5_fills_0 (gg_cut (a := 48) (b := 48) ghL_law_X5_fills_1 (gg_cut (a := 96) (b := 48) ghL_law_X5_fills_2 ghL_law_X5_fills_3)))
set_option maxRecDepth 20000 in
theorem gL_law_X5_fills : GoodIn wsL_law (wsV RL 70 RX5 yX5_fills wsX5_fills) := goodIn_app (goodIn_of _ (by decide +kernel)) ggL_law_X5_fills
set_option maxRecDepth 20000 in
theorem ghL_law_X6_fills_0 : GoodIn wsL_law ((wsX6_fills.drop 0).take 48) := goodIn_r _ [561, 211, 360, 361, 362, 5, 363, 213, 226, 227, 228, 108, 109, 110, 111, 78, 446, 447, 448, 449, 510, 511, 512, 513, 319, 450, 451, 452, 453, 81, 442, 443, 444, 445, 86, 85, 84, 82, 83, 368, 146, 147, 148, 441, 454, 259, 260, 87] (by decide +kernel) (by decide +kernel)
set_option maxRecDepth 20000 in
theorem ghL_law_X6_fills_1 : GoodIn wsL_law (wsX6_fills.drop 48) := goodIn_r _ [364, 365, 366, 367, 74, 75, 73, 369, 370, 371, 372, 373, 374, 375, 376, 212, 711, 712, 713, 714, 715, 716, 717, 718, 719, 720, 721, 722, 723, 724, 725, 726, 727, 728, 729, 730, 731, 732, 733, 734, 735, 736, 737, 738, 739, 740, 741] (by decide +kernel) (by decide +kernel)
theorem ggL_law_X6_fills : GoodIn wsL_law wsX6_fills := (gg_cut (a := 0) (b := 48) ghL_law_X6_fills_0 ghL_law_X6_fills_1)
set_option maxRecDepth 20000 in
theorem gL_law_X6_fills : GoodIn wsL_law (wsV RL 73 RX6 yX6_fills wsX6_fills) := goodIn_app (goodIn_of _ (by decide +kernel)) ggL_law_X6_fills
set_option maxRecDepth 20000 in
theorem ghL_law_X5_whose_0 : GoodIn wsL_law ((wsX5_whose.drop 0).take 48) := goodIn_r _ [565, 15, 25, 396, 397, 398, 2, 399, 92, 93, 94, 95, 36, 400, 24, 401, 402, 403, 404, 405, 406, 407, 408, 409, 410, 343, 14, 344, 345, 346, 146, 147, 148, 347, 337, 338, 339, 54, 336, 330, 331, 332, 52, 348, 340, 341, 342, 55] (by decide +kernel) (by decide +kernel)
set_option maxRecDepth 20000 in
theorem ghL_law_X5_whose_1 : GoodIn wsL_law ((wsX5_whose.drop 48).take 48) := goodIn_r _ [349, 333, 334, 335, 53, 350, 351, 352, 353, 354, 355, 47, 411, 412, 413, 414, 415, 416, 417, 418, 419, 420, 421, 422, 423, 424, 425, 426, 41, 42, 427, 428, 429, 430, 431, 432, 433, 259, 260, 434, 435, 436, 48, 700, 701, 702, 703, 704] (by decide +kernel) (by decide +kernel)
set_option maxRecDepth 20000 in
theorem ghL_law_X5_whose_2 : GoodIn wsL_law (wsX5_whose.drop 96) := goodIn_r _ [705, 706, 707, 708, 709, 710, 742, 743, 744, 745, 746, 747, 748, 749, 750, 751, 752, 753, 754, 755, 756, 757, 765, 766, 767, 768, 769, 770, 771, 772] (by decide +kernel) (by decide +kernel)
theorem ggL_law_X5_whose : GoodIn wsL_law wsX5_whose := (gg_cut (a := 0) (b := 48) ghL_law_X5_whose_0 (gg_cut (a := 48) (b := 48) ghL_law_X5_whose_1 ghL_law_X5_whose_2))
set_option maxRecDepth 20000 in
theorem gL_law_X5_whose : GoodIn wsL_law (wsV RL 74 RX5 yX5_whose wsX5_whose) := goodIn_app (goodIn_of _ (by decide +kernel)) ggL_law_X5_whose
set_option maxRecDepth 20000 in
theorem ghL_law_X6_whose_0 : GoodIn wsL_law ((wsX6_whose.drop 0).take 48) := goodIn_r _ [569, 213, 319, 442, 446, 447, 448, 5, 449, 108, 109, 110, 111, 78, 450, 451, 452, 453, 81, 443, 444, 445, 86, 85, 84, 82, 83, 368, 146, 147, 148, 211, 441, 454, 259, 260, 87, 364, 365, 366, 367, 74, 75, 73, 226, 227, 228, 369] (by decide +kernel) (by decide +kernel)
set_option maxRecDepth 20000 in
theorem ghL_law_X6_whose_1 : GoodIn wsL_law (wsX6_whose.drop 48) := goodIn_r _ [370, 371, 372, 373, 374, 375, 376, 212, 711, 712, 713, 714, 715, 716, 717, 718, 719, 720, 721, 722, 723, 724, 725, 726, 727, 728, 729, 730, 731, 732, 733, 734, 735, 736, 737, 738, 739, 740, 741] (by decide +kernel) (by decide +kernel)
theorem ggL_law_X6_whose : GoodIn wsL_law wsX6_whose := (gg_cut (a := 0) (b := 48) ghL_law_X6_whose_0 ghL_law_X6_whose_1)
set_option maxRecDepth 20000 in
theorem gL_law_X6_whose : GoodIn wsL_law (wsV RL 77 RX6 yX6_whose wsX6_whose) := goodIn_app (goodIn_of _ (by decide +kernel)) ggL_law_X6_whose
set_option maxRecDepth 20000 in
theorem ggL_law_X5_inRow : GoodIn wsL_law wsX5_inRow := goodIn_r _ [573, 574, 575, 576, 2, 577, 578, 92, 93, 94, 95, 36, 579, 580, 581, 582, 33, 583, 32, 584, 585, 586, 587, 588, 589, 590, 591, 592, 593, 594, 595, 596, 597, 700, 701, 702, 703, 704, 705, 706, 707, 708, 709, 710, 774, 775] (by decide +kernel) (by decide +kernel)
set_option maxRecDepth 20000 in
theorem gL_law_X5_inRow : GoodIn wsL_law (wsV RL 78 RX5 yX5_inRow wsX5_inRow) := goodIn_app (goodIn_of _ (by decide +kernel)) ggL_law_X5_inRow
set_option maxRecDepth 20000 in
theorem ggL_law_X6_inRow : GoodIn wsL_law wsX6_inRow := goodIn_r _ [601, 602, 603, 604, 605, 5, 606, 607, 108, 109, 110, 111, 78, 226, 227, 228, 608, 609, 610, 611, 612, 613, 711, 712, 713, 714, 715, 716, 717, 718, 719, 720, 721, 722, 723, 724, 725, 726, 727, 728, 729, 730, 731, 732, 733, 734, 735, 736, 737, 738, 739, 740, 741] (by decide +kernel) (by decide +kernel)
set_option maxRecDepth 20000 in
theorem gL_law_X6_inRow : GoodIn wsL_law (wsV RL 82 RX6 yX6_inRow wsX6_inRow) := goodIn_app (goodIn_of _ (by decide +kernel)) ggL_law_X6_inRow
set_option maxRecDepth 20000 in
theorem ggL_law_X5_soMany : GoodIn wsL_law wsX5_soMany := goodIn_r _ [617, 574, 575, 576, 2, 577, 578, 92, 93, 94, 95, 36, 579, 580, 581, 582, 33, 583, 32, 584, 585, 586, 587, 588, 589, 590, 591, 592, 593, 594, 595, 596, 597, 700, 701, 702, 703, 704, 705, 706, 707, 708, 709, 710, 774, 775] (by decide +kernel) (by decide +kernel)
set_option maxRecDepth 20000 in
theorem gL_law_X5_soMany : GoodIn wsL_law (wsV RL 83 RX5 yX5_soMany wsX5_soMany) := goodIn_app (goodIn_of _ (by decide +kernel)) ggL_law_X5_soMany
set_option maxRecDepth 20000 in
theorem ggL_law_X6_soMany : GoodIn wsL_law wsX6_soMany := goodIn_r _ [621, 602, 603, 604, 605, 5, 606, 607, 108, 109, 110, 111, 78, 226, 227, 228, 608, 609, 610, 611, 612, 613, 711, 712, 713, 714, 715, 716, 717, 718, 719, 720, 721, 722, 723, 724, 725, 726, 727, 728, 729, 730, 731, 732, 733, 734, 735, 736, 737, 738, 739, 740, 741] (by decide +kernel) (by decide +kernel)
set_option maxRecDepth 20000 in
theorem gL_law_X6_soMany : GoodIn wsL_law (wsV RL 87 RX6 yX6_soMany wsX6_soMany) := goodIn_app (goodIn_of _ (by decide +kernel)) ggL_law_X6_soMany
set_option maxRecDepth 20000 in
theorem ghL_law_X5_farthest_0 : GoodIn wsL_law ((wsX5_farthest.drop 0).take 48) := goodIn_r _ [625, 15, 16, 330, 14, 331, 332, 52, 92, 93, 94, 2, 95, 36, 116, 117, 118, 40, 41, 42, 43, 44, 45, 46, 47, 48, 49, 50, 51, 53, 54, 55, 174, 175, 176, 177, 178, 179, 626, 627, 628, 629, 498, 499, 500, 501, 25, 400] (by decide +kernel) (by decide +kernel)
set_option maxRecDepth 20000 in
theorem ghL_law_X5_farthest_1 : GoodIn wsL_law ((wsX5_farthest.drop 48).take 48) := goodIn_r _ [24, 401, 402, 403, 404, 405, 406, 407, 408, 409, 410, 343, 344, 345, 346, 146, 147, 148, 347, 337, 338, 339, 336, 348, 340, 341, 342, 349, 333, 334, 335, 350, 351, 352, 353, 354, 355, 411, 412, 413, 414, 415, 416, 417, 418, 419, 420, 421] (by decide +kernel) (by decide +kernel)
set_option maxRecDepth 20000 in
theorem ghL_law_X5_farthest_2 : GoodIn wsL_law ((wsX5_farthest.drop 96).take 48) := goodIn_r _ [422, 423, 424, 425, 426, 427, 428, 429, 430, 431, 432, 433, 259, 260, 434, 435, 436, 700, 701, 702, 703, 704, 705, 706, 707, 708, 709, 710, 742, 743, 744, 745, 746, 747, 748, 749, 750, 751, 752, 753, 754, 755, 756, 757, 765, 766, 767, 768] (by decide +kernel) (by decide +kernel)
set_option maxRecDepth 20000 in
theorem ghL_law_X5_farthest_3 : GoodIn wsL_law (wsX5_farthest.drop 144) := goodIn_r _ [769, 770, 771, 772] (by decide +kernel) (by decide +kernel)
theorem ggL_law_X5_farthest : GoodIn wsL_law wsX5_farthest := (gg_cut (a := 0) (b := 48) ghL_law_X5_farthest_0 (gg_cut (a := 48) (b := 48) ghL_law_X5_farthest_1 (gg_cut (a := 96) (b := 48) ghL_law_X5_farthest_2 ghL_law_X5_farthest_3)))
set_option maxRecDepth 20000 in
theorem gL_law_X5_farthest : GoodIn wsL_law (wsV RL 88 RX5 yX5_farthest wsX5_farthest) := goodIn_app (goodIn_of _ (by decide +kernel)) ggL_law_X5_farthest

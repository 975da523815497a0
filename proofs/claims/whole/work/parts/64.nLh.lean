set_option maxRecDepth 20000 in
theorem ggL_law_X6_bribes : GoodIn wsL_law wsX6_bribes := goodIn_r _ [652, 35, 363, 15, 103, 237, 36, 443, 365, 366, 367, 34, 368, 247, 104, 105, 106, 14, 107, 108, 109, 2, 110, 150, 151, 152, 153, 43, 111, 112, 113, 114, 115, 116, 154, 155, 156, 157, 44, 653, 654, 655, 656, 364, 378, 379, 380, 381, 382, 383, 384, 385, 250, 386, 387, 388, 389, 76, 248, 78, 79, 390, 391, 392, 393, 394, 284, 285, 286, 395, 396, 397, 398, 399, 400, 77, 401, 402, 403, 404, 251, 657, 658, 659, 660, 46, 291, 292, 293, 294, 249, 295, 189, 190, 191, 121, 122, 123, 124, 840, 841, 842, 843, 844, 845, 846, 847, 848, 891, 892, 893, 894, 895, 896, 897, 898, 899, 872, 873, 874] (by decide +kernel) (by decide +kernel)
set_option maxRecDepth 20000 in
theorem gL_law_X6_bribes : GoodIn wsL_law (wsV RL 94 RX6 yX6_bribes wsX6_bribes) := goodIn_app (goodIn_of _ (by decide +kernel)) ggL_law_X6_bribes
set_option maxRecDepth 20000 in
theorem ggL_law_X7_bribes : GoodIn wsL_law wsX7_bribes := goodIn_r _ [664, 409, 129, 89, 91, 410, 411, 412, 5, 413, 130, 131, 132, 133, 134, 135, 169, 170, 171, 172, 84, 98, 136, 137, 138, 139, 140, 141, 196, 197, 198, 199, 85, 344, 345, 346, 665, 666, 667, 668, 86, 418, 419, 420, 421, 422, 423, 424, 425, 426, 427, 428, 429, 430, 431, 432, 433, 434, 435, 436, 437, 438, 142, 143, 144, 145, 849, 850, 851, 852, 853, 854, 855, 856, 857, 858, 859, 860, 861, 862, 863, 864, 865, 866, 867, 868, 869, 870, 871] (by decide +kernel) (by decide +kernel)
set_option maxRecDepth 20000 in
theorem gL_law_X7_bribes : GoodIn wsL_law (wsV RL 97 RX7 yX7_bribes wsX7_bribes) := goodIn_app (goodIn_of _ (by decide +kernel)) ggL_law_X7_bribes
set_option maxRecDepth 20000 in
theorem ggL_law_X6_fits : GoodIn wsL_law wsX6_fits := goodIn_r _ [672, 35, 15, 103, 36, 475, 673, 476, 444, 445, 446, 34, 447, 250, 104, 105, 106, 14, 107, 108, 109, 2, 110, 150, 151, 152, 153, 43, 111, 112, 113, 114, 115, 116, 154, 155, 156, 157, 44, 291, 292, 293, 294, 247, 248, 249, 251, 76, 295, 189, 190, 191, 77, 78, 79, 653, 654, 655, 656, 364, 378, 379, 380, 381, 382, 383, 384, 385, 386, 387, 388, 389, 390, 391, 392, 393, 394, 284, 285, 286, 395, 396, 397, 398, 399, 400, 401, 402, 403, 404, 657, 658, 659, 660, 46, 121, 122, 123, 124, 840, 841, 842, 843, 844, 845, 846, 847, 848, 891, 892, 893, 894, 895, 896, 897, 898, 899, 872, 873, 874] (by decide +kernel) (by decide +kernel)
set_option maxRecDepth 20000 in
theorem gL_law_X6_fits : GoodIn wsL_law (wsV RL 98 RX6 yX6_fits wsX6_fits) := goodIn_app (goodIn_of _ (by decide +kernel)) ggL_law_X6_fits
set_option maxRecDepth 20000 in
theorem ggL_law_X7_fits : GoodIn wsL_law wsX7_fits := goodIn_r _ [677, 129, 89, 91, 453, 454, 455, 5, 456, 133, 134, 135, 130, 131, 132, 169, 170, 171, 172, 84, 98, 136, 137, 138, 139, 140, 141, 196, 197, 198, 199, 85, 344, 345, 346, 665, 666, 667, 668, 86, 418, 419, 420, 421, 422, 423, 424, 425, 426, 427, 428, 429, 430, 431, 432, 433, 434, 435, 436, 437, 438, 142, 143, 144, 145, 849, 850, 851, 852, 853, 854, 855, 856, 857, 858, 859, 860, 861, 862, 863, 864, 865, 866, 867, 868, 869, 870, 871] (by decide +kernel) (by decide +kernel)
set_option maxRecDepth 20000 in
theorem gL_law_X7_fits : GoodIn wsL_law (wsV RL 101 RX7 yX7_fits wsX7_fits) := goodIn_app (goodIn_of _ (by decide +kernel)) ggL_law_X7_fits
set_option maxRecDepth 20000 in
theorem ggL_law_X6_strike : GoodIn wsL_law wsX6_strike := goodIn_r _ [681, 35, 363, 103, 364, 682, 683, 376, 684, 365, 366, 367, 34, 368, 247, 108, 109, 2, 110, 515, 383, 384, 385, 250, 386, 387, 388, 389, 76, 248, 78, 79, 685, 686, 687, 688, 628, 390, 391, 392, 393, 394, 284, 285, 286, 395, 396, 397, 398, 399, 400, 77, 401, 402, 403, 404, 251, 517, 518, 519, 520, 521, 522, 523, 524, 525, 526, 527, 528, 529, 530, 629, 689, 690, 691, 692, 693, 694, 840, 841, 842, 843, 844, 845, 846, 847, 848, 891, 892, 893, 894, 895, 896, 897, 898, 899] (by decide +kernel) (by decide +kernel)
set_option maxRecDepth 20000 in
theorem gL_law_X6_strike : GoodIn wsL_law (wsV RL 102 RX6 yX6_strike wsX6_strike) := goodIn_app (goodIn_of _ (by decide +kernel)) ggL_law_X6_strike
set_option maxRecDepth 20000 in
theorem ggL_law_X7_strike : GoodIn wsL_law wsX7_strike := goodIn_r _ [698, 409, 129, 89, 410, 411, 412, 5, 413, 535, 536, 537, 133, 134, 135, 421, 422, 423, 424, 425, 426, 433, 434, 435, 427, 428, 429, 430, 431, 432, 436, 437, 438, 549, 550, 551, 849, 850, 851, 852, 853, 854, 855, 856, 857, 858, 859, 860, 861, 862, 863, 864, 865, 866, 867, 868, 869, 870, 871] (by decide +kernel) (by decide +kernel)
set_option maxRecDepth 20000 in
theorem gL_law_X7_strike : GoodIn wsL_law (wsV RL 105 RX7 yX7_strike wsX7_strike) := goodIn_app (goodIn_of _ (by decide +kernel)) ggL_law_X7_strike
set_option maxRecDepth 20000 in
theorem ggL_law_X6_drawn : GoodIn wsL_law wsX6_drawn := goodIn_r _ [702, 35, 363, 703, 103, 704, 705, 613, 682, 683, 376, 684, 364, 519, 365, 366, 367, 34, 368, 247, 108, 109, 2, 110, 378, 379, 380, 381, 382, 383, 384, 385, 250, 386, 387, 388, 389, 76, 248, 78, 79, 390, 391, 392, 393, 394, 284, 285, 286, 395, 396, 397, 398, 399, 400, 77, 401, 402, 403, 404, 251, 516, 517, 518, 520, 521, 522, 523, 524, 525, 526, 527, 528, 529, 530, 840, 841, 842, 843, 844, 845, 846, 847, 848, 891, 892, 893, 894, 895, 896, 897, 898, 899] (by decide +kernel) (by decide +kernel)
set_option maxRecDepth 20000 in
theorem gL_law_X6_drawn : GoodIn wsL_law (wsV RL 106 RX6 yX6_drawn wsX6_drawn) := goodIn_app (goodIn_of _ (by decide +kernel)) ggL_law_X6_drawn
set_option maxRecDepth 20000 in
theorem ggL_law_X7_drawn : GoodIn wsL_law wsX7_drawn := goodIn_r _ [709, 409, 710, 129, 711, 712, 89, 98, 410, 411, 412, 5, 413, 133, 134, 135, 418, 419, 420, 421, 422, 423, 424, 425, 426, 427, 428, 429, 430, 431, 432, 433, 434, 435, 436, 437, 438, 538, 539, 540, 849, 850, 851, 852, 853, 854, 855, 856, 857, 858, 859, 860, 861, 862, 863, 864, 865, 866, 867, 868, 869, 870, 871] (by decide +kernel) (by decide +kernel)
set_option maxRecDepth 20000 in
theorem gL_law_X7_drawn : GoodIn wsL_law (wsV RL 109 RX7 yX7_drawn wsX7_drawn) := goodIn_app (goodIn_of _ (by decide +kernel)) ggL_law_X7_drawn

set_option maxRecDepth 20000 in
theorem ggL_law_X6_rota : GoodIn wsL_law wsX6_rota := goodIn_r _ [555, 35, 363, 103, 237, 519, 36, 27, 365, 366, 367, 34, 368, 247, 108, 109, 2, 110, 291, 292, 293, 294, 248, 249, 250, 251, 76, 295, 189, 190, 191, 77, 78, 79, 556, 557, 558, 26, 559, 560, 67, 561, 68, 562, 563, 564, 565, 566, 567, 568, 569, 66, 570, 571, 572, 573, 574, 387, 388, 389, 575, 398, 399, 400, 401, 402, 403, 404, 395, 396, 394, 284, 285, 286, 576, 48, 49, 50, 577, 578, 579, 580, 581, 582, 583, 584, 585, 521, 522, 523, 524, 525, 526, 586, 587, 588, 589, 590, 591, 592, 593, 594, 595, 596, 840, 841, 842, 843, 844, 845, 846, 847, 848, 891, 892, 893, 894, 895, 896, 897, 898, 899, 885, 886, 887, 888] (by decide +kernel) (by decide +kernel)
set_option maxRecDepth 20000 in
theorem gL_law_X6_rota : GoodIn wsL_law (wsV RL 78 RX6 yX6_rota wsX6_rota) := goodIn_app (goodIn_of _ (by decide +kernel)) ggL_law_X6_rota
set_option maxRecDepth 20000 in
theorem ggL_law_X7_rota : GoodIn wsL_law wsX7_rota := goodIn_r _ [600, 409, 129, 89, 91, 98, 96, 410, 411, 412, 5, 413, 133, 134, 135, 344, 345, 346, 601, 602, 603, 604, 418, 419, 420, 421, 422, 423, 424, 425, 426, 427, 428, 429, 430, 431, 432, 433, 434, 435, 436, 437, 438, 549, 550, 551, 605, 606, 607, 608, 453, 454, 455, 456, 849, 850, 851, 852, 853, 854, 855, 856, 857, 858, 859, 860, 861, 862, 863, 864, 865, 866, 867, 868, 869, 870, 871] (by decide +kernel) (by decide +kernel)
set_option maxRecDepth 20000 in
theorem gL_law_X7_rota : GoodIn wsL_law (wsV RL 81 RX7 yX7_rota wsX7_rota) := goodIn_app (goodIn_of _ (by decide +kernel)) ggL_law_X7_rota
set_option maxRecDepth 20000 in
theorem ggL_law_X6_when : GoodIn wsL_law wsX6_when := goodIn_r _ [612, 35, 613, 103, 519, 364, 108, 109, 2, 110, 378, 379, 380, 34, 381, 382, 383, 384, 385, 250, 386, 387, 388, 389, 76, 248, 78, 79, 390, 391, 392, 393, 394, 284, 285, 286, 247, 395, 396, 397, 398, 399, 400, 77, 401, 402, 403, 404, 251, 614, 520, 521, 522, 523, 524, 525, 526, 840, 841, 842, 843, 844, 845, 846, 847, 848, 891, 892, 893, 894, 895, 896, 897, 898, 899] (by decide +kernel) (by decide +kernel)
set_option maxRecDepth 20000 in
theorem gL_law_X6_when : GoodIn wsL_law (wsV RL 82 RX6 yX6_when wsX6_when) := goodIn_app (goodIn_of _ (by decide +kernel)) ggL_law_X6_when
set_option maxRecDepth 20000 in
theorem ggL_law_X7_when : GoodIn wsL_law wsX7_when := goodIn_r _ [618, 89, 129, 98, 133, 134, 5, 135, 418, 419, 420, 421, 422, 423, 424, 425, 426, 427, 428, 429, 430, 431, 432, 433, 434, 435, 436, 437, 438, 549, 550, 551, 849, 850, 851, 852, 853, 854, 855, 856, 857, 858, 859, 860, 861, 862, 863, 864, 865, 866, 867, 868, 869, 870, 871] (by decide +kernel) (by decide +kernel)
set_option maxRecDepth 20000 in
theorem gL_law_X7_when : GoodIn wsL_law (wsV RL 85 RX7 yX7_when wsX7_when) := goodIn_app (goodIn_of _ (by decide +kernel)) ggL_law_X7_when
set_option maxRecDepth 20000 in
theorem ggL_law_X6_enough : GoodIn wsL_law wsX6_enough := goodIn_r _ [622, 35, 363, 103, 364, 365, 366, 367, 34, 368, 247, 108, 109, 2, 110, 515, 383, 384, 385, 250, 386, 387, 388, 389, 76, 248, 78, 79, 623, 391, 392, 393, 394, 284, 285, 286, 395, 396, 397, 398, 399, 400, 77, 401, 402, 403, 404, 251, 624, 625, 626, 627, 628, 629, 521, 522, 523, 524, 525, 526, 390, 630, 631, 632, 519, 520, 840, 841, 842, 843, 844, 845, 846, 847, 848, 891, 892, 893, 894, 895, 896, 897, 898, 899] (by decide +kernel) (by decide +kernel)
set_option maxRecDepth 20000 in
theorem gL_law_X6_enough : GoodIn wsL_law (wsV RL 86 RX6 yX6_enough wsX6_enough) := goodIn_app (goodIn_of _ (by decide +kernel)) ggL_law_X6_enough
set_option maxRecDepth 20000 in
theorem ggL_law_X7_enough : GoodIn wsL_law wsX7_enough := goodIn_r _ [636, 409, 129, 89, 410, 411, 412, 5, 413, 535, 536, 537, 133, 134, 135, 421, 422, 423, 424, 425, 426, 418, 419, 420, 427, 428, 429, 430, 431, 432, 433, 434, 435, 436, 437, 438, 637, 638, 639, 640, 98, 549, 550, 551, 849, 850, 851, 852, 853, 854, 855, 856, 857, 858, 859, 860, 861, 862, 863, 864, 865, 866, 867, 868, 869, 870, 871] (by decide +kernel) (by decide +kernel)
set_option maxRecDepth 20000 in
theorem gL_law_X7_enough : GoodIn wsL_law (wsV RL 89 RX7 yX7_enough wsX7_enough) := goodIn_app (goodIn_of _ (by decide +kernel)) ggL_law_X7_enough
set_option maxRecDepth 20000 in
theorem ggL_law_X6_clash : GoodIn wsL_law wsX6_clash := goodIn_r _ [644, 35, 363, 103, 364, 365, 366, 367, 34, 368, 247, 108, 109, 2, 110, 515, 383, 384, 385, 250, 386, 387, 388, 389, 76, 248, 78, 79, 624, 625, 626, 627, 628, 629, 521, 522, 523, 524, 525, 526, 390, 391, 392, 393, 394, 284, 285, 286, 395, 396, 397, 398, 399, 400, 77, 401, 402, 403, 404, 251, 630, 631, 632, 519, 520, 840, 841, 842, 843, 844, 845, 846, 847, 848, 891, 892, 893, 894, 895, 896, 897, 898, 899] (by decide +kernel) (by decide +kernel)
set_option maxRecDepth 20000 in
theorem gL_law_X6_clash : GoodIn wsL_law (wsV RL 90 RX6 yX6_clash wsX6_clash) := goodIn_app (goodIn_of _ (by decide +kernel)) ggL_law_X6_clash
set_option maxRecDepth 20000 in
theorem ggL_law_X7_clash : GoodIn wsL_law wsX7_clash := goodIn_r _ [648, 409, 129, 89, 98, 410, 411, 412, 5, 413, 535, 536, 537, 133, 134, 135, 421, 422, 423, 424, 425, 426, 637, 638, 639, 640, 427, 428, 429, 430, 431, 432, 433, 434, 435, 436, 437, 438, 549, 550, 551, 849, 850, 851, 852, 853, 854, 855, 856, 857, 858, 859, 860, 861, 862, 863, 864, 865, 866, 867, 868, 869, 870, 871] (by decide +kernel) (by decide +kernel)
set_option maxRecDepth 20000 in
theorem gL_law_X7_clash : GoodIn wsL_law (wsV RL 93 RX7 yX7_clash wsX7_clash) := goodIn_app (goodIn_of _ (by decide +kernel)) ggL_law_X7_clash

set_option maxRecDepth 20000 in
theorem ggL_law_X6_days : GoodIn wsL_law wsX6_days := goodIn_r _ [362, 35, 363, 103, 364, 216, 23, 365, 366, 367, 34, 368, 247, 108, 109, 2, 110, 369, 370, 371, 22, 372, 59, 373, 60, 61, 300, 374, 375, 376, 377, 378, 379, 380, 381, 382, 383, 384, 385, 250, 386, 387, 388, 389, 76, 248, 78, 79, 390, 391, 392, 393, 394, 284, 285, 286, 395, 396, 397, 398, 399, 400, 77, 401, 402, 403, 404, 251, 840, 841, 842, 843, 844, 845, 846, 847, 848, 891, 892, 893, 894, 895, 896, 897, 898, 899, 880, 881, 882, 883, 884] (by decide +kernel) (by decide +kernel)
set_option maxRecDepth 20000 in
theorem gL_law_X6_days : GoodIn wsL_law (wsV RL 45 RX6 yX6_days wsX6_days) := goodIn_app (goodIn_of _ (by decide +kernel)) ggL_law_X6_days
set_option maxRecDepth 20000 in
theorem ggL_law_X7_days : GoodIn wsL_law wsX7_days := goodIn_r _ [408, 409, 129, 89, 231, 410, 411, 412, 5, 413, 133, 134, 135, 414, 415, 416, 417, 310, 92, 344, 345, 346, 418, 419, 420, 421, 422, 423, 424, 425, 426, 427, 428, 429, 430, 431, 432, 433, 434, 435, 436, 437, 438, 849, 850, 851, 852, 853, 854, 855, 856, 857, 858, 859, 860, 861, 862, 863, 864, 865, 866, 867, 868, 869, 870, 871] (by decide +kernel) (by decide +kernel)
set_option maxRecDepth 20000 in
theorem gL_law_X7_days : GoodIn wsL_law (wsV RL 48 RX7 yX7_days wsX7_days) := goodIn_app (goodIn_of _ (by decide +kernel)) ggL_law_X7_days
set_option maxRecDepth 20000 in
theorem ggL_law_X6_bribe : GoodIn wsL_law wsX6_bribe := goodIn_r _ [442, 35, 103, 363, 23, 443, 444, 445, 446, 34, 447, 250, 108, 109, 2, 110, 448, 402, 403, 404, 251, 395, 396, 369, 370, 371, 22, 372, 59, 373, 60, 61, 300, 374, 375, 376, 377, 840, 841, 842, 843, 844, 845, 846, 847, 848, 891, 892, 893, 894, 895, 896, 897, 898, 899, 880, 881, 882, 883, 884] (by decide +kernel) (by decide +kernel)
set_option maxRecDepth 20000 in
theorem gL_law_X6_bribe : GoodIn wsL_law (wsV RL 49 RX6 yX6_bribe wsX6_bribe) := goodIn_app (goodIn_of _ (by decide +kernel)) ggL_law_X6_bribe
set_option maxRecDepth 20000 in
theorem ggL_law_X7_bribe : GoodIn wsL_law wsX7_bribe := goodIn_r _ [452, 129, 89, 409, 453, 454, 455, 5, 456, 133, 134, 135, 414, 415, 416, 417, 310, 92, 344, 345, 346, 849, 850, 851, 852, 853, 854, 855, 856, 857, 858, 859, 860, 861, 862, 863, 864, 865, 866, 867, 868, 869, 870, 871] (by decide +kernel) (by decide +kernel)
set_option maxRecDepth 20000 in
theorem gL_law_X7_bribe : GoodIn wsL_law (wsV RL 53 RX7 yX7_bribe wsX7_bribe) := goodIn_app (goodIn_of _ (by decide +kernel)) ggL_law_X7_bribe
set_option maxRecDepth 20000 in
theorem ggL_law_X6_learn : GoodIn wsL_law wsX6_learn := goodIn_r _ [460, 35, 103, 461, 23, 444, 445, 446, 34, 447, 250, 462, 284, 285, 286, 247, 108, 109, 2, 110, 369, 370, 371, 22, 372, 59, 373, 60, 61, 300, 374, 375, 376, 377, 840, 841, 842, 843, 844, 845, 846, 847, 848, 891, 892, 893, 894, 895, 896, 897, 898, 899, 880, 881, 882, 883, 884] (by decide +kernel) (by decide +kernel)
set_option maxRecDepth 20000 in
theorem gL_law_X6_learn : GoodIn wsL_law (wsV RL 54 RX6 yX6_learn wsX6_learn) := goodIn_app (goodIn_of _ (by decide +kernel)) ggL_law_X6_learn
set_option maxRecDepth 20000 in
theorem ggL_law_X7_learn : GoodIn wsL_law wsX7_learn := goodIn_r _ [466, 89, 129, 453, 454, 455, 5, 456, 133, 134, 135, 430, 431, 432, 467, 468, 469, 470, 414, 415, 416, 417, 310, 92, 344, 345, 346, 849, 850, 851, 852, 853, 854, 855, 856, 857, 858, 859, 860, 861, 862, 863, 864, 865, 866, 867, 868, 869, 870, 871] (by decide +kernel) (by decide +kernel)
set_option maxRecDepth 20000 in
theorem gL_law_X7_learn : GoodIn wsL_law (wsV RL 57 RX7 yX7_learn wsX7_learn) := goodIn_app (goodIn_of _ (by decide +kernel)) ggL_law_X7_learn
set_option maxRecDepth 20000 in
theorem ggL_law_X6_shift : GoodIn wsL_law wsX6_shift := goodIn_r _ [474, 35, 475, 103, 476, 23, 444, 445, 446, 34, 447, 250, 108, 109, 2, 110, 369, 370, 371, 22, 372, 59, 373, 60, 61, 300, 374, 375, 376, 377, 840, 841, 842, 843, 844, 845, 846, 847, 848, 891, 892, 893, 894, 895, 896, 897, 898, 899, 880, 881, 882, 883, 884] (by decide +kernel) (by decide +kernel)
set_option maxRecDepth 20000 in
theorem gL_law_X6_shift : GoodIn wsL_law (wsV RL 58 RX6 yX6_shift wsX6_shift) := goodIn_app (goodIn_of _ (by decide +kernel)) ggL_law_X6_shift
set_option maxRecDepth 20000 in
theorem ggL_law_X7_shift : GoodIn wsL_law wsX7_shift := goodIn_r _ [480, 89, 129, 453, 454, 455, 5, 456, 133, 134, 135, 467, 468, 469, 470, 414, 415, 416, 417, 310, 92, 344, 345, 346, 849, 850, 851, 852, 853, 854, 855, 856, 857, 858, 859, 860, 861, 862, 863, 864, 865, 866, 867, 868, 869, 870, 871] (by decide +kernel) (by decide +kernel)
set_option maxRecDepth 20000 in
theorem gL_law_X7_shift : GoodIn wsL_law (wsV RL 61 RX7 yX7_shift wsX7_shift) := goodIn_app (goodIn_of _ (by decide +kernel)) ggL_law_X7_shift

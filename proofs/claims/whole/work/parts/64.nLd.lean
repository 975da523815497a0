set_option maxRecDepth 20000 in
theorem ggL_law_X6_drop : GoodIn wsL_law wsX6_drop := goodIn_r _ [203, 15, 103, 104, 105, 106, 14, 107, 150, 151, 152, 153, 43, 111, 112, 113, 2, 114, 115, 116, 204, 205, 206, 207, 44, 121, 122, 123, 124, 840, 841, 842, 843, 844, 845, 846, 847, 848, 872, 873, 874] (by decide +kernel) (by decide +kernel)
set_option maxRecDepth 20000 in
theorem gL_law_X6_drop : GoodIn wsL_law (wsV RL 27 RX6 yX6_drop wsX6_drop) := goodIn_app (goodIn_of _ (by decide +kernel)) ggL_law_X6_drop
set_option maxRecDepth 20000 in
theorem ggL_law_X7_drop : GoodIn wsL_law wsX7_drop := goodIn_r _ [211, 129, 84, 98, 85, 130, 131, 5, 132, 133, 134, 135, 169, 170, 171, 172, 136, 137, 138, 139, 140, 141, 142, 143, 144, 145, 849, 850, 851, 852, 853, 854, 855, 856, 857, 858, 859, 860, 861, 862, 863, 864, 865, 866, 867, 868, 869, 870, 871] (by decide +kernel) (by decide +kernel)
set_option maxRecDepth 20000 in
theorem gL_law_X7_drop : GoodIn wsL_law (wsV RL 31 RX7 yX7_drop wsX7_drop) := goodIn_app (goodIn_of _ (by decide +kernel)) ggL_law_X7_drop
set_option maxRecDepth 20000 in
theorem ggL_law_X6_feed : GoodIn wsL_law wsX6_feed := goodIn_r _ [215, 103, 19, 216, 108, 109, 2, 110, 217, 218, 219, 18, 220, 221, 222, 223, 224, 225, 54, 840, 841, 842, 843, 844, 845, 846, 847, 848, 875, 876, 877, 878, 879] (by decide +kernel) (by decide +kernel)
set_option maxRecDepth 20000 in
theorem gL_law_X6_feed : GoodIn wsL_law (wsV RL 32 RX6 yX6_feed wsX6_feed) := goodIn_app (goodIn_of _ (by decide +kernel)) ggL_law_X6_feed
set_option maxRecDepth 20000 in
theorem ggL_law_X7_feed : GoodIn wsL_law wsX7_feed := goodIn_r _ [229, 129, 230, 231, 88, 133, 134, 5, 135, 849, 850, 851, 852, 853, 854, 855, 856, 857, 858, 859, 860, 861, 862, 863, 864, 865, 866, 867, 868, 869, 870, 871] (by decide +kernel) (by decide +kernel)
set_option maxRecDepth 20000 in
theorem gL_law_X7_feed : GoodIn wsL_law (wsV RL 35 RX7 yX7_feed wsX7_feed) := goodIn_app (goodIn_of _ (by decide +kernel)) ggL_law_X7_feed
set_option maxRecDepth 20000 in
theorem ggL_law_X6_city : GoodIn wsL_law wsX6_city := goodIn_r _ [235, 19, 36, 236, 35, 23, 237, 238, 239, 240, 18, 241, 242, 55, 221, 243, 244, 245, 34, 246, 247, 248, 249, 250, 251, 252, 253, 254, 255, 256, 257, 258, 259, 260, 261, 54, 262, 263, 264, 265, 266, 267, 268, 269, 270, 109, 2, 110, 271, 272, 273, 274, 275, 276, 277, 278, 279, 280, 281, 282, 283, 284, 285, 286, 287, 288, 289, 290, 76, 77, 78, 79, 291, 292, 293, 294, 295, 189, 190, 191, 296, 297, 298, 22, 299, 300, 840, 841, 842, 843, 844, 845, 846, 847, 848, 891, 892, 893, 894, 895, 896, 897, 898, 899, 875, 876, 877, 878, 879, 880, 881, 882, 883, 884] (by decide +kernel) (by decide +kernel)
set_option maxRecDepth 20000 in
theorem gL_law_X6_city : GoodIn wsL_law (wsV RL 36 RX6 yX6_city wsX6_city) := goodIn_app (goodIn_of _ (by decide +kernel)) ggL_law_X6_city
set_option maxRecDepth 20000 in
theorem ggL_law_X7_city : GoodIn wsL_law wsX7_city := goodIn_r _ [304, 90, 305, 306, 307, 308, 230, 309, 89, 310, 311, 312, 313, 5, 314, 315, 316, 317, 318, 319, 88, 133, 134, 135, 320, 321, 322, 323, 324, 325, 326, 327, 328, 329, 330, 331, 332, 333, 334, 335, 336, 337, 338, 339, 340, 341, 342, 343, 344, 345, 346, 849, 850, 851, 852, 853, 854, 855, 856, 857, 858, 859, 860, 861, 862, 863, 864, 865, 866, 867, 868, 869, 870, 871] (by decide +kernel) (by decide +kernel)
set_option maxRecDepth 20000 in
theorem gL_law_X7_city : GoodIn wsL_law (wsV RL 40 RX7 yX7_city wsX7_city) := goodIn_app (goodIn_of _ (by decide +kernel)) ggL_law_X7_city
set_option maxRecDepth 20000 in
theorem ggL_law_X6_fault : GoodIn wsL_law wsX6_fault := goodIn_r _ [350, 19, 351, 352, 353, 18, 354, 266, 840, 841, 842, 843, 844, 845, 846, 847, 848, 875, 876, 877, 878, 879] (by decide +kernel) (by decide +kernel)
set_option maxRecDepth 20000 in
theorem gL_law_X6_fault : GoodIn wsL_law (wsV RL 41 RX6 yX6_fault wsX6_fault) := goodIn_app (goodIn_of _ (by decide +kernel)) ggL_law_X6_fault
set_option maxRecDepth 20000 in
theorem ggL_law_X7_fault : GoodIn wsL_law wsX7_fault := goodIn_r _ [358, 324, 849, 850, 851, 852, 853, 854, 855, 856, 857, 858, 859, 860, 861, 862, 863, 864, 865, 866, 867, 868, 869, 870, 871] (by decide +kernel) (by decide +kernel)
set_option maxRecDepth 20000 in
theorem gL_law_X7_fault : GoodIn wsL_law (wsV RL 44 RX7 yX7_fault wsX7_fault) := goodIn_app (goodIn_of _ (by decide +kernel)) ggL_law_X7_fault

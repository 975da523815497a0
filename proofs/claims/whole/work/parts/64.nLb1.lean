set_option maxRecDepth 20000 in
theorem q_in_wsL_law_r12 : ∀ w ∈ wsL_law_r12, w ∈ lw_tbl := q_inq wsL_law_r12 [350, 354, 359, 363, 366, 370] [4, 93, 351, 353, 5, 356, 358, 6, 360, 362, 7, 180, 364, 365, 367, 368, 369, 371] (by decide +kernel) (by decide +kernel)
set_option maxRecDepth 20000 in
theorem q_in_wsL_law_r13 : ∀ w ∈ wsL_law_r13, w ∈ lw_tbl := q_inq wsL_law_r13 [374, 379, 384, 798] [372, 373, 376, 377, 378, 380, 381, 382, 383, 115, 795, 796, 797, 685, 684, 687, 688, 830, 693, 799] (by decide +kernel) (by decide +kernel)
set_option maxRecDepth 20000 in
theorem q_in_wsL_law_r14 : ∀ w ∈ wsL_law_r14, w ∈ lw_tbl := q_inq wsL_law_r14 [802, 806, 810, 814, 818] [801, 19, 686, 803, 805, 20, 807, 809, 21, 683, 811, 813, 22, 815, 817, 23, 819, 821, 24] (by decide +kernel) (by decide +kernel)
set_option maxRecDepth 20000 in
theorem q_in_wsL_law_r15 : ∀ w ∈ wsL_law_r15, w ∈ lw_tbl := q_inq wsL_law_r15 [822, 825, 829, 833, 388, 392, 837] [823, 824, 826, 828, 25, 831, 832, 385, 386, 387, 389, 390, 391, 834, 835, 836, 393] (by decide +kernel) (by decide +kernel)
set_option maxRecDepth 20000 in
theorem q_in_wsL_law_r16 : ∀ w ∈ wsL_law_r16, w ∈ lw_tbl := q_inq wsL_law_r16 [396, 400, 405, 408, 412] [394, 395, 401, 176, 397, 398, 399, 402, 403, 404, 114, 406, 407, 51, 409, 410, 411, 413, 414] (by decide +kernel) (by decide +kernel)
set_option maxRecDepth 20000 in
theorem q_in_wsL_law_r17 : ∀ w ∈ wsL_law_r17, w ∈ lw_tbl := q_inq wsL_law_r17 [416, 420, 424, 428, 432, 436] [415, 417, 418, 419, 421, 422, 423, 425, 427, 429, 430, 431, 433, 434, 435, 838, 839, 840] (by decide +kernel) (by decide +kernel)
set_option maxRecDepth 20000 in
theorem q_in_wsL_law_r18 : ∀ w ∈ wsL_law_r18, w ∈ lw_tbl := q_inq wsL_law_r18 [841, 845, 850, 853, 856, 859, 862] [846, 842, 844, 26, 847, 849, 27, 851, 852, 854, 855, 857, 858, 860, 861, 863, 864] (by decide +kernel) (by decide +kernel)
set_option maxRecDepth 20000 in
theorem q_in_wsL_law_r19 : ∀ w ∈ wsL_law_r19, w ∈ lw_tbl := q_inq wsL_law_r19 [865, 868, 871, 440, 444, 875] [866, 867, 869, 870, 437, 438, 439, 183, 441, 442, 443, 445, 872, 873, 874, 876, 878, 28] (by decide +kernel) (by decide +kernel)
set_option maxRecDepth 20000 in
theorem q_in_wsL_law_r20 : ∀ w ∈ wsL_law_r20, w ∈ lw_tbl := q_inq wsL_law_r20 [879, 449, 883, 887, 454] [446, 447, 448, 190, 450, 880, 881, 882, 884, 886, 29, 451, 452, 453, 193, 198, 888, 889, 890] (by decide +kernel) (by decide +kernel)
set_option maxRecDepth 20000 in
theorem q_in_wsL_law_r21 : ∀ w ∈ wsL_law_r21, w ∈ lw_tbl := q_inq wsL_law_r21 [891, 458, 462, 466, 895] [455, 456, 457, 459, 460, 461, 463, 464, 465, 182, 188, 196, 174, 892, 893, 894, 467, 468, 469] (by decide +kernel) (by decide +kernel)
set_option maxRecDepth 20000 in
theorem q_in_wsL_law_r22 : ∀ w ∈ wsL_law_r22, w ∈ lw_tbl := q_inq wsL_law_r22 [470, 899, 476, 480, 483] [471, 472, 896, 897, 898, 473, 474, 475, 477, 478, 479, 491, 481, 482, 52, 484, 485, 486, 487] (by decide +kernel) (by decide +kernel)

set_option maxRecDepth 20000 in
theorem q_in_wsL_law_r23 : ∀ w ∈ wsL_law_r23, w ∈ lw_tbl := q_inq wsL_law_r23 [489, 903, 906, 909, 495, 913, 916] [488, 490, 900, 901, 902, 904, 905, 907, 908, 492, 493, 494, 910, 911, 912, 914, 915] (by decide +kernel) (by decide +kernel)
set_option maxRecDepth 20000 in
theorem q_in_wsL_law_r24 : ∀ w ∈ wsL_law_r24, w ∈ lw_tbl := q_inq wsL_law_r24 [499, 503, 507, 510] [496, 497, 498, 500, 501, 502, 195, 137, 524, 504, 506, 8, 178, 192, 167, 508, 509, 175, 511, 512] (by decide +kernel) (by decide +kernel)
set_option maxRecDepth 20000 in
theorem q_in_wsL_law_r25 : ∀ w ∈ wsL_law_r25, w ∈ lw_tbl := q_inq wsL_law_r25 [518, 522, 527, 531, 535] [514, 515, 517, 9, 519, 521, 10, 523, 525, 526, 528, 529, 530, 532, 533, 534, 917, 918, 919] (by decide +kernel) (by decide +kernel)
set_option maxRecDepth 20000 in
theorem q_in_wsL_law_r26 : ∀ w ∈ wsL_law_r26, w ∈ lw_tbl := q_inq wsL_law_r26 [920, 924, 928, 539, 932, 544] [921, 923, 30, 925, 927, 31, 536, 537, 538, 169, 540, 929, 930, 931, 541, 542, 543, 545] (by decide +kernel) (by decide +kernel)
set_option maxRecDepth 20000 in
theorem q_in_wsL_law_r27 : ∀ w ∈ wsL_law_r27, w ∈ lw_tbl := q_inq wsL_law_r27 [549, 554, 936, 940, 558] [546, 547, 548, 550, 551, 552, 553, 933, 934, 935, 937, 939, 32, 555, 556, 557, 941, 942, 943] (by decide +kernel) (by decide +kernel)
set_option maxRecDepth 20000 in
theorem q_in_wsL_law_r28 : ∀ w ∈ wsL_law_r28, w ∈ lw_tbl := q_inq wsL_law_r28 [944, 562, 566, 570, 948, 952] [559, 560, 561, 563, 565, 11, 567, 568, 569, 945, 946, 947, 949, 951, 33, 571, 572, 573] (by decide +kernel) (by decide +kernel)
set_option maxRecDepth 20000 in
theorem q_in_wsL_law_r29 : ∀ w ∈ wsL_law_r29, w ∈ lw_tbl := q_inq wsL_law_r29 [574, 956, 578, 593, 582, 586, 590] [186, 953, 954, 955, 575, 576, 577, 591, 592, 579, 580, 581, 585, 587, 588, 589, 957] (by decide +kernel) (by decide +kernel)
set_option maxRecDepth 20000 in
theorem q_in_wsL_law_r30 : ∀ w ∈ wsL_law_r30, w ∈ lw_tbl := q_inq wsL_law_r30 [960, 597, 964, 604] [958, 959, 594, 595, 596, 598, 599, 600, 961, 962, 963, 965, 966, 967, 601, 602, 603, 968, 969, 970] (by decide +kernel) (by decide +kernel)
set_option maxRecDepth 20000 in
theorem q_in_wsL_law_r31 : ∀ w ∈ wsL_law_r31, w ∈ lw_tbl := q_inq wsL_law_r31 [971, 608, 975, 612, 979, 983] [605, 606, 607, 972, 973, 974, 609, 610, 611, 976, 977, 978, 980, 982, 34, 613, 614, 615] (by decide +kernel) (by decide +kernel)
set_option maxRecDepth 20000 in
theorem q_in_wsL_law_r32 : ∀ w ∈ wsL_law_r32, w ∈ lw_tbl := q_inq wsL_law_r32 [616, 987, 622, 626, 630] [617, 984, 985, 986, 619, 620, 621, 623, 624, 625, 154, 627, 629, 12, 185, 631, 633, 635, 637] (by decide +kernel) (by decide +kernel)
set_option maxRecDepth 20000 in
theorem q_in_wsL_law_r33 : ∀ w ∈ wsL_law_r33, w ∈ lw_tbl := q_inq wsL_law_r33 [638, 642, 991, 995, 999] [13, 189, 197, 639, 641, 14, 988, 989, 990, 698, 992, 994, 35, 996, 998, 36, 1000, 1002, 37] (by decide +kernel) (by decide +kernel)

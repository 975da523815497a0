set_option maxRecDepth 20000 in
theorem q_in_wsL_law_r34 : ∀ w ∈ wsL_law_r34, w ∈ lw_tbl := q_inq wsL_law_r34 [1003, 1007, 1011, 646, 650, 1015] [1004, 1006, 38, 1008, 1010, 39, 643, 644, 645, 647, 648, 649, 651, 1012, 1013, 1014, 652, 653] (by decide +kernel) (by decide +kernel)
set_option maxRecDepth 20000 in
theorem q_in_wsL_law_r35 : ∀ w ∈ wsL_law_r35, w ∈ lw_tbl := q_inq wsL_law_r35 [655, 659, 664, 1019, 668, 1023] [654, 172, 656, 657, 658, 660, 661, 662, 663, 1016, 1017, 1018, 665, 666, 667, 1020, 1021, 1022] (by decide +kernel) (by decide +kernel)
theorem q_in_wsX60 : ∀ w ∈ wsX60, w ∈ lw_tbl := by decide +kernel
theorem q_in_wsX70 : ∀ w ∈ wsX70, w ∈ lw_tbl := by decide +kernel
theorem q_in_wsX40 : ∀ w ∈ wsX40, w ∈ lw_tbl := by decide +kernel
theorem q_in_wsX50 : ∀ w ∈ wsX50, w ∈ lw_tbl := by decide +kernel
theorem q_in_wsX00 : ∀ w ∈ wsX00, w ∈ lw_tbl := by decide +kernel
theorem q_in_wsX30 : ∀ w ∈ wsX30, w ∈ lw_tbl := by decide +kernel
theorem q_in_wsX10 : ∀ w ∈ wsX10, w ∈ lw_tbl := by decide +kernel
theorem q_in_wsX20 : ∀ w ∈ wsX20, w ∈ lw_tbl := by decide +kernel

theorem q_inq {big : List Cond} (ws : List Cond) (ps pn : List Nat) (hp : ws.filter k2_isCode = ps.filterMap (fun i => big[i]?)) (hn : ws.filter (fun w => !k2_isCode w) = pn.filterMap (fun i => big[i]?)) : ∀ w ∈ ws, w ∈ big := by
  intro w hw
  by_cases hc : k2_isCode w = true
  · have h1 : w ∈ ws.filter k2_isCode := List.mem_filter.mpr ⟨hw, hc⟩
    rw [hp] at h1
    obtain ⟨i, -, hi⟩ := List.mem_filterMap.mp h1
    exact List.mem_of_getElem? hi
  · have h1 : w ∈ ws.filter (fun w => !k2_isCode w) := List.mem_filter.mpr ⟨hw, by simp [hc]⟩
    rw [hn] at h1
    obtain ⟨i, -, hi⟩ := List.mem_filterMap.mp h1
    exact List.mem_of_getElem? hi
theorem q_inA {T a b : List Cond} (ha : ∀ w ∈ a, w ∈ T) (hb : ∀ w ∈ b, w ∈ T) : ∀ w ∈ a ++ b, w ∈ T := fun w h => (List.mem_append.mp h).elim (ha w) (hb w)
set_option maxRecDepth 20000 in
theorem q_in_wsL_law_r1 : ∀ w ∈ wsL_law_r1, w ∈ lw_tbl := q_inq wsL_law_r1 [57, 60] [53, 54, 41, 669, 670, 49, 55, 56, 58, 59, 61, 62, 42, 219, 83, 84, 44, 220, 105, 106, 45, 221] (by decide +kernel) (by decide +kernel)
set_option maxRecDepth 20000 in
theorem q_in_wsL_law_r2 : ∀ w ∈ wsL_law_r2, w ∈ lw_tbl := q_inq wsL_law_r2 [65] [127, 128, 46, 222, 147, 148, 47, 223, 160, 161, 48, 224, 225, 226, 63, 64, 66, 82, 72, 73, 67, 74, 69] (by decide +kernel) (by decide +kernel)
set_option maxRecDepth 20000 in
theorem q_in_wsL_law_r3 : ∀ w ∈ wsL_law_r3, w ∈ lw_tbl := q_inq wsL_law_r3 [71, 87, 109, 131, 151] [70, 43, 86, 88, 89, 92, 108, 110, 111, 112, 113, 130, 132, 133, 134, 135, 136, 150, 152] (by decide +kernel) (by decide +kernel)
set_option maxRecDepth 20000 in
theorem q_in_wsL_law_r4 : ∀ w ∈ wsL_law_r4, w ∈ lw_tbl := q_inq wsL_law_r4 [164, 673] [153, 163, 165, 184, 187, 191, 194, 671, 672, 674, 676, 677, 678, 679, 681, 689, 690, 691, 692, 694, 746, 695] (by decide +kernel) (by decide +kernel)
set_option maxRecDepth 20000 in
theorem q_in_wsL_law_r5 : ∀ w ∈ wsL_law_r5, w ∈ lw_tbl := q_inq wsL_law_r5 [250, 254, 257, 262] [696, 697, 675, 247, 248, 249, 258, 251, 252, 253, 255, 256, 259, 261, 0, 227, 263, 264, 265, 266] (by decide +kernel) (by decide +kernel)
set_option maxRecDepth 20000 in
theorem q_in_wsL_law_r6 : ∀ w ∈ wsL_law_r6, w ∈ lw_tbl := q_inq wsL_law_r6 [267, 271, 750, 753, 756, 761] [268, 270, 1, 747, 748, 749, 757, 751, 752, 754, 755, 758, 760, 15, 680, 762, 763, 765] (by decide +kernel) (by decide +kernel)
set_option maxRecDepth 20000 in
theorem q_in_wsL_law_r7 : ∀ w ∈ wsL_law_r7, w ∈ lw_tbl := q_inq wsL_law_r7 [766, 275, 279, 283, 287, 290] [16, 272, 273, 274, 276, 277, 278, 280, 281, 282, 284, 285, 286, 288, 289, 767, 768, 769] (by decide +kernel) (by decide +kernel)
set_option maxRecDepth 20000 in
theorem q_in_wsL_law_r8 : ∀ w ∈ wsL_law_r8, w ∈ lw_tbl := q_inq wsL_law_r8 [770, 774, 777, 294, 298, 302] [771, 773, 17, 775, 776, 291, 292, 293, 295, 296, 297, 299, 300, 301, 303, 305, 304, 50] (by decide +kernel) (by decide +kernel)
set_option maxRecDepth 20000 in
theorem q_in_wsL_law_r9 : ∀ w ∈ wsL_law_r9, w ∈ lw_tbl := q_inq wsL_law_r9 [781, 785, 309, 313, 789, 317] [778, 779, 780, 782, 784, 18, 306, 307, 308, 310, 311, 312, 786, 787, 788, 314, 315, 316] (by decide +kernel) (by decide +kernel)
set_option maxRecDepth 20000 in
theorem q_in_wsL_law_r10 : ∀ w ∈ wsL_law_r10, w ∈ lw_tbl := q_inq wsL_law_r10 [321, 326, 793, 330] [322, 318, 319, 320, 90, 323, 324, 325, 790, 791, 792, 682, 794, 327, 328, 329, 375, 179, 331, 332] (by decide +kernel) (by decide +kernel)
set_option maxRecDepth 20000 in
theorem q_in_wsL_law_r11 : ∀ w ∈ wsL_law_r11, w ∈ lw_tbl := q_inq wsL_law_r11 [334, 338, 342, 346] [333, 91, 335, 336, 337, 166, 170, 173, 177, 181, 339, 341, 2, 168, 171, 343, 345, 3, 347, 349] (by decide +kernel) (by decide +kernel)

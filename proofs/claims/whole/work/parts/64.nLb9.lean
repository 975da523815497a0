set_option maxRecDepth 20000 in
theorem wsL_law_in : ∀ w ∈ wsL_law, w ∈ lw_tbl := q_inA (q_inA (q_inA (q_inA (q_inA (q_inA (q_inA (q_inA (q_inA (q_inA q_in_wsL_law_r1 (q_inA q_in_wsL_law_r2 (q_inA q_in_wsL_law_r3 (q_inA q_in_wsL_law_r4 (q_inA q_in_wsL_law_r5 (q_inA q_in_wsL_law_r6 (q_inA q_in_wsL_law_r7 (q_inA q_in_wsL_law_r8 (q_inA q_in_wsL_law_r9 (q_inA q_in_wsL_law_r10 (q_inA q_in_wsL_law_r11 (q_inA q_in_wsL_law_r12 (q_inA q_in_wsL_law_r13 (q_inA q_in_wsL_law_r14 (q_inA q_in_wsL_law_r15 (q_inA q_in_wsL_law_r16 (q_inA q_in_wsL_law_r17 (q_inA q_in_wsL_law_r18 (q_inA q_in_wsL_law_r19 (q_inA q_in_wsL_law_r20 (q_inA q_in_wsL_law_r21 (q_inA q_in_wsL_law_r22 (q_inA q_in_wsL_law_r23 (q_inA q_in_wsL_law_r24 (q_inA q_in_wsL_law_r25 (q_inA q_in_wsL_law_r26 (q_inA q_in_wsL_law_r27 (q_inA q_in_wsL_law_r28 (q_inA q_in_wsL_law_r29 (q_inA q_in_wsL_law_r30 (q_inA q_in_wsL_law_r31 (q_inA q_in_wsL_law_r32 (q_inA q_in_wsL_law_r33 (q_inA q_in_wsL_law_r34 (q_in_wsL_law_r35))))))))))))))))))))))))))))))))))) q_in_wsX60) q_in_wsX70) q_in_wsX40) q_in_wsX50) q_in_wsX00) q_in_wsX30) q_in_wsX10) q_in_wsX20) (fun w h => absurd h List.not_mem_nil)
theorem inlX0 : ∀ w ∈ wsX00, w ∈ wsL_law := fun _ h => List.mem_append_left _ (List.mem_append_left _ (List.mem_append_left _ (List.mem_append_left _ (List.mem_append_right _ h))))
theorem inX0 : ∀ w ∈ wsX00, w ∈ lw_tbl := fun w h => wsL_law_in w (inlX0 w h)
theorem inlX1 : ∀ w ∈ wsX10, w ∈ wsL_law := fun _ h => List.mem_append_left _ (List.mem_append_left _ (List.mem_append_right _ h))
theorem inX1 : ∀ w ∈ wsX10, w ∈ lw_tbl := fun w h => wsL_law_in w (inlX1 w h)
theorem inlX2 : ∀ w ∈ wsX20, w ∈ wsL_law := fun _ h => List.mem_append_left _ (List.mem_append_right _ h)
theorem inX2 : ∀ w ∈ wsX20, w ∈ lw_tbl := fun w h => wsL_law_in w (inlX2 w h)
theorem inlX3 : ∀ w ∈ wsX30, w ∈ wsL_law := fun _ h => List.mem_append_left _ (List.mem_append_left _ (List.mem_append_left _ (List.mem_append_right _ h)))
theorem inX3 : ∀ w ∈ wsX30, w ∈ lw_tbl := fun w h => wsL_law_in w (inlX3 w h)
theorem inlX4 : ∀ w ∈ wsX40, w ∈ wsL_law := fun _ h => List.mem_append_left _ (List.mem_append_left _ (List.mem_append_left _ (List.mem_append_left _ (List.mem_append_left _ (List.mem_append_left _ (List.mem_append_right _ h))))))
theorem inX4 : ∀ w ∈ wsX40, w ∈ lw_tbl := fun w h => wsL_law_in w (inlX4 w h)
theorem inlX5 : ∀ w ∈ wsX50, w ∈ wsL_law := fun _ h => List.mem_append_left _ (List.mem_append_left _ (List.mem_append_left _ (List.mem_append_left _ (List.mem_append_left _ (List.mem_append_right _ h)))))
theorem inX5 : ∀ w ∈ wsX50, w ∈ lw_tbl := fun w h => wsL_law_in w (inlX5 w h)
theorem inlX6 : ∀ w ∈ wsX60, w ∈ wsL_law := fun _ h => List.mem_append_left _ (List.mem_append_left _ (List.mem_append_left _ (List.mem_append_left _ (List.mem_append_left _ (List.mem_append_left _ (List.mem_append_left _ (List.mem_append_left _ (List.mem_append_right _ h))))))))
theorem inX6 : ∀ w ∈ wsX60, w ∈ lw_tbl := fun w h => wsL_law_in w (inlX6 w h)
theorem inlX7 : ∀ w ∈ wsX70, w ∈ wsL_law := fun _ h => List.mem_append_left _ (List.mem_append_left _ (List.mem_append_left _ (List.mem_append_left _ (List.mem_append_left _ (List.mem_append_left _ (List.mem_append_left _ (List.mem_append_right _ h)))))))
theorem inX7 : ∀ w ∈ wsX70, w ∈ lw_tbl := fun w h => wsL_law_in w (inlX7 w h)
theorem inJ6 : ∀ w ∈ wsJ60, w ∈ lw_tbl := by decide +kernel
theorem inJ9 : ∀ w ∈ wsJ90, w ∈ lw_tbl := by decide +kernel
theorem inJ10 : ∀ w ∈ wsJ100, w ∈ lw_tbl := by decide +kernel
theorem inJ7 : ∀ w ∈ wsJ70, w ∈ lw_tbl := by decide +kernel

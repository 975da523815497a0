set_option maxHeartbeats 4000000 in
set_option maxRecDepth 100000 in
/-- the law's loop -/
theorem law_loop {p : Program} {e : Env} {s : State} {m : MethodId} {below : List Frame} {meth : Method} {c : Code} (l : Launch) {b L : Nat} {xs : Nat → Int32} (hL : L ≤ 384) (C0 : lw_At p s m meth c b L xs) (D : va_G) (cy : Nat → ClassId) (hK : q_K D cy s) (hZS : q_St (fun q => s.heap.size ≤ q) s s.heap) (hZA : q_StA (fun q => s.heap.size ≤ q) s s.heap) (x0 r0 rl rz ri t0 tb q qs qc qb s0 ss sl sb k0 kt h kA tA eA oA j0 jk jt je jo im g0 gk0 gt0 ge0 go0 g1 gk1 gt1 ge1 go1 m0 ml mm mit ms mt nw dr tr pa ig kx be tc : Nat) (gI gsI glI gim : Nat → Option Nat) (gR gS gL : Nat → Nat) (hgI : ∀ r, r < 8 → gI r = some (gR r)) (hgS : ∀ i, i < 24 → gsI i = some (gS i)) (hgL : ∀ i, i < 7 → glI i = some (gL i)) (hg0 : gim 0 = some g0) (hg1 : gim 1 = some g1) : ∀ (fu j : Nat), 6 * j ≤ L → L < 6 * j + fu → ∀ (H : Heap) (locs : List Loc), lwI D cy (fun q => s.heap.size ≤ q) H x0 r0 rl rz ri t0 tb q qs qc qb s0 ss sl sb k0 kt h kA tA eA oA j0 jk jt je jo im g0 gk0 gt0 ge0 go0 g1 gk1 gt1 ge1 go1 m0 ml mm mit ms mt nw dr tr pa ig kx be tc gI gsI glI gim gR gS gL → va_S (fun q => s.heap.size ≤ q) s.heap H locs → ∀ ls : Array Slot, lv_has ls 4 [(0, .ref b), (1, .ref x0), (2, .ref m0), (3, .int (nI (6 * j)))] → W p l e room_1 s m #[Value.ref b] below meth c H locs 600000 7302250 (lw_Z below #[Value.ref b] s) (F0 m 18 ls []) := by
  obtain ⟨hx, hb, hr, hml, hown, hts0, hX, hbl, hlocks, hgv⟩ := id C0
  have hbA : ¬ (fun q : Nat => s.heap.size ≤ q) b := Nat.not_le.mpr hbl
  intro fu
  induction fu with
  | zero =>
    intro j h1 h2
    exact absurd h2 (by omega)
  | succ fu ih =>
    intro j h1 h2 H locs hI hS ls hl
    refine lv_iload_n hx hb dL_law_18 rfl (lv_at hl 3 rfl) ?_
    refine lv_aload_n hx hb dL_law_19 rfl (lv_at hl 0 rfl) ?_
    refine va_slen hx hb hX hbl hbA hS dL_law_20 ?_
    refine q_top (y := nI L) rfl ?_
    refine lv_bipush (v := nI 6) hx hb dL_law_21 (by decide) ?_
    refine lv_isub hx hb dL_law_23 ?_
    refine lv_icmp_gt (tgt := 1141) hx hb dL_law_24 (by decide) (fun c1 => ?_) (fun c1 => ?_)
    · refine lv_iconst (v := 1) hx hb dL_law_1141 (by decide) ?_
      refine va_forget hS.2.2 ?_
      exact lw_ret hx hb hr hlocks dL_law_1142
    · have hj : 6 * j + 6 ≤ L := Nat.le_of_not_lt (fun q => c1 ((lw_cnt hL (by omega)).mpr q))
      have KK : ∀ (H : Heap) (locs : List Loc), lwI D cy (fun q => s.heap.size ≤ q) H x0 r0 rl rz ri t0 tb q qs qc qb s0 ss sl sb k0 kt h kA tA eA oA j0 jk jt je jo im g0 gk0 gt0 ge0 go0 g1 gk1 gt1 ge1 go1 m0 ml mm mit ms mt nw dr tr pa ig kx be tc gI gsI glI gim gR gS gL → va_S (fun q => s.heap.size ≤ q) s.heap H locs → ∀ ls : Array Slot, lv_has ls 4 [(0, .ref b), (1, .ref x0), (2, .ref m0), (3, .int (nI (6 * j)))] → W p l e room_1 s m #[Value.ref b] below meth c H locs 600000 7302250 (lw_Z below #[Value.ref b] s) (F0 m 1135 ls []) := by
        intro H locs hI hS ls hl
        refine lv_iinc (v := nI (6 * (j + 1))) (lv' := [(3, .int (nI (6 * (j + 1)))), (0, .ref b), (1, .ref x0), (2, .ref m0)]) hx hb dL_law_1135 hl (k := 3) rfl (by rw [Nat.mul_succ]; exact q_inc (6 * j) 6) (by decide) rfl (fun ls hl => ?_)
        refine lv_goto (tgt := 18) hx hb dL_law_1138 (by decide) ?_
        exact ih (j + 1) (by omega) (by omega) H locs hI hS ls (lv_sub hl [1, 2, 3, 0] rfl)
      obtain ⟨a0, ha0⟩ : ∃ y : Int32, y = xs (nI (6 * j)).toNatClampNeg := ⟨_, rfl⟩
      refine lv_aload_n hx hb dL_law_27 rfl (lv_at hl 0 rfl) ?_
      refine lv_iload_n hx hb dL_law_28 rfl (lv_at hl 3 rfl) ?_
      refine va_sld hx hb hX hbl hbA hS (vp_in_nI (by omega) (by omega)) dL_law_29 ?_
      refine q_top (y := a0) ha0.symm ?_
      refine lv_bipush (v := nI 31) hx hb dL_law_30 (by decide) ?_
      refine lv_iand hx hb dL_law_32 ?_
      obtain ⟨k, hk, hk2⟩ := lw_31 a0
      refine q_top (y := nI k) hk2 ?_
      clear hk2
      rcases (show k = 0 ∨ k = 1 ∨ k = 2 ∨ k = 3 ∨ k = 4 ∨ k = 5 ∨ k = 6 ∨ k = 7 ∨ k = 8 ∨ k = 9 ∨ k = 10 ∨ k = 11 ∨ k = 12 ∨ k = 13 ∨ k = 14 ∨ k = 15 ∨ k = 16 ∨ k = 17 ∨ k = 18 ∨ k = 19 ∨ k = 20 ∨ k = 21 ∨ k = 22 ∨ k = 23 ∨ k = 24 ∨ k = 25 ∨ k = 26 ∨ k = 27 ∨ k = 28 ∨ k = 29 ∨ k = 30 ∨ k = 31 by omega) with rfl | rfl | rfl | rfl | rfl | rfl | rfl | rfl | rfl | rfl | rfl | rfl | rfl | rfl | rfl | rfl | rfl | rfl | rfl | rfl | rfl | rfl | rfl | rfl | rfl | rfl | rfl | rfl | rfl | rfl | rfl | rfl
      · refine lv_tableIn (off := 139) (tgt := 172) hx hb dL_law_33 (by decide) (by decide) (by decide) (by decide) ?_
        exact lc_row l hL C0 D cy hK hZS hZA x0 r0 rl rz ri t0 tb q qs qc qb s0 ss sl sb k0 kt h kA tA eA oA j0 jk jt je jo im g0 gk0 gt0 ge0 go0 g1 gk1 gt1 ge1 go1 m0 ml mm mit ms mt nw dr tr pa ig kx be tc gI gsI glI gim gR gS gL hgI hgS hgL hg0 hg1 j hj H locs hS hI KK ls hl
      · refine lv_tableIn (off := 182) (tgt := 215) hx hb dL_law_33 (by decide) (by decide) (by decide) (by decide) ?_
        exact lc_set l hL C0 D cy hK hZS hZA x0 r0 rl rz ri t0 tb q qs qc qb s0 ss sl sb k0 kt h kA tA eA oA j0 jk jt je jo im g0 gk0 gt0 ge0 go0 g1 gk1 gt1 ge1 go1 m0 ml mm mit ms mt nw dr tr pa ig kx be tc gI gsI glI gim gR gS gL hgI hgS hgL hg0 hg1 j hj H locs hS hI KK ls hl
      · refine lv_tableIn (off := 225) (tgt := 258) hx hb dL_law_33 (by decide) (by decide) (by decide) (by decide) ?_
        exact lc_copy l hL C0 D cy hK hZS hZA x0 r0 rl rz ri t0 tb q qs qc qb s0 ss sl sb k0 kt h kA tA eA oA j0 jk jt je jo im g0 gk0 gt0 ge0 go0 g1 gk1 gt1 ge1 go1 m0 ml mm mit ms mt nw dr tr pa ig kx be tc gI gsI glI gim gR gS gL hgI hgS hgL hg0 hg1 j hj H locs hS hI KK ls hl
      · refine lv_tableIn (off := 288) (tgt := 321) hx hb dL_law_33 (by decide) (by decide) (by decide) (by decide) ?_
        exact lc_drop l hL C0 D cy hK hZS hZA x0 r0 rl rz ri t0 tb q qs qc qb s0 ss sl sb k0 kt h kA tA eA oA j0 jk jt je jo im g0 gk0 gt0 ge0 go0 g1 gk1 gt1 ge1 go1 m0 ml mm mit ms mt nw dr tr pa ig kx be tc gI gsI glI gim gR gS gL hgI hgS hgL hg0 hg1 j hj H locs hS hI KK ls hl
      · refine lv_tableIn (off := 311) (tgt := 344) hx hb dL_law_33 (by decide) (by decide) (by decide) (by decide) ?_
        exact lc_feed l hL C0 D cy hK hZS hZA x0 r0 rl rz ri t0 tb q qs qc qb s0 ss sl sb k0 kt h kA tA eA oA j0 jk jt je jo im g0 gk0 gt0 ge0 go0 g1 gk1 gt1 ge1 go1 m0 ml mm mit ms mt nw dr tr pa ig kx be tc gI gsI glI gim gR gS gL hgI hgS hgL hg0 hg1 j hj H locs hS hI KK ls hl
      · refine lv_tableIn (off := 334) (tgt := 367) hx hb dL_law_33 (by decide) (by decide) (by decide) (by decide) ?_
        exact lc_city l hL C0 D cy hK hZS hZA x0 r0 rl rz ri t0 tb q qs qc qb s0 ss sl sb k0 kt h kA tA eA oA j0 jk jt je jo im g0 gk0 gt0 ge0 go0 g1 gk1 gt1 ge1 go1 m0 ml mm mit ms mt nw dr tr pa ig kx be tc gI gsI glI gim gR gS gL hgI hgS hgL hg0 hg1 j hj H locs hS hI KK ls hl
      · refine lv_tableIn (off := 347) (tgt := 380) hx hb dL_law_33 (by decide) (by decide) (by decide) (by decide) ?_
        exact lc_fault l hL C0 D cy hK hZS hZA x0 r0 rl rz ri t0 tb q qs qc qb s0 ss sl sb k0 kt h kA tA eA oA j0 jk jt je jo im g0 gk0 gt0 ge0 go0 g1 gk1 gt1 ge1 go1 m0 ml mm mit ms mt nw dr tr pa ig kx be tc gI gsI glI gim gR gS gL hgI hgS hgL hg0 hg1 j hj H locs hS hI KK ls hl
      · refine lv_tableIn (off := 360) (tgt := 393) hx hb dL_law_33 (by decide) (by decide) (by decide) (by decide) ?_
        exact lc_days l hL C0 D cy hK hZS hZA x0 r0 rl rz ri t0 tb q qs qc qb s0 ss sl sb k0 kt h kA tA eA oA j0 jk jt je jo im g0 gk0 gt0 ge0 go0 g1 gk1 gt1 ge1 go1 m0 ml mm mit ms mt nw dr tr pa ig kx be tc gI gsI glI gim gR gS gL hgI hgS hgL hg0 hg1 j hj H locs hS hI KK ls hl
      · refine lv_tableIn (off := 383) (tgt := 416) hx hb dL_law_33 (by decide) (by decide) (by decide) (by decide) ?_
        exact lc_bribe l hL C0 D cy hK hZS hZA x0 r0 rl rz ri t0 tb q qs qc qb s0 ss sl sb k0 kt h kA tA eA oA j0 jk jt je jo im g0 gk0 gt0 ge0 go0 g1 gk1 gt1 ge1 go1 m0 ml mm mit ms mt nw dr tr pa ig kx be tc gI gsI glI gim gR gS gL hgI hgS hgL hg0 hg1 j hj H locs hS hI KK ls hl
      · refine lv_tableIn (off := 416) (tgt := 449) hx hb dL_law_33 (by decide) (by decide) (by decide) (by decide) ?_
        exact lc_learn l hL C0 D cy hK hZS hZA x0 r0 rl rz ri t0 tb q qs qc qb s0 ss sl sb k0 kt h kA tA eA oA j0 jk jt je jo im g0 gk0 gt0 ge0 go0 g1 gk1 gt1 ge1 go1 m0 ml mm mit ms mt nw dr tr pa ig kx be tc gI gsI glI gim gR gS gL hgI hgS hgL hg0 hg1 j hj H locs hS hI KK ls hl
      · refine lv_tableIn (off := 449) (tgt := 482) hx hb dL_law_33 (by decide) (by decide) (by decide) (by decide) ?_
        exact lc_shift l hL C0 D cy hK hZS hZA x0 r0 rl rz ri t0 tb q qs qc qb s0 ss sl sb k0 kt h kA tA eA oA j0 jk jt je jo im g0 gk0 gt0 ge0 go0 g1 gk1 gt1 ge1 go1 m0 ml mm mit ms mt nw dr tr pa ig kx be tc gI gsI glI gim gR gS gL hgI hgS hgL hg0 hg1 j hj H locs hS hI KK ls hl
      · refine lv_tableIn (off := 482) (tgt := 515) hx hb dL_law_33 (by decide) (by decide) (by decide) (by decide) ?_
        exact lc_undo l hL C0 D cy hK hZS hZA x0 r0 rl rz ri t0 tb q qs qc qb s0 ss sl sb k0 kt h kA tA eA oA j0 jk jt je jo im g0 gk0 gt0 ge0 go0 g1 gk1 gt1 ge1 go1 m0 ml mm mit ms mt nw dr tr pa ig kx be tc gI gsI glI gim gR gS gL hgI hgS hgL hg0 hg1 j hj H locs hS hI KK ls hl
      · refine lv_tableIn (off := 495) (tgt := 528) hx hb dL_law_33 (by decide) (by decide) (by decide) (by decide) ?_
        exact lc_clue l hL C0 D cy hK hZS hZA x0 r0 rl rz ri t0 tb q qs qc qb s0 ss sl sb k0 kt h kA tA eA oA j0 jk jt je jo im g0 gk0 gt0 ge0 go0 g1 gk1 gt1 ge1 go1 m0 ml mm mit ms mt nw dr tr pa ig kx be tc gI gsI glI gim gR gS gL hgI hgS hgL hg0 hg1 j hj H locs hS hI KK ls hl
      · refine lv_tableIn (off := 528) (tgt := 561) hx hb dL_law_33 (by decide) (by decide) (by decide) (by decide) ?_
        exact lc_ahead l hL C0 D cy hK hZS hZA x0 r0 rl rz ri t0 tb q qs qc qb s0 ss sl sb k0 kt h kA tA eA oA j0 jk jt je jo im g0 gk0 gt0 ge0 go0 g1 gk1 gt1 ge1 go1 m0 ml mm mit ms mt nw dr tr pa ig kx be tc gI gsI glI gim gR gS gL hgI hgS hgL hg0 hg1 j hj H locs hS hI KK ls hl
      · refine lv_tableIn (off := 561) (tgt := 594) hx hb dL_law_33 (by decide) (by decide) (by decide) (by decide) ?_
        exact lc_first l hL C0 D cy hK hZS hZA x0 r0 rl rz ri t0 tb q qs qc qb s0 ss sl sb k0 kt h kA tA eA oA j0 jk jt je jo im g0 gk0 gt0 ge0 go0 g1 gk1 gt1 ge1 go1 m0 ml mm mit ms mt nw dr tr pa ig kx be tc gI gsI glI gim gR gS gL hgI hgS hgL hg0 hg1 j hj H locs hS hI KK ls hl
      · refine lv_tableIn (off := 584) (tgt := 617) hx hb dL_law_33 (by decide) (by decide) (by decide) (by decide) ?_
        exact lc_rota l hL C0 D cy hK hZS hZA x0 r0 rl rz ri t0 tb q qs qc qb s0 ss sl sb k0 kt h kA tA eA oA j0 jk jt je jo im g0 gk0 gt0 ge0 go0 g1 gk1 gt1 ge1 go1 m0 ml mm mit ms mt nw dr tr pa ig kx be tc gI gsI glI gim gR gS gL hgI hgS hgL hg0 hg1 j hj H locs hS hI KK ls hl
      · refine lv_tableIn (off := 617) (tgt := 650) hx hb dL_law_33 (by decide) (by decide) (by decide) (by decide) ?_
        exact lc_when l hL C0 D cy hK hZS hZA x0 r0 rl rz ri t0 tb q qs qc qb s0 ss sl sb k0 kt h kA tA eA oA j0 jk jt je jo im g0 gk0 gt0 ge0 go0 g1 gk1 gt1 ge1 go1 m0 ml mm mit ms mt nw dr tr pa ig kx be tc gI gsI glI gim gR gS gL hgI hgS hgL hg0 hg1 j hj H locs hS hI KK ls hl
      · refine lv_tableIn (off := 650) (tgt := 683) hx hb dL_law_33 (by decide) (by decide) (by decide) (by decide) ?_
        exact lc_enough l hL C0 D cy hK hZS hZA x0 r0 rl rz ri t0 tb q qs qc qb s0 ss sl sb k0 kt h kA tA eA oA j0 jk jt je jo im g0 gk0 gt0 ge0 go0 g1 gk1 gt1 ge1 go1 m0 ml mm mit ms mt nw dr tr pa ig kx be tc gI gsI glI gim gR gS gL hgI hgS hgL hg0 hg1 j hj H locs hS hI KK ls hl
      · refine lv_tableIn (off := 683) (tgt := 716) hx hb dL_law_33 (by decide) (by decide) (by decide) (by decide) ?_
        exact lc_clash l hL C0 D cy hK hZS hZA x0 r0 rl rz ri t0 tb q qs qc qb s0 ss sl sb k0 kt h kA tA eA oA j0 jk jt je jo im g0 gk0 gt0 ge0 go0 g1 gk1 gt1 ge1 go1 m0 ml mm mit ms mt nw dr tr pa ig kx be tc gI gsI glI gim gR gS gL hgI hgS hgL hg0 hg1 j hj H locs hS hI KK ls hl
      · refine lv_tableIn (off := 716) (tgt := 749) hx hb dL_law_33 (by decide) (by decide) (by decide) (by decide) ?_
        exact lc_bribes l hL C0 D cy hK hZS hZA x0 r0 rl rz ri t0 tb q qs qc qb s0 ss sl sb k0 kt h kA tA eA oA j0 jk jt je jo im g0 gk0 gt0 ge0 go0 g1 gk1 gt1 ge1 go1 m0 ml mm mit ms mt nw dr tr pa ig kx be tc gI gsI glI gim gR gS gL hgI hgS hgL hg0 hg1 j hj H locs hS hI KK ls hl
      · refine lv_tableIn (off := 759) (tgt := 792) hx hb dL_law_33 (by decide) (by decide) (by decide) (by decide) ?_
        exact lc_fits l hL C0 D cy hK hZS hZA x0 r0 rl rz ri t0 tb q qs qc qb s0 ss sl sb k0 kt h kA tA eA oA j0 jk jt je jo im g0 gk0 gt0 ge0 go0 g1 gk1 gt1 ge1 go1 m0 ml mm mit ms mt nw dr tr pa ig kx be tc gI gsI glI gim gR gS gL hgI hgS hgL hg0 hg1 j hj H locs hS hI KK ls hl
      · refine lv_tableIn (off := 822) (tgt := 855) hx hb dL_law_33 (by decide) (by decide) (by decide) (by decide) ?_
        exact lc_strike l hL C0 D cy hK hZS hZA x0 r0 rl rz ri t0 tb q qs qc qb s0 ss sl sb k0 kt h kA tA eA oA j0 jk jt je jo im g0 gk0 gt0 ge0 go0 g1 gk1 gt1 ge1 go1 m0 ml mm mit ms mt nw dr tr pa ig kx be tc gI gsI glI gim gR gS gL hgI hgS hgL hg0 hg1 j hj H locs hS hI KK ls hl
      · refine lv_tableIn (off := 865) (tgt := 898) hx hb dL_law_33 (by decide) (by decide) (by decide) (by decide) ?_
        exact lc_drawn l hL C0 D cy hK hZS hZA x0 r0 rl rz ri t0 tb q qs qc qb s0 ss sl sb k0 kt h kA tA eA oA j0 jk jt je jo im g0 gk0 gt0 ge0 go0 g1 gk1 gt1 ge1 go1 m0 ml mm mit ms mt nw dr tr pa ig kx be tc gI gsI glI gim gR gS gL hgI hgS hgL hg0 hg1 j hj H locs hS hI KK ls hl
      · refine lv_tableIn (off := 908) (tgt := 941) hx hb dL_law_33 (by decide) (by decide) (by decide) (by decide) ?_
        exact lc_image l hL C0 D cy hK hZS hZA x0 r0 rl rz ri t0 tb q qs qc qb s0 ss sl sb k0 kt h kA tA eA oA j0 jk jt je jo im g0 gk0 gt0 ge0 go0 g1 gk1 gt1 ge1 go1 m0 ml mm mit ms mt nw dr tr pa ig kx be tc gI gsI glI gim gR gS gL hgI hgS hgL hg0 hg1 j hj H locs hS hI KK ls hl
      · refine lv_tableIn (off := 931) (tgt := 964) hx hb dL_law_33 (by decide) (by decide) (by decide) (by decide) ?_
        exact lc_restore l hL C0 D cy hK hZS hZA x0 r0 rl rz ri t0 tb q qs qc qb s0 ss sl sb k0 kt h kA tA eA oA j0 jk jt je jo im g0 gk0 gt0 ge0 go0 g1 gk1 gt1 ge1 go1 m0 ml mm mit ms mt nw dr tr pa ig kx be tc gI gsI glI gim gR gS gL hgI hgS hgL hg0 hg1 j hj H locs hS hI KK ls hl
      · refine lv_tableIn (off := 954) (tgt := 987) hx hb dL_law_33 (by decide) (by decide) (by decide) (by decide) ?_
        exact lc_kind l hL C0 D cy hK hZS hZA x0 r0 rl rz ri t0 tb q qs qc qb s0 ss sl sb k0 kt h kA tA eA oA j0 jk jt je jo im g0 gk0 gt0 ge0 go0 g1 gk1 gt1 ge1 go1 m0 ml mm mit ms mt nw dr tr pa ig kx be tc gI gsI glI gim gR gS gL hgI hgS hgL hg0 hg1 j hj H locs hS hI KK ls hl
      · refine lv_tableIn (off := 977) (tgt := 1010) hx hb dL_law_33 (by decide) (by decide) (by decide) (by decide) ?_
        exact lc_as l hL C0 D cy hK hZS hZA x0 r0 rl rz ri t0 tb q qs qc qb s0 ss sl sb k0 kt h kA tA eA oA j0 jk jt je jo im g0 gk0 gt0 ge0 go0 g1 gk1 gt1 ge1 go1 m0 ml mm mit ms mt nw dr tr pa ig kx be tc gI gsI glI gim gR gS gL hgI hgS hgL hg0 hg1 j hj H locs hS hI KK ls hl
      · refine lv_tableIn (off := 1010) (tgt := 1043) hx hb dL_law_33 (by decide) (by decide) (by decide) (by decide) ?_
        exact lc_ask l hL C0 D cy hK hZS hZA x0 r0 rl rz ri t0 tb q qs qc qb s0 ss sl sb k0 kt h kA tA eA oA j0 jk jt je jo im g0 gk0 gt0 ge0 go0 g1 gk1 gt1 ge1 go1 m0 ml mm mit ms mt nw dr tr pa ig kx be tc gI gsI glI gim gR gS gL hgI hgS hgL hg0 hg1 j hj H locs hS hI KK ls hl
      · refine lv_tableIn (off := 1043) (tgt := 1076) hx hb dL_law_33 (by decide) (by decide) (by decide) (by decide) ?_
        exact lc_trace l hL C0 D cy hK hZS hZA x0 r0 rl rz ri t0 tb q qs qc qb s0 ss sl sb k0 kt h kA tA eA oA j0 jk jt je jo im g0 gk0 gt0 ge0 go0 g1 gk1 gt1 ge1 go1 m0 ml mm mit ms mt nw dr tr pa ig kx be tc gI gsI glI gim gR gS gL hgI hgS hgL hg0 hg1 j hj H locs hS hI KK ls hl
      · refine lv_tableIn (off := 1066) (tgt := 1099) hx hb dL_law_33 (by decide) (by decide) (by decide) (by decide) ?_
        exact lc_count l hL C0 D cy hK hZS hZA x0 r0 rl rz ri t0 tb q qs qc qb s0 ss sl sb k0 kt h kA tA eA oA j0 jk jt je jo im g0 gk0 gt0 ge0 go0 g1 gk1 gt1 ge1 go1 m0 ml mm mit ms mt nw dr tr pa ig kx be tc gI gsI glI gim gR gS gL hgI hgS hgL hg0 hg1 j hj H locs hS hI KK ls hl
      · refine lv_tableIn (off := 1089) (tgt := 1122) hx hb dL_law_33 (by decide) (by decide) (by decide) (by decide) ?_
        exact lc_status l hL C0 D cy hK hZS hZA x0 r0 rl rz ri t0 tb q qs qc qb s0 ss sl sb k0 kt h kA tA eA oA j0 jk jt je jo im g0 gk0 gt0 ge0 go0 g1 gk1 gt1 ge1 go1 m0 ml mm mit ms mt nw dr tr pa ig kx be tc gI gsI glI gim gR gS gL hgI hgS hgL hg0 hg1 j hj H locs hS hI KK ls hl
      · refine lv_tableOut (tgt := 1135) hx hb dL_law_33 (by decide) (by decide) ?_
        exact KK H locs hI hS ls hl

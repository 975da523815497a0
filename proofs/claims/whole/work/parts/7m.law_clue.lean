set_option maxHeartbeats 8000000 in
set_option maxRecDepth 100000 in
theorem lc_clue {p : Program} {e : Env} {s : State} {m : MethodId} {below : List Frame} {meth : Method} {c : Code} (l : Launch) {b L : Nat} {xs : Nat → Int32} (hL : L ≤ 384) (C0 : lw_At p s m meth c b L xs) (D : va_G) (cy : Nat → ClassId) (hK : q_K D cy s) (hZS : q_St (fun q => s.heap.size ≤ q) s s.heap) (hZA : q_StA (fun q => s.heap.size ≤ q) s s.heap) (x0 r0 rl rz ri t0 tb q qs qc qb s0 ss sl sb k0 kt h kA tA eA oA j0 jk jt je jo im g0 gk0 gt0 ge0 go0 g1 gk1 gt1 ge1 go1 m0 ml mm mit ms mt nw dr tr pa ig kx be tc : Nat) (gI gsI glI gim : Nat → Option Nat) (gR gS gL : Nat → Nat) (hgI : ∀ r, r < 8 → gI r = some (gR r)) (hgS : ∀ i, i < 24 → gsI i = some (gS i)) (hgL : ∀ i, i < 7 → glI i = some (gL i)) (hg0 : gim 0 = some g0) (hg1 : gim 1 = some g1) (j : Nat) (hj : 6 * j + 6 ≤ L) (H : Heap) (locs : List Loc) (hS : va_S (fun q => s.heap.size ≤ q) s.heap H locs) (hI : lwI D cy (fun q => s.heap.size ≤ q) H x0 r0 rl rz ri t0 tb q qs qc qb s0 ss sl sb k0 kt h kA tA eA oA j0 jk jt je jo im g0 gk0 gt0 ge0 go0 g1 gk1 gt1 ge1 go1 m0 ml mm mit ms mt nw dr tr pa ig kx be tc gI gsI glI gim gR gS gL) (KK : ∀ (H : Heap) (locs : List Loc), lwI D cy (fun q => s.heap.size ≤ q) H x0 r0 rl rz ri t0 tb q qs qc qb s0 ss sl sb k0 kt h kA tA eA oA j0 jk jt je jo im g0 gk0 gt0 ge0 go0 g1 gk1 gt1 ge1 go1 m0 ml mm mit ms mt nw dr tr pa ig kx be tc gI gsI glI gim gR gS gL → va_S (fun q => s.heap.size ≤ q) s.heap H locs → ∀ ls : Array Slot, lv_has ls 4 [(0, .ref b), (1, .ref x0), (2, .ref m0), (3, .int (nI (6 * j)))] → W p l e room_1 s m #[Value.ref b] below meth c H locs 600000 7302250 (lw_Z below #[Value.ref b] s) (F0 m 1135 ls [])) (ls : Array Slot) (hl : lv_has ls 4 [(0, .ref b), (1, .ref x0), (2, .ref m0), (3, .int (nI (6 * j)))]) : W p l e room_1 s m #[Value.ref b] below meth c H locs 600000 7302250 (lw_Z below #[Value.ref b] s) (F0 m 528 ls []) := by
  obtain ⟨hx, hb, hr, hml, hown, hts0, hX, hbl, hlocks, hgv⟩ := id C0
  have hts : ∀ w ∈ wsL_law, w.before #[Value.ref b] s = true := fun w h => hts0 w (wsL_law_in w h)
  have hA : ∀ q : Nat, s.heap.size ≤ q → (fun q : Nat => s.heap.size ≤ q) q := fun _ h => h
  have hbA : ¬ (fun q : Nat => s.heap.size ≤ q) b := Nat.not_le.mpr hbl
  obtain ⟨a1, ha1⟩ : ∃ y : Int32, y = xs (nI (6 * j + 1)).toNatClampNeg := ⟨_, rfl⟩
  obtain ⟨a2, ha2⟩ : ∃ y : Int32, y = xs (nI (6 * j + 2)).toNatClampNeg := ⟨_, rfl⟩
  obtain ⟨a3, ha3⟩ : ∃ y : Int32, y = xs (nI (6 * j + 3)).toNatClampNeg := ⟨_, rfl⟩
  obtain ⟨a4, ha4⟩ : ∃ y : Int32, y = xs (nI (6 * j + 4)).toNatClampNeg := ⟨_, rfl⟩
  obtain ⟨a5, ha5⟩ : ∃ y : Int32, y = xs (nI (6 * j + 5)).toNatClampNeg := ⟨_, rfl⟩
  refine lwI_e hI ?_
  clear hI
  intro st ln sz itS fl fz it flM fzM fiM nT tpT fbT ftM zaT zT yT fs fc fb nx kp snM pstM tf tfM tn w fk ft fe fo fM w0 ik0 it0 ie0 io0 w1 ik1 it1 ie1 io1 fgM fxM mo fbS sp lf y0 y1 y2 y3 y4 gk gt ge go fpM avM svM ovM vvM fsM gdM gtM beM hrwI hrm hnT htpT htpM hacI hpa htn htr hw hv hmM hw0 hvw0 hw1 hvw1 hig hP hD
  refine lv_aload_n hx hb dL_law_528 rfl (lv_at hl 1 rfl) ?_
  refine lv_aload_n hx hb dL_law_529 rfl (lv_at hl 0 rfl) ?_
  refine lv_iload_n hx hb dL_law_530 rfl (lv_at hl 3 rfl) ?_
  refine lv_iconst (v := nI 1) hx hb dL_law_531 (by decide) ?_
  refine lv_iadd hx hb dL_law_532 ?_
  refine q_top (y := nI ((6 * j) + 1)) (nI_add _ _) ?_
  refine va_sld hx hb hX hbl hbA hS (vp_in_nI (by omega) (by omega)) dL_law_533 ?_
  refine q_top (y := a1) (ha1).symm ?_
  refine lv_aload_n hx hb dL_law_534 rfl (lv_at hl 0 rfl) ?_
  refine lv_iload_n hx hb dL_law_535 rfl (lv_at hl 3 rfl) ?_
  refine lv_iconst (v := nI 2) hx hb dL_law_536 (by decide) ?_
  refine lv_iadd hx hb dL_law_537 ?_
  refine q_top (y := nI ((6 * j) + 2)) (nI_add _ _) ?_
  refine va_sld hx hb hX hbl hbA hS (vp_in_nI (by omega) (by omega)) dL_law_538 ?_
  refine q_top (y := a2) (ha2).symm ?_
  refine q_rV (As := [.int (a1), .int (a2)]) (rest := []) ⟨hx, hb, hml, hown, hts⟩ (c_X6_clue l D cy x0 r0 t0 q s0 k0 j0 im st h kA tA eA oA w fk ft fe fo hw hv a1 a2) (cwV 2 hts gL_law_X6_clue rfl rfl rfl (by decide +kernel) ⟨Nat.le_of_ble_eq_true rfl, Nat.le_of_ble_eq_true rfl⟩) hP hK [0, 17, 18, 19, 20, 21] rfl 0 rfl rfl rfl rfl hl.1 rfl (Nat.le_of_ble_eq_true rfl) dL_law_539 ⟨Nat.le_of_ble_eq_true rfl, Nat.le_of_ble_eq_true rfl⟩ (fun r1 hr1 => ?_)
  refine lv_aload_n hx hb dL_law_542 rfl (lv_at hl 2 rfl) ?_
  refine lv_aload_n hx hb dL_law_543 rfl (lv_at hl 0 rfl) ?_
  refine lv_iload_n hx hb dL_law_544 rfl (lv_at hl 3 rfl) ?_
  refine lv_iconst (v := nI 1) hx hb dL_law_545 (by decide) ?_
  refine lv_iadd hx hb dL_law_546 ?_
  refine q_top (y := nI ((6 * j) + 1)) (nI_add _ _) ?_
  refine va_sld hx hb hX hbl hbA hS (vp_in_nI (by omega) (by omega)) dL_law_547 ?_
  refine q_top (y := a1) (ha1).symm ?_
  refine lv_aload_n hx hb dL_law_548 rfl (lv_at hl 0 rfl) ?_
  refine lv_iload_n hx hb dL_law_549 rfl (lv_at hl 3 rfl) ?_
  refine lv_iconst (v := nI 2) hx hb dL_law_550 (by decide) ?_
  refine lv_iadd hx hb dL_law_551 ?_
  refine q_top (y := nI ((6 * j) + 2)) (nI_add _ _) ?_
  refine va_sld hx hb hX hbl hbA hS (vp_in_nI (by omega) (by omega)) dL_law_552 ?_
  refine q_top (y := a2) (ha2).symm ?_
  refine q_rV (As := [.int (a1), .int (a2)]) (rest := [.int (r1)]) ⟨hx, hb, hml, hown, hts⟩ (c_X7_clue l D cy m0 ml mm mit ms mt nw dr tr pa ig kx be tc st yT fpM avM svM ovM vvM nT kp tn fM w hmM hv a1 a2) (cwV 2 hts gL_law_X7_clue rfl rfl rfl (by decide +kernel) ⟨Nat.le_of_ble_eq_true rfl, Nat.le_of_ble_eq_true rfl⟩) hP hK [38, 44] rfl 38 rfl rfl rfl rfl hl.1 rfl (Nat.le_of_ble_eq_true rfl) dL_law_553 ⟨Nat.le_of_ble_eq_true rfl, Nat.le_of_ble_eq_true rfl⟩ (fun r2 hr2 => ?_)
  refine lv_icmp_eq (tgt := 1135) hx hb dL_law_556 (by decide) (fun _ => ?_) (fun c9 => absurd (hr1.trans hr2.symm) c9)
  exact KK H locs (lwI_i  hrwI hrm hnT htpT htpM hacI hpa htn htr hw hv hmM hw0 hvw0 hw1 hvw1 hig hP hD) hS ls (lv_sub hl [0, 1, 2, 3] rfl)

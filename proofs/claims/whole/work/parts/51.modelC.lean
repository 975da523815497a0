theorem tb_01 (a b : Nat) : nI (a / 2 ^ b &&& 1) = if a.testBit b = true then nI 1 else nI 0 := by
  by_cases h : a.testBit b = true
  · rw [if_pos h, (q_tb a b).mp h]
  · rw [if_neg h]
    have h1 := q_tb_lt a b
    have h2 : ¬ a / 2 ^ b &&& 1 = 1 := fun q => h ((q_tb a b).mpr q)
    rw [show a / 2 ^ b &&& 1 = 0 by omega]
theorem nandself : ∀ a, a < 64 → a &&& (63 ^^^ a) = 0 := by decide +kernel
theorem fwF_has (w : Nat → Nat) (W : Nat) (hW : W < 64) : fwF w W (ctLb w W (w 4)) (W + 1) ≠ 64 := by
  rw [fwF]
  split
  · omega
  · next h =>
    intro q
    exact h ⟨nandself W hW, Or.inl q, rfl⟩
theorem mx_y {s x : Nat} {o : Int32} (hs : 0 < s) (h : o = nI (x % s)) : decide (o = nI (x % max 1 s)) = true := by
  rw [Nat.max_eq_right hs]; exact decide_eq_true h
theorem mx_n {s x : Nat} {o : Int32} (hs : 0 < s) (h : ¬ o = nI (x % s)) : decide (o = nI (x % max 1 s)) = false := by
  rw [Nat.max_eq_right hs]; exact decide_eq_false h
theorem nX7_isCity_0 : ∀ w ∈ wsX70, w ∈ wsX7_isCity := by decide +kernel
theorem mX7_isCity_1 : Cond.fieldLink RX7 25 "ClueLeaveModel" "now" "[I" ∈ wsX7_isCity := by decide +kernel
set_option maxHeartbeats 4000000 in
set_option maxRecDepth 100000 in
theorem c_X7_isCity (l : Launch) (D : va_G) (cy : Nat → ClassId) (m0 ml mm mit ms mt nw dr tr pa ig kx be tc : Nat) (st fk fp av sv ov vv : Int32) (tn ac td : Nat) (f : Nat → Int32) (w : Nat → Nat) (hm : mwIs w f) (hv : ctOk w) : q_Rd l yX7_isCity wsX7_isCity 1 D cy [(m0, .inr (7, [.ref ml, .ref mm, .ref mit, .ref ms, .int (st), .ref mt, .int (nI tn), .int (fk), .int (fp), .int (av), .int (sv), .int (ov), .int (vv), .ref nw, .ref dr, .ref tr, .ref pa, .int (nI ac), .ref ig, .ref kx, .ref be, .ref tc, .int (nI td)])), (nw, .inl (cy 0, 29, .inl f))] [.ref m0] (fun r => r = nI 1 ∧ 0 < w 0 ∨ r = nI 0 ∧ ¬ 0 < w 0) := by
  refine q_rd_of (cc := cX7_isCity) (maxL := 1) (ret := (some .boolean)) (by decide) rfl (Nat.le_of_ble_eq_true rfl) ?_
  intro pg en s mi args below meth cd hC hP hK ls hl
  obtain ⟨hx, hb, hr, hml, hown, hts, hlocks⟩ := hC
  have hl : lv_has ls 1 [(0, .ref m0)] := hl
  obtain ⟨hv0, hv1, hv2, hv3, hv4, hvc⟩ := id hv
  refine lv_aload_n hx hb dX7_isCity_0 rfl (lv_at hl 0 rfl) ?_
  refine va_get (D := D) (ci := 7) (v := .ref nw) (C := RX7) (T := TX7) (N := 23) hx hb hts nX7_isCity_0 hown hK.1 hP 0 rfl rfl 13 (by decide) (hts _ mX7_isCity_1) (fun _ h9 => h9) rfl dX7_isCity_1 ?_
  refine lv_iconst (v := nI 0) hx hb dX7_isCity_4 (by decide) ?_
  refine q_iald (j := 0) (v := nI (w 0)) hx hb hK hP 1 rfl (by omega) (by decide) (hm _ (by omega)) dX7_isCity_5 ?_
  refine q_if_le (tgt := 13) hx hb dX7_isCity_6 (by decide) (by omega) (fun c1 => ?_) (fun c1 => ?_)
  · refine lv_iconst (v := nI 0) hx hb dX7_isCity_13 (by decide) ?_
    exact q_zret (v := nI 0) hx hb hr hlocks dX7_isCity_14 (by decide) (Or.inr ⟨rfl, by omega⟩)
  · refine lv_iconst (v := nI 1) hx hb dX7_isCity_9 (by decide) ?_
    refine lv_goto (tgt := 14) hx hb dX7_isCity_10 (by decide) ?_
    exact q_zret (v := nI 1) hx hb hr hlocks dX7_isCity_14 (by decide) (Or.inl ⟨rfl, by omega⟩)
theorem nX7_isClue_0 : ∀ w ∈ wsX70, w ∈ wsX7_isClue := by decide +kernel
theorem mX7_isClue_1 : Cond.fieldLink RX7 25 "ClueLeaveModel" "now" "[I" ∈ wsX7_isClue := by decide +kernel
set_option maxHeartbeats 4000000 in
set_option maxRecDepth 100000 in
theorem c_X7_isClue (l : Launch) (D : va_G) (cy : Nat → ClassId) (m0 ml mm mit ms mt nw dr tr pa ig kx be tc : Nat) (st fk fp av sv ov vv : Int32) (tn ac td : Nat) (f : Nat → Int32) (w : Nat → Nat) (hm : mwIs w f) (hv : ctOk w) (x : Int32) : q_Rd l yX7_isClue wsX7_isClue 2 D cy [(m0, .inr (7, [.ref ml, .ref mm, .ref mit, .ref ms, .int (st), .ref mt, .int (nI tn), .int (fk), .int (fp), .int (av), .int (sv), .int (ov), .int (vv), .ref nw, .ref dr, .ref tr, .ref pa, .int (nI ac), .ref ig, .ref kx, .ref be, .ref tc, .int (nI td)])), (nw, .inl (cy 0, 29, .inl f))] [.ref m0, .int (x)] (fun r => r = nI 1 ∧ inC (w 4) x ∨ r = nI 0 ∧ ¬ inC (w 4) x) := by
  refine q_rd_of (cc := cX7_isClue) (maxL := 2) (ret := (some .boolean)) (by decide) rfl (Nat.le_of_ble_eq_true rfl) ?_
  intro pg en s mi args below meth cd hC hP hK ls hl
  obtain ⟨hx, hb, hr, hml, hown, hts, hlocks⟩ := hC
  have hl : lv_has ls 2 [(0, .ref m0), (1, .int (x))] := hl
  obtain ⟨hv0, hv1, hv2, hv3, hv4, hvc⟩ := id hv
  refine lv_iload_n hx hb dX7_isClue_0 rfl (lv_at hl 1 rfl) ?_
  refine lv_iconst (v := nI 0) hx hb dX7_isClue_1 (by decide) ?_
  refine lv_aload_n hx hb dX7_isClue_2 rfl (lv_at hl 0 rfl) ?_
  refine va_get (D := D) (ci := 7) (v := .ref nw) (C := RX7) (T := TX7) (N := 23) hx hb hts nX7_isClue_0 hown hK.1 hP 0 rfl rfl 13 (by decide) (hts _ mX7_isClue_1) (fun _ h9 => h9) rfl dX7_isClue_3 ?_
  refine lv_iconst (v := nI 4) hx hb dX7_isClue_6 (by decide) ?_
  refine q_iald (j := 4) (v := nI (w 4)) hx hb hK hP 1 rfl (by omega) (by decide) (hm _ (by omega)) dX7_isClue_7 ?_
  refine lv_iconst (v := nI 1) hx hb dX7_isClue_8 (by decide) ?_
  refine lv_isub hx hb dX7_isClue_9 ?_
  refine q_rS (As := [.int (x), .int (nI 0), .int ((nI (w 4)) - (nI 1))]) (rest := []) ⟨hx, hb, hml, hown, hts⟩ (c_X7_in l D cy x (nI 0) ((nI (w 4)) - (nI 1))) (va_cwS 3 hts gX7_isClue_X7_in rfl rfl rfl (by decide +kernel) ⟨Nat.le_of_ble_eq_true rfl, Nat.le_of_ble_eq_true rfl⟩) hP hK [] rfl rfl hl.1 rfl (Nat.le_of_ble_eq_true rfl) dX7_isClue_10 ⟨Nat.zero_le _, Nat.zero_le _⟩ (fun r1 hr1 => ?_)
  rcases hr1 with ⟨rfl, b2⟩ | ⟨rfl, b2⟩
  · have _ := b2
    exact q_zret (v := nI 1) hx hb hr hlocks dX7_isClue_13 (by decide) (Or.inl ⟨rfl, (inC_w hv4).mp b2⟩)
  · have _ := b2
    exact q_zret (v := nI 0) hx hb hr hlocks dX7_isClue_13 (by decide) (Or.inr ⟨rfl, fun q => b2 ((inC_w hv4).mpr q)⟩)
theorem nX7_kindIn_0 : ∀ w ∈ wsX70, w ∈ wsX7_kindIn := by decide +kernel
theorem mX7_kindIn_1 : Cond.fieldLink RX7 25 "ClueLeaveModel" "now" "[I" ∈ wsX7_kindIn := by decide +kernel
set_option maxHeartbeats 4000000 in
set_option maxRecDepth 100000 in
theorem c_X7_kindIn (l : Launch) (D : va_G) (cy : Nat → ClassId) (m0 ml mm mit ms mt nw dr tr pa ig kx be tc : Nat) (st fk fp av sv ov vv : Int32) (tn ac td : Nat) (f : Nat → Int32) (w : Nat → Nat) (hm : mwIs w f) (hv : ctOk w) (c : Nat) (hc : c < w 4) : q_Rd l yX7_kindIn wsX7_kindIn 1 D cy [(m0, .inr (7, [.ref ml, .ref mm, .ref mit, .ref ms, .int (st), .ref mt, .int (nI tn), .int (fk), .int (fp), .int (av), .int (sv), .int (ov), .int (vv), .ref nw, .ref dr, .ref tr, .ref pa, .int (nI ac), .ref ig, .ref kx, .ref be, .ref tc, .int (nI td)])), (nw, .inl (cy 0, 29, .inl f))] [.ref m0, .int (nI c)] (fun r => r = nI (ctK w c)) := by
  refine q_rd_of (cc := cX7_kindIn) (maxL := 2) (ret := (some .int)) (by decide) rfl (Nat.le_of_ble_eq_true rfl) ?_
  intro pg en s mi args below meth cd hC hP hK ls hl
  obtain ⟨hx, hb, hr, hml, hown, hts, hlocks⟩ := hC
  have hl : lv_has ls 2 [(0, .ref m0), (1, .int (nI c))] := hl
  obtain ⟨hv0, hv1, hv2, hv3, hv4, hvc⟩ := id hv
  refine lv_aload_n hx hb dX7_kindIn_0 rfl (lv_at hl 0 rfl) ?_
  refine va_get (D := D) (ci := 7) (v := .ref nw) (C := RX7) (T := TX7) (N := 23) hx hb hts nX7_kindIn_0 hown hK.1 hP 0 rfl rfl 13 (by decide) (hts _ mX7_kindIn_1) (fun _ h9 => h9) rfl dX7_kindIn_1 ?_
  refine lv_iconst (v := nI 5) hx hb dX7_kindIn_4 (by decide) ?_
  refine lv_iconst (v := nI 4) hx hb dX7_kindIn_5 (by decide) ?_
  refine lv_iload_n hx hb dX7_kindIn_6 rfl (lv_at hl 1 rfl) ?_
  refine lv_imul hx hb dX7_kindIn_7 ?_
  refine q_top (y := nI (4 * c)) (pk_mul _ _) ?_
  refine lv_iadd hx hb dX7_kindIn_8 ?_
  refine q_top (y := nI (5 + (4 * c))) (nI_add _ _) ?_
  refine q_iald (j := (5 + (4 * c))) (v := nI (w (5 + (4 * c)))) hx hb hK hP 1 rfl (by omega) (by decide) (hm _ (by omega)) dX7_kindIn_9 ?_
  exact q_iret (v := nI (w (5 + (4 * c)))) hx hb hr hlocks dX7_kindIn_10 (rfl)
theorem mX7_kind_0 : Cond.constant RX7 64 (-1000001) ∈ wsX7_kind := by decide +kernel
set_option maxHeartbeats 4000000 in
set_option maxRecDepth 100000 in
theorem c_X7_kind (l : Launch) (D : va_G) (cy : Nat → ClassId) (m0 ml mm mit ms mt nw dr tr pa ig kx be tc : Nat) (st fk fp av sv ov vv : Int32) (tn ac td : Nat) (f : Nat → Int32) (w : Nat → Nat) (hm : mwIs w f) (hv : ctOk w) (x : Int32) : q_Rd l yX7_kind wsX7_kind 3 D cy [(m0, .inr (7, [.ref ml, .ref mm, .ref mit, .ref ms, .int (st), .ref mt, .int (nI tn), .int (fk), .int (fp), .int (av), .int (sv), .int (ov), .int (vv), .ref nw, .ref dr, .ref tr, .ref pa, .int (nI ac), .ref ig, .ref kx, .ref be, .ref tc, .int (nI td)])), (nw, .inl (cy 0, 29, .inl f))] [.ref m0, .int (x)] (fun r => r = oKind w x) := by
  refine q_rd_of (cc := cX7_kind) (maxL := 2) (ret := (some .int)) (by decide) rfl (Nat.le_of_ble_eq_true rfl) ?_
  intro pg en s mi args below meth cd hC hP hK ls hl
  obtain ⟨hx, hb, hr, hml, hown, hts, hlocks⟩ := hC
  have hl : lv_has ls 2 [(0, .ref m0), (1, .int (x))] := hl
  obtain ⟨hv0, hv1, hv2, hv3, hv4, hvc⟩ := id hv
  refine lv_aload_n hx hb dX7_kind_0 rfl (lv_at hl 0 rfl) ?_
  refine lv_iload_n hx hb dX7_kind_1 rfl (lv_at hl 1 rfl) ?_
  refine q_rV (As := [.int (x)]) (rest := []) ⟨hx, hb, hml, hown, hts⟩ (c_X7_isClue l D cy m0 ml mm mit ms mt nw dr tr pa ig kx be tc st fk fp av sv ov vv tn ac td f w hm hv x) (cwV 1 hts gX7_kind_X7_isClue rfl rfl rfl (by decide +kernel) ⟨Nat.le_of_ble_eq_true rfl, Nat.le_of_ble_eq_true rfl⟩) hP hK [0, 1] rfl 0 rfl rfl rfl rfl hl.1 rfl (Nat.le_of_ble_eq_true rfl) dX7_kind_2 ⟨Nat.zero_le _, Nat.zero_le _⟩ (fun r1 hr1 => ?_)
  rcases hr1 with ⟨rfl, b2⟩ | ⟨rfl, b2⟩
  · have _ := b2
    refine lv_if_eq (tgt := 16) hx hb dX7_kind_5 (by decide) (fun c9 => absurd c9 (by decide)) (fun _ => ?_)
    obtain ⟨c, hc, rfl⟩ := (inC_i (by omega)).mpr b2
    obtain ⟨hk1, hk5, ht1, ht2, he2, he4, ho1⟩ := hvc c hc
    refine lv_aload_n hx hb dX7_kind_8 rfl (lv_at hl 0 rfl) ?_
    refine lv_iload_n hx hb dX7_kind_9 rfl (lv_at hl 1 rfl) ?_
    refine q_rV (As := [.int (nI c)]) (rest := []) ⟨hx, hb, hml, hown, hts⟩ (c_X7_kindIn l D cy m0 ml mm mit ms mt nw dr tr pa ig kx be tc st fk fp av sv ov vv tn ac td f w hm hv c (by omega)) (cwV 1 hts gX7_kind_X7_kindIn rfl rfl rfl (by decide +kernel) ⟨Nat.le_of_ble_eq_true rfl, Nat.le_of_ble_eq_true rfl⟩) hP hK [0, 1] rfl 0 rfl rfl rfl rfl hl.1 rfl (Nat.le_of_ble_eq_true rfl) dX7_kind_10 ⟨Nat.zero_le _, Nat.zero_le _⟩ (fun r3 hr3 => ?_)
    obtain rfl := hr3
    refine lv_goto (tgt := 18) hx hb dX7_kind_13 (by decide) ?_
    exact q_iret (v := nI (ctK w c)) hx hb hr hlocks dX7_kind_18 ((by simp only [oKind, q_cl (by omega : c < 2147483648), if_pos b2]))
  · have _ := b2
    refine lv_if_eq (tgt := 16) hx hb dX7_kind_5 (by decide) (fun _ => ?_) (fun c9 => absurd (by decide) c9)
    refine lv_ldc (v := (-1000001)) hx hb hown (hts _ mX7_kind_0) dX7_kind_16 ?_
    exact q_iret (v := (-1000001)) hx hb hr hlocks dX7_kind_18 ((by simp only [oKind, if_neg b2]))
theorem nX7_clue_0 : ∀ w ∈ wsX70, w ∈ wsX7_clue := by decide +kernel
theorem mX7_clue_1 : Cond.fieldLink RX7 25 "ClueLeaveModel" "now" "[I" ∈ wsX7_clue := by decide +kernel
theorem mX7_clue_2 : Cond.constant RX7 64 (-1000001) ∈ wsX7_clue := by decide +kernel
set_option maxHeartbeats 4000000 in
set_option maxRecDepth 100000 in
theorem c_X7_clue (l : Launch) (D : va_G) (cy : Nat → ClassId) (m0 ml mm mit ms mt nw dr tr pa ig kx be tc : Nat) (st fk fp av sv ov vv : Int32) (tn ac td : Nat) (f : Nat → Int32) (w : Nat → Nat) (hm : mwIs w f) (hv : ctOk w) (x y : Int32) : q_Rd l yX7_clue wsX7_clue 4 D cy [(m0, .inr (7, [.ref ml, .ref mm, .ref mit, .ref ms, .int (st), .ref mt, .int (nI tn), .int (fk), .int (fp), .int (av), .int (sv), .int (ov), .int (vv), .ref nw, .ref dr, .ref tr, .ref pa, .int (nI ac), .ref ig, .ref kx, .ref be, .ref tc, .int (nI td)])), (nw, .inl (cy 0, 29, .inl f))] [.ref m0, .int (x), .int (y)] (fun r => r = oClue w x y) := by
  refine q_rd_of (cc := cX7_clue) (maxL := 3) (ret := (some .int)) (by decide) rfl (Nat.le_of_ble_eq_true rfl) ?_
  intro pg en s mi args below meth cd hC hP hK ls hl
  obtain ⟨hx, hb, hr, hml, hown, hts, hlocks⟩ := hC
  have hl : lv_has ls 3 [(0, .ref m0), (1, .int (x)), (2, .int (y))] := hl
  obtain ⟨hv0, hv1, hv2, hv3, hv4, hvc⟩ := id hv
  refine lv_aload_n hx hb dX7_clue_0 rfl (lv_at hl 0 rfl) ?_
  refine lv_iload_n hx hb dX7_clue_1 rfl (lv_at hl 1 rfl) ?_
  refine q_rV (As := [.int (x)]) (rest := []) ⟨hx, hb, hml, hown, hts⟩ (c_X7_isClue l D cy m0 ml mm mit ms mt nw dr tr pa ig kx be tc st fk fp av sv ov vv tn ac td f w hm hv x) (cwV 1 hts gX7_clue_X7_isClue rfl rfl rfl (by decide +kernel) ⟨Nat.le_of_ble_eq_true rfl, Nat.le_of_ble_eq_true rfl⟩) hP hK [0, 1] rfl 0 rfl rfl rfl rfl hl.1 rfl (Nat.le_of_ble_eq_true rfl) dX7_clue_2 ⟨Nat.zero_le _, Nat.zero_le _⟩ (fun r1 hr1 => ?_)
  rcases hr1 with ⟨rfl, b2⟩ | ⟨rfl, b2⟩
  · have _ := b2
    refine lv_if_ne (tgt := 11) hx hb dX7_clue_5 (by decide) (fun _ => ?_) (fun c9 => absurd c9 (by decide))
    obtain ⟨c, hc, rfl⟩ := (inC_i (by omega)).mpr b2
    obtain ⟨hk1, hk5, ht1, ht2, he2, he4, ho1⟩ := hvc c hc
    refine lv_iload_n hx hb dX7_clue_11 rfl (lv_at hl 2 rfl) ?_
    rcases q_05 y with rfl | rfl | rfl | rfl | rfl | rfl | hout
    · refine lv_tableIn (off := 40) (tgt := 52) hx hb dX7_clue_12 (by decide) (by decide) (by decide) (by decide) ?_
      refine lv_aload_n hx hb dX7_clue_52 rfl (lv_at hl 0 rfl) ?_
      refine va_get (D := D) (ci := 7) (v := .ref nw) (C := RX7) (T := TX7) (N := 23) hx hb hts nX7_clue_0 hown hK.1 hP 0 rfl rfl 13 (by decide) (hts _ mX7_clue_1) (fun _ h9 => h9) rfl dX7_clue_53 ?_
      refine lv_iconst (v := nI 5) hx hb dX7_clue_56 (by decide) ?_
      refine lv_iconst (v := nI 4) hx hb dX7_clue_57 (by decide) ?_
      refine lv_iload_n hx hb dX7_clue_58 rfl (lv_at hl 1 rfl) ?_
      refine lv_imul hx hb dX7_clue_59 ?_
      refine q_top (y := nI (4 * c)) (pk_mul _ _) ?_
      refine lv_iadd hx hb dX7_clue_60 ?_
      refine q_top (y := nI (5 + (4 * c))) (nI_add _ _) ?_
      refine lv_iconst (v := nI 1) hx hb dX7_clue_61 (by decide) ?_
      refine lv_iadd hx hb dX7_clue_62 ?_
      refine q_top (y := nI ((5 + (4 * c)) + 1)) (nI_add _ _) ?_
      refine q_iald (j := ((5 + (4 * c)) + 1)) (v := nI (w ((5 + (4 * c)) + 1))) hx hb hK hP 1 rfl (by omega) (by decide) (hm _ (by omega)) dX7_clue_63 ?_
      refine q_top (y := nI (ctT w c)) (congrArg nI (ctT_e w c)) ?_
      exact q_iret (v := nI (ctT w c)) hx hb hr hlocks dX7_clue_64 (by unfold oClue; simp only [if_pos b2, q_cl (by omega : c < 2147483648)]; exact rfl)
    · refine lv_tableIn (off := 53) (tgt := 65) hx hb dX7_clue_12 (by decide) (by decide) (by decide) (by decide) ?_
      refine lv_aload_n hx hb dX7_clue_65 rfl (lv_at hl 0 rfl) ?_
      refine va_get (D := D) (ci := 7) (v := .ref nw) (C := RX7) (T := TX7) (N := 23) hx hb hts nX7_clue_0 hown hK.1 hP 0 rfl rfl 13 (by decide) (hts _ mX7_clue_1) (fun _ h9 => h9) rfl dX7_clue_66 ?_
      refine lv_iconst (v := nI 5) hx hb dX7_clue_69 (by decide) ?_
      refine lv_iconst (v := nI 4) hx hb dX7_clue_70 (by decide) ?_
      refine lv_iload_n hx hb dX7_clue_71 rfl (lv_at hl 1 rfl) ?_
      refine lv_imul hx hb dX7_clue_72 ?_
      refine q_top (y := nI (4 * c)) (pk_mul _ _) ?_
      refine lv_iadd hx hb dX7_clue_73 ?_
      refine q_top (y := nI (5 + (4 * c))) (nI_add _ _) ?_
      refine lv_iconst (v := nI 2) hx hb dX7_clue_74 (by decide) ?_
      refine lv_iadd hx hb dX7_clue_75 ?_
      refine q_top (y := nI ((5 + (4 * c)) + 2)) (nI_add _ _) ?_
      refine q_iald (j := ((5 + (4 * c)) + 2)) (v := nI (w ((5 + (4 * c)) + 2))) hx hb hK hP 1 rfl (by omega) (by decide) (hm _ (by omega)) dX7_clue_76 ?_
      refine q_top (y := nI (ctE w c)) (congrArg nI (ctE_e w c)) ?_
      exact q_iret (v := nI (ctE w c)) hx hb hr hlocks dX7_clue_77 (by unfold oClue; simp only [if_pos b2, q_cl (by omega : c < 2147483648)]; exact rfl)
    · refine lv_tableIn (off := 66) (tgt := 78) hx hb dX7_clue_12 (by decide) (by decide) (by decide) (by decide) ?_
      refine lv_aload_n hx hb dX7_clue_78 rfl (lv_at hl 0 rfl) ?_
      refine va_get (D := D) (ci := 7) (v := .ref nw) (C := RX7) (T := TX7) (N := 23) hx hb hts nX7_clue_0 hown hK.1 hP 0 rfl rfl 13 (by decide) (hts _ mX7_clue_1) (fun _ h9 => h9) rfl dX7_clue_79 ?_
      refine lv_iconst (v := nI 5) hx hb dX7_clue_82 (by decide) ?_
      refine lv_iconst (v := nI 4) hx hb dX7_clue_83 (by decide) ?_
      refine lv_iload_n hx hb dX7_clue_84 rfl (lv_at hl 1 rfl) ?_
      refine lv_imul hx hb dX7_clue_85 ?_
      refine q_top (y := nI (4 * c)) (pk_mul _ _) ?_
      refine lv_iadd hx hb dX7_clue_86 ?_
      refine q_top (y := nI (5 + (4 * c))) (nI_add _ _) ?_
      refine lv_iconst (v := nI 3) hx hb dX7_clue_87 (by decide) ?_
      refine lv_iadd hx hb dX7_clue_88 ?_
      refine q_top (y := nI ((5 + (4 * c)) + 3)) (nI_add _ _) ?_
      refine q_iald (j := ((5 + (4 * c)) + 3)) (v := nI (w ((5 + (4 * c)) + 3))) hx hb hK hP 1 rfl (by omega) (by decide) (hm _ (by omega)) dX7_clue_89 ?_
      refine q_top (y := nI (ctO w c)) (congrArg nI (ctO_e w c)) ?_
      exact q_iret (v := nI (ctO w c)) hx hb hr hlocks dX7_clue_90 (by unfold oClue; simp only [if_pos b2, q_cl (by omega : c < 2147483648)]; exact rfl)
    · refine lv_tableIn (off := 79) (tgt := 91) hx hb dX7_clue_12 (by decide) (by decide) (by decide) (by decide) ?_
      refine lv_aload_n hx hb dX7_clue_91 rfl (lv_at hl 0 rfl) ?_
      refine va_get (D := D) (ci := 7) (v := .ref nw) (C := RX7) (T := TX7) (N := 23) hx hb hts nX7_clue_0 hown hK.1 hP 0 rfl rfl 13 (by decide) (hts _ mX7_clue_1) (fun _ h9 => h9) rfl dX7_clue_92 ?_
      refine lv_iconst (v := nI 3) hx hb dX7_clue_95 (by decide) ?_
      refine q_iald (j := 3) (v := nI (w 3)) hx hb hK hP 1 rfl (by omega) (by decide) (hm _ (by omega)) dX7_clue_96 ?_
      refine lv_iload_n hx hb dX7_clue_97 rfl (lv_at hl 1 rfl) ?_
      refine lv_ishr hx hb dX7_clue_98 ?_
      refine q_top (y := nI ((w 3) / 2 ^ c)) (q_shr (by omega) (by omega)) ?_
      refine lv_iconst (v := nI 1) hx hb dX7_clue_99 (by decide) ?_
      refine lv_iand hx hb dX7_clue_100 ?_
      refine q_top (y := nI (((w 3) / 2 ^ c) &&& 1)) (q_and _ _) ?_
      exact q_iret (v := nI (((w 3) / 2 ^ c) &&& 1)) hx hb hr hlocks dX7_clue_101 (by unfold oClue; simp only [if_pos b2, q_cl (by omega : c < 2147483648)]; exact tb_01 _ _)
    · refine lv_tableIn (off := 90) (tgt := 102) hx hb dX7_clue_12 (by decide) (by decide) (by decide) (by decide) ?_
      refine lv_aload_n hx hb dX7_clue_102 rfl (lv_at hl 0 rfl) ?_
      refine va_get (D := D) (ci := 7) (v := .ref nw) (C := RX7) (T := TX7) (N := 23) hx hb hts nX7_clue_0 hown hK.1 hP 0 rfl rfl 13 (by decide) (hts _ mX7_clue_1) (fun _ h9 => h9) rfl dX7_clue_103 ?_
      refine lv_iload_n hx hb dX7_clue_106 rfl (lv_at hl 1 rfl) ?_
      refine lv_aload_n hx hb dX7_clue_107 rfl (lv_at hl 0 rfl) ?_
      refine va_get (D := D) (ci := 7) (v := .ref nw) (C := RX7) (T := TX7) (N := 23) hx hb hts nX7_clue_0 hown hK.1 hP 0 rfl rfl 13 (by decide) (hts _ mX7_clue_1) (fun _ h9 => h9) rfl dX7_clue_108 ?_
      refine lv_iconst (v := nI 2) hx hb dX7_clue_111 (by decide) ?_
      refine q_iald (j := 2) (v := nI (w 2)) hx hb hK hP 1 rfl (by omega) (by decide) (hm _ (by omega)) dX7_clue_112 ?_
      refine q_rS (As := [.ref nw, .int (nI c), .int (nI (w 2))]) (rest := []) ⟨hx, hb, hml, hown, hts⟩ (c_X7_isAtWork l D cy nw f w hm hv c (w 2) (by omega) (by omega)) (va_cwS 3 hts gX7_clue_X7_isAtWork rfl rfl rfl (by decide +kernel) ⟨Nat.le_of_ble_eq_true rfl, Nat.le_of_ble_eq_true rfl⟩) hP hK [1] rfl rfl hl.1 rfl (Nat.le_of_ble_eq_true rfl) dX7_clue_113 ⟨Nat.zero_le _, Nat.zero_le _⟩ (fun r3 hr3 => ?_)
      rcases hr3 with ⟨rfl, b4⟩ | ⟨rfl, b4⟩
      · have _ := b4
        refine lv_if_eq (tgt := 123) hx hb dX7_clue_116 (by decide) (fun c9 => absurd c9 (by decide)) (fun _ => ?_)
        refine lv_iconst (v := nI 1) hx hb dX7_clue_119 (by decide) ?_
        refine lv_goto (tgt := 124) hx hb dX7_clue_120 (by decide) ?_
        exact q_iret (v := nI 1) hx hb hr hlocks dX7_clue_124 (by unfold oClue; simp only [if_pos b2, q_cl (by omega : c < 2147483648)]; exact (if_pos b4).symm)
      · have _ := b4
        refine lv_if_eq (tgt := 123) hx hb dX7_clue_116 (by decide) (fun _ => ?_) (fun c9 => absurd (by decide) c9)
        refine lv_iconst (v := nI 0) hx hb dX7_clue_123 (by decide) ?_
        exact q_iret (v := nI 0) hx hb hr hlocks dX7_clue_124 (by unfold oClue; simp only [if_pos b2, q_cl (by omega : c < 2147483648)]; exact (if_neg b4).symm)
    · refine lv_tableIn (off := 113) (tgt := 125) hx hb dX7_clue_12 (by decide) (by decide) (by decide) (by decide) ?_
      refine lv_aload_n hx hb dX7_clue_125 rfl (lv_at hl 0 rfl) ?_
      refine va_get (D := D) (ci := 7) (v := .ref nw) (C := RX7) (T := TX7) (N := 23) hx hb hts nX7_clue_0 hown hK.1 hP 0 rfl rfl 13 (by decide) (hts _ mX7_clue_1) (fun _ h9 => h9) rfl dX7_clue_126 ?_
      refine lv_iload_n hx hb dX7_clue_129 rfl (lv_at hl 1 rfl) ?_
      refine q_rS (As := [.ref nw, .int (nI c)]) (rest := []) ⟨hx, hb, hml, hown, hts⟩ (c_X7_leaves l D cy nw f w hm hv c (by omega)) (va_cwS 2 hts gX7_clue_X7_leaves rfl rfl rfl (by decide +kernel) ⟨Nat.le_of_ble_eq_true rfl, Nat.le_of_ble_eq_true rfl⟩) hP hK [1] rfl rfl hl.1 rfl (Nat.le_of_ble_eq_true rfl) dX7_clue_130 ⟨Nat.zero_le _, Nat.zero_le _⟩ (fun r5 hr5 => ?_)
      obtain rfl := hr5
      exact q_iret (v := nI (ctLv w c)) hx hb hr hlocks dX7_clue_133 (by unfold oClue; simp only [if_pos b2, q_cl (by omega : c < 2147483648)]; exact rfl)
    · refine lv_tableOut (tgt := 134) hx hb dX7_clue_12 (hout.1) (by decide) ?_
      refine lv_ldc (v := (-1000001)) hx hb hown (hts _ mX7_clue_2) dX7_clue_134 ?_
      exact q_iret (v := (-1000001)) hx hb hr hlocks dX7_clue_136 (by obtain ⟨-, e0, e1, e2, e3, e4, e5⟩ := hout; simp only [oClue, if_pos b2, if_neg e0, if_neg e1, if_neg e2, if_neg e3, if_neg e4, if_neg e5])
  · have _ := b2
    refine lv_if_ne (tgt := 11) hx hb dX7_clue_5 (by decide) (fun c9 => absurd (by decide) c9) (fun _ => ?_)
    refine lv_ldc (v := (-1000001)) hx hb hown (hts _ mX7_clue_2) dX7_clue_8 ?_
    exact q_iret (v := (-1000001)) hx hb hr hlocks dX7_clue_10 (by simp only [oClue, if_neg b2])
theorem nX7_ahead_0 : ∀ w ∈ wsX70, w ∈ wsX7_ahead := by decide +kernel
theorem mX7_ahead_1 : Cond.fieldLink RX7 25 "ClueLeaveModel" "now" "[I" ∈ wsX7_ahead := by decide +kernel
theorem mX7_ahead_2 : Cond.constant RX7 64 (-1000001) ∈ wsX7_ahead := by decide +kernel
theorem mX7_ahead_3 : Cond.constant RX7 163 (-1000002) ∈ wsX7_ahead := by decide +kernel
set_option maxHeartbeats 4000000 in
set_option maxRecDepth 100000 in
theorem c_X7_ahead (l : Launch) (D : va_G) (cy : Nat → ClassId) (m0 ml mm mit ms mt nw dr tr pa ig kx be tc : Nat) (st fk fp av sv ov vv : Int32) (tn ac td : Nat) (f : Nat → Int32) (w : Nat → Nat) (hm : mwIs w f) (hv : ctOk w) (d y : Int32) : q_Rd l yX7_ahead wsX7_ahead 5 D cy [(m0, .inr (7, [.ref ml, .ref mm, .ref mit, .ref ms, .int (st), .ref mt, .int (nI tn), .int (fk), .int (fp), .int (av), .int (sv), .int (ov), .int (vv), .ref nw, .ref dr, .ref tr, .ref pa, .int (nI ac), .ref ig, .ref kx, .ref be, .ref tc, .int (nI td)])), (nw, .inl (cy 0, 29, .inl f))] [.ref m0, .int (d), .int (y)] (fun r => r = oAhead w d y) := by
  refine q_rd_of (cc := cX7_ahead) (maxL := 4) (ret := (some .int)) (by decide) rfl (Nat.le_of_ble_eq_true rfl) ?_
  intro pg en s mi args below meth cd hC hP hK ls hl
  obtain ⟨hx, hb, hr, hml, hown, hts, hlocks⟩ := hC
  have hl : lv_has ls 4 [(0, .ref m0), (1, .int (d)), (2, .int (y))] := hl
  obtain ⟨hv0, hv1, hv2, hv3, hv4, hvc⟩ := id hv
  refine lv_aload_n hx hb dX7_ahead_0 rfl (lv_at hl 0 rfl) ?_
  refine q_rV (As := []) (rest := []) ⟨hx, hb, hml, hown, hts⟩ (c_X7_isCity l D cy m0 ml mm mit ms mt nw dr tr pa ig kx be tc st fk fp av sv ov vv tn ac td f w hm hv) (cwV 0 hts gX7_ahead_X7_isCity rfl rfl rfl (by decide +kernel) ⟨Nat.le_of_ble_eq_true rfl, Nat.le_of_ble_eq_true rfl⟩) hP hK [0, 1] rfl 0 rfl rfl rfl rfl hl.1 rfl (Nat.le_of_ble_eq_true rfl) dX7_ahead_1 ⟨Nat.zero_le _, Nat.zero_le _⟩ (fun r1 hr1 => ?_)
  rcases hr1 with ⟨rfl, b2⟩ | ⟨rfl, b2⟩
  · have _ := b2
    refine lv_if_ne (tgt := 10) hx hb dX7_ahead_4 (by decide) (fun _ => ?_) (fun c9 => absurd c9 (by decide))
    refine lv_iload_n hx hb dX7_ahead_10 rfl (lv_at hl 1 rfl) ?_
    refine q_rS (As := [.int (d)]) (rest := []) ⟨hx, hb, hml, hown, hts⟩ (c_X7_isFar l D cy d) (va_cwS 1 hts gX7_ahead_X7_isFar rfl rfl rfl (by decide +kernel) ⟨Nat.le_of_ble_eq_true rfl, Nat.le_of_ble_eq_true rfl⟩) hP hK [] rfl rfl hl.1 rfl (Nat.le_of_ble_eq_true rfl) dX7_ahead_11 ⟨Nat.zero_le _, Nat.zero_le _⟩ (fun r3 hr3 => ?_)
    rcases hr3 with ⟨rfl, b4⟩ | ⟨rfl, b4⟩
    · have _ := b4
      refine lv_if_eq (tgt := 26) hx hb dX7_ahead_14 (by decide) (fun c9 => absurd c9 (by decide)) (fun _ => ?_)
      obtain ⟨m, -, hx_m, rfl⟩ := q_rng b4 (by decide) (by decide)
      refine lv_iload_n hx hb dX7_ahead_17 rfl (lv_at hl 2 rfl) ?_
      refine lv_iconst (v := nI 0) hx hb dX7_ahead_18 (by decide) ?_
      refine lv_iconst (v := nI 2) hx hb dX7_ahead_19 (by decide) ?_
      refine q_rS (As := [.int (y), .int (nI 0), .int (nI 2)]) (rest := []) ⟨hx, hb, hml, hown, hts⟩ (c_X7_in l D cy y (nI 0) (nI 2)) (va_cwS 3 hts gX7_ahead_X7_in rfl rfl rfl (by decide +kernel) ⟨Nat.le_of_ble_eq_true rfl, Nat.le_of_ble_eq_true rfl⟩) hP hK [] rfl rfl hl.1 rfl (Nat.le_of_ble_eq_true rfl) dX7_ahead_20 ⟨Nat.zero_le _, Nat.zero_le _⟩ (fun r5 hr5 => ?_)
      rcases hr5 with ⟨rfl, b6⟩ | ⟨rfl, b6⟩
      · have _ := b6
        refine lv_if_ne (tgt := 29) hx hb dX7_ahead_23 (by decide) (fun _ => ?_) (fun c9 => absurd c9 (by decide))
        obtain ⟨k, -, hx_k, rfl⟩ := q_rng b6 (by decide) (by decide)
        refine lv_aload_n hx hb dX7_ahead_29 rfl (lv_at hl 0 rfl) ?_
        refine va_get (D := D) (ci := 7) (v := .ref nw) (C := RX7) (T := TX7) (N := 23) hx hb hts nX7_ahead_0 hown hK.1 hP 0 rfl rfl 13 (by decide) (hts _ mX7_ahead_1) (fun _ h9 => h9) rfl dX7_ahead_30 ?_
        refine lv_aload_n hx hb dX7_ahead_33 rfl (lv_at hl 0 rfl) ?_
        refine va_get (D := D) (ci := 7) (v := .ref nw) (C := RX7) (T := TX7) (N := 23) hx hb hts nX7_ahead_0 hown hK.1 hP 0 rfl rfl 13 (by decide) (hts _ mX7_ahead_1) (fun _ h9 => h9) rfl dX7_ahead_34 ?_
        refine lv_iconst (v := nI 2) hx hb dX7_ahead_37 (by decide) ?_
        refine q_iald (j := 2) (v := nI (w 2)) hx hb hK hP 1 rfl (by omega) (by decide) (hm _ (by omega)) dX7_ahead_38 ?_
        refine lv_iload_n hx hb dX7_ahead_39 rfl (lv_at hl 1 rfl) ?_
        refine lv_iadd hx hb dX7_ahead_40 ?_
        refine q_top (y := nI ((w 2) + m)) (nI_add _ _) ?_
        refine q_rS (As := [.ref nw, .int (nI ((w 2) + m))]) (rest := []) ⟨hx, hb, hml, hown, hts⟩ (c_X7_leftOn l D cy nw f w hm hv ((w 2) + m) (by omega)) (va_cwS 2 hts gX7_ahead_X7_leftOn rfl rfl rfl (by decide +kernel) ⟨Nat.le_of_ble_eq_true rfl, Nat.le_of_ble_eq_true rfl⟩) hP hK [1] rfl rfl hl.1 rfl (Nat.le_of_ble_eq_true rfl) dX7_ahead_41 ⟨Nat.zero_le _, Nat.zero_le _⟩ (fun r7 hr7 => ?_)
        obtain rfl := hr7
        have hll := ctLeft_lt hv0 (w 2 + m)
        refine lv_istore_n (lv' := [(3, .int (nI (ctLeft w ((w 2) + m)))), (0, .ref m0), (1, .int (nI m)), (2, .int (nI k))]) hx hb dX7_ahead_44 rfl hl (by decide) rfl (fun ls hl => ?_)
        refine lv_iload_n hx hb dX7_ahead_45 rfl (lv_at hl 3 rfl) ?_
        refine q_if_ne (tgt := 53) hx hb dX7_ahead_46 (by decide) (by omega) (fun c8 => ?_) (fun c8 => ?_)
        · refine lv_iload_n hx hb dX7_ahead_53 rfl (lv_at hl 3 rfl) ?_
          refine lv_iconst (v := nI 1) hx hb dX7_ahead_54 (by decide) ?_
          refine q_icmp_ne (tgt := 76) hx hb dX7_ahead_55 (by decide) (by omega) (by decide) (fun c9 => ?_) (fun c9 => ?_)
          · refine lv_iload_n hx hb dX7_ahead_76 rfl (lv_at hl 0 rfl) ?_
            refine q_rS (As := [.int (nI (ctLeft w ((w 2) + m)))]) (rest := []) ⟨hx, hb, hml, hown, hts⟩ (c_X7_only l D cy (ctLeft w ((w 2) + m)) (by omega)) (va_cwS 1 hts gX7_ahead_X7_only rfl rfl rfl (by decide +kernel) ⟨Nat.le_of_ble_eq_true rfl, Nat.le_of_ble_eq_true rfl⟩) hP hK [] rfl rfl hl.1 rfl (Nat.le_of_ble_eq_true rfl) dX7_ahead_77 ⟨Nat.zero_le _, Nat.zero_le _⟩ (fun r10 hr10 => ?_)
            obtain rfl := hr10
            exact q_iret (v := onl (ctLeft w ((w 2) + m))) hx hb hr hlocks dX7_ahead_80 ((by simp only [oAhead, q_cl (by omega : m < 2147483648), q_cl (by omega : k < 2147483648), if_pos b2, if_pos b4, if_pos b6, if_neg (by omega : ¬ k = 0), if_neg (by omega : ¬ k = 1)]))
          · refine lv_aload_n hx hb dX7_ahead_58 rfl (lv_at hl 1 rfl) ?_
            refine va_get (D := D) (ci := 7) (v := .ref nw) (C := RX7) (T := TX7) (N := 23) hx hb hts nX7_ahead_0 hown hK.1 hP 0 rfl rfl 13 (by decide) (hts _ mX7_ahead_1) (fun _ h9 => h9) rfl dX7_ahead_59 ?_
            refine lv_aload_n hx hb dX7_ahead_62 rfl (lv_at hl 1 rfl) ?_
            refine va_get (D := D) (ci := 7) (v := .ref nw) (C := RX7) (T := TX7) (N := 23) hx hb hts nX7_ahead_0 hown hK.1 hP 0 rfl rfl 13 (by decide) (hts _ mX7_ahead_1) (fun _ h9 => h9) rfl dX7_ahead_63 ?_
            refine lv_iconst (v := nI 2) hx hb dX7_ahead_66 (by decide) ?_
            refine q_iald (j := 2) (v := nI (w 2)) hx hb hK hP 1 rfl (by omega) (by decide) (hm _ (by omega)) dX7_ahead_67 ?_
            refine lv_iload_n hx hb dX7_ahead_68 rfl (lv_at hl 2 rfl) ?_
            refine lv_iadd hx hb dX7_ahead_69 ?_
            refine q_top (y := nI ((w 2) + m)) (nI_add _ _) ?_
            refine q_rS (As := [.ref nw, .int (nI ((w 2) + m))]) (rest := []) ⟨hx, hb, hml, hown, hts⟩ (c_X7_workers l D cy nw f w hm hv ((w 2) + m) (by omega)) (va_cwS 2 hts gX7_ahead_X7_workers rfl rfl rfl (by decide +kernel) ⟨Nat.le_of_ble_eq_true rfl, Nat.le_of_ble_eq_true rfl⟩) hP hK [1] rfl rfl hl.1 rfl (Nat.le_of_ble_eq_true rfl) dX7_ahead_70 ⟨Nat.zero_le _, Nat.zero_le _⟩ (fun r11 hr11 => ?_)
            obtain rfl := hr11
            refine lv_goto (tgt := 80) hx hb dX7_ahead_73 (by decide) ?_
            exact q_iret (v := nI (ctWks w ((w 2) + m) (w 4))) hx hb hr hlocks dX7_ahead_80 ((by simp only [oAhead, q_cl (by omega : m < 2147483648), q_cl (by omega : k < 2147483648), if_pos b2, if_pos b4, if_pos b6, if_neg (by omega : ¬ k = 0), if_pos (by omega : k = 1)]))
        · refine lv_iload_n hx hb dX7_ahead_49 rfl (lv_at hl 0 rfl) ?_
          refine lv_goto (tgt := 80) hx hb dX7_ahead_50 (by decide) ?_
          exact q_iret (v := nI (ctLeft w ((w 2) + m))) hx hb hr hlocks dX7_ahead_80 ((by simp only [oAhead, q_cl (by omega : m < 2147483648), q_cl (by omega : k < 2147483648), if_pos b2, if_pos b4, if_pos b6, if_pos (by omega : k = 0)]))
      · have _ := b6
        refine lv_if_ne (tgt := 29) hx hb dX7_ahead_23 (by decide) (fun c9 => absurd (by decide) c9) (fun _ => ?_)
        refine lv_ldc (v := (-1000001)) hx hb hown (hts _ mX7_ahead_2) dX7_ahead_26 ?_
        exact q_iret (v := (-1000001)) hx hb hr hlocks dX7_ahead_28 ((by simp only [oAhead, if_pos b2, if_pos b4, if_neg b6]))
    · have _ := b4
      refine lv_if_eq (tgt := 26) hx hb dX7_ahead_14 (by decide) (fun _ => ?_) (fun c9 => absurd (by decide) c9)
      refine lv_ldc (v := (-1000001)) hx hb hown (hts _ mX7_ahead_2) dX7_ahead_26 ?_
      exact q_iret (v := (-1000001)) hx hb hr hlocks dX7_ahead_28 ((by simp only [oAhead, if_pos b2, if_neg b4]))
  · have _ := b2
    refine lv_if_ne (tgt := 10) hx hb dX7_ahead_4 (by decide) (fun c9 => absurd (by decide) c9) (fun _ => ?_)
    refine lv_ldc (v := (-1000002)) hx hb hown (hts _ mX7_ahead_3) dX7_ahead_7 ?_
    exact q_iret (v := (-1000002)) hx hb hr hlocks dX7_ahead_9 ((by simp only [oAhead, if_neg b2]))
theorem mX7_first_0 : Cond.constant RX7 50 (-1000000) ∈ wsX7_first := by decide +kernel
theorem nX7_first_1 : ∀ w ∈ wsX70, w ∈ wsX7_first := by decide +kernel
theorem mX7_first_2 : Cond.fieldLink RX7 25 "ClueLeaveModel" "now" "[I" ∈ wsX7_first := by decide +kernel
theorem mX7_first_3 : Cond.constant RX7 64 (-1000001) ∈ wsX7_first := by decide +kernel
theorem mX7_first_4 : Cond.constant RX7 163 (-1000002) ∈ wsX7_first := by decide +kernel
set_option maxHeartbeats 4000000 in
set_option maxRecDepth 100000 in
theorem c_X7_first (l : Launch) (D : va_G) (cy : Nat → ClassId) (m0 ml mm mit ms mt nw dr tr pa ig kx be tc : Nat) (st fk fp av sv ov vv : Int32) (tn ac td : Nat) (f : Nat → Int32) (w : Nat → Nat) (hm : mwIs w f) (hv : ctOk w) (mean : Int32) : q_Rd l yX7_first wsX7_first 5 D cy [(m0, .inr (7, [.ref ml, .ref mm, .ref mit, .ref ms, .int (st), .ref mt, .int (nI tn), .int (fk), .int (fp), .int (av), .int (sv), .int (ov), .int (vv), .ref nw, .ref dr, .ref tr, .ref pa, .int (nI ac), .ref ig, .ref kx, .ref be, .ref tc, .int (nI td)])), (nw, .inl (cy 0, 29, .inl f))] [.ref m0, .int (mean)] (fun r => r = oFirst w mean) := by
  refine q_rd_of (cc := cX7_first) (maxL := 3) (ret := (some .int)) (by decide) rfl (Nat.le_of_ble_eq_true rfl) ?_
  intro pg en s mi args below meth cd hC hP hK ls hl
  obtain ⟨hx, hb, hr, hml, hown, hts, hlocks⟩ := hC
  have hl : lv_has ls 3 [(0, .ref m0), (1, .int (mean))] := hl
  obtain ⟨hv0, hv1, hv2, hv3, hv4, hvc⟩ := id hv
  refine lv_aload_n hx hb dX7_first_0 rfl (lv_at hl 0 rfl) ?_
  refine q_rV (As := []) (rest := []) ⟨hx, hb, hml, hown, hts⟩ (c_X7_isCity l D cy m0 ml mm mit ms mt nw dr tr pa ig kx be tc st fk fp av sv ov vv tn ac td f w hm hv) (cwV 0 hts gX7_first_X7_isCity rfl rfl rfl (by decide +kernel) ⟨Nat.le_of_ble_eq_true rfl, Nat.le_of_ble_eq_true rfl⟩) hP hK [0, 1] rfl 0 rfl rfl rfl rfl hl.1 rfl (Nat.le_of_ble_eq_true rfl) dX7_first_1 ⟨Nat.zero_le _, Nat.zero_le _⟩ (fun r1 hr1 => ?_)
  rcases hr1 with ⟨rfl, b2⟩ | ⟨rfl, b2⟩
  · have _ := b2
    refine lv_if_ne (tgt := 10) hx hb dX7_first_4 (by decide) (fun _ => ?_) (fun c9 => absurd c9 (by decide))
    refine lv_iload_n hx hb dX7_first_10 rfl (lv_at hl 1 rfl) ?_
    refine lv_iconst (v := nI 0) hx hb dX7_first_11 (by decide) ?_
    refine lv_iconst (v := nI 1) hx hb dX7_first_12 (by decide) ?_
    refine q_rS (As := [.int (mean), .int (nI 0), .int (nI 1)]) (rest := []) ⟨hx, hb, hml, hown, hts⟩ (c_X7_in l D cy mean (nI 0) (nI 1)) (va_cwS 3 hts gX7_first_X7_in rfl rfl rfl (by decide +kernel) ⟨Nat.le_of_ble_eq_true rfl, Nat.le_of_ble_eq_true rfl⟩) hP hK [] rfl rfl hl.1 rfl (Nat.le_of_ble_eq_true rfl) dX7_first_13 ⟨Nat.zero_le _, Nat.zero_le _⟩ (fun r3 hr3 => ?_)
    rcases hr3 with ⟨rfl, b4⟩ | ⟨rfl, b4⟩
    · have _ := b4
      refine lv_if_ne (tgt := 22) hx hb dX7_first_16 (by decide) (fun _ => ?_) (fun c9 => absurd c9 (by decide))
      obtain ⟨m, -, hx_m, rfl⟩ := q_rng b4 (by decide) (by decide)
      refine lv_iconst (v := nI 0) hx hb dX7_first_22 (by decide) ?_
      refine lv_istore_n (lv' := [(2, .int (nI 0)), (0, .ref m0), (1, .int (nI m))]) hx hb dX7_first_23 rfl hl (by decide) rfl (fun ls hl => ?_)
      have L24_18 : ∀ (fu d : Nat), d ≤ 100 → 100 < d + fu → fsN w (1 - m) (100 - d) d = fsN w (1 - m) 100 0 → ∀ ls : Array Slot, lv_has ls 3 [(0, .ref m0), (1, .int (nI m)), (2, .int (nI d))] → W pg l en (q_rm 5) s mi args below meth cd s.heap [] 0 0 (MQ below (vp_Si (fun r => r = oFirst w (nI m))) args s 0 0 (fun _ => False)) (F0 mi 24 ls []) := by
        intro fu
        induction fu with
        | zero =>
          intro d h1 h2
          exact absurd h2 (by omega)
        | succ fu ih24 =>
          intro d h1_24 h2_24 hf24_0 ls hl
          refine lv_iload_n hx hb dX7_first_24 rfl (lv_at hl 2 rfl) ?_
          refine lv_bipush (v := nI 100) hx hb dX7_first_25 (by decide) ?_
          refine q_icmp_ge (tgt := 62) hx hb dX7_first_27 (by decide) (by omega) (by decide) (fun c5 => ?_) (fun c5 => ?_)
          · refine lv_ldc (v := (-1000000)) hx hb hown (hts _ mX7_first_0) dX7_first_62 ?_
            exact q_iret (v := (-1000000)) hx hb hr hlocks dX7_first_64 ((by simp only [oFirst, if_pos b2, if_pos b4, q_cl (by omega : m < 2147483648)]; exact (fsN_0 (d := d) (by omega)).symm.trans hf24_0))
          · refine lv_aload_n hx hb dX7_first_30 rfl (lv_at hl 0 rfl) ?_
            refine va_get (D := D) (ci := 7) (v := .ref nw) (C := RX7) (T := TX7) (N := 23) hx hb hts nX7_first_1 hown hK.1 hP 0 rfl rfl 13 (by decide) (hts _ mX7_first_2) (fun _ h9 => h9) rfl dX7_first_31 ?_
            refine lv_aload_n hx hb dX7_first_34 rfl (lv_at hl 0 rfl) ?_
            refine va_get (D := D) (ci := 7) (v := .ref nw) (C := RX7) (T := TX7) (N := 23) hx hb hts nX7_first_1 hown hK.1 hP 0 rfl rfl 13 (by decide) (hts _ mX7_first_2) (fun _ h9 => h9) rfl dX7_first_35 ?_
            refine lv_iconst (v := nI 2) hx hb dX7_first_38 (by decide) ?_
            refine q_iald (j := 2) (v := nI (w 2)) hx hb hK hP 1 rfl (by omega) (by decide) (hm _ (by omega)) dX7_first_39 ?_
            refine lv_iload_n hx hb dX7_first_40 rfl (lv_at hl 2 rfl) ?_
            refine lv_iadd hx hb dX7_first_41 ?_
            refine q_top (y := nI ((w 2) + d)) (nI_add _ _) ?_
            refine q_rS (As := [.ref nw, .int (nI ((w 2) + d))]) (rest := []) ⟨hx, hb, hml, hown, hts⟩ (c_X7_leftOn l D cy nw f w hm hv ((w 2) + d) (by omega)) (va_cwS 2 hts gX7_first_X7_leftOn rfl rfl rfl (by decide +kernel) ⟨Nat.le_of_ble_eq_true rfl, Nat.le_of_ble_eq_true rfl⟩) hP hK [1] rfl rfl hl.1 rfl (Nat.le_of_ble_eq_true rfl) dX7_first_42 ⟨Nat.zero_le _, Nat.zero_le _⟩ (fun r6 hr6 => ?_)
            obtain rfl := hr6
            have hll := ctLeft_lt hv0 (w 2 + d)
            refine q_rS (As := [.int (nI (ctLeft w ((w 2) + d)))]) (rest := []) ⟨hx, hb, hml, hown, hts⟩ (c_X7_ones l D cy (ctLeft w ((w 2) + d)) (by omega)) (va_cwS 1 hts gX7_first_X7_ones rfl rfl rfl (by decide +kernel) ⟨Nat.le_of_ble_eq_true rfl, Nat.le_of_ble_eq_true rfl⟩) hP hK [] rfl rfl hl.1 rfl (Nat.le_of_ble_eq_true rfl) dX7_first_45 ⟨Nat.zero_le _, Nat.zero_le _⟩ (fun r7 hr7 => ?_)
            obtain rfl := hr7
            have hbl := bc_lt (ctLeft w (w 2 + d)) (by omega)
            refine lv_iconst (v := nI 1) hx hb dX7_first_48 (by decide) ?_
            refine lv_iload_n hx hb dX7_first_49 rfl (lv_at hl 1 rfl) ?_
            refine lv_isub hx hb dX7_first_50 ?_
            refine q_top (y := nI (1 - m)) (pk_sub (by omega)) ?_
            refine q_icmp_ne (tgt := 56) hx hb dX7_first_51 (by decide) (by omega) (by omega) (fun c8 => ?_) (fun c8 => ?_)
            · refine lv_iinc (v := nI (d + 1)) (lv' := [(2, .int (nI (d + 1))), (0, .ref m0), (1, .int (nI m))]) hx hb dX7_first_56 hl (k := 2) rfl (q_inc d 1) (by decide) rfl (fun ls hl => ?_)
              refine lv_goto (tgt := 24) hx hb dX7_first_59 (by decide) ?_
              exact ih24 (d + 1) (by omega) (by omega) ((fsN_s (by omega) (by omega)).symm.trans hf24_0) ls (lv_sub (l' := [(0, .ref m0), (1, .int (nI m)), (2, .int (nI (d + 1)))]) hl [1, 2, 0] rfl)
            · refine lv_iload_n hx hb dX7_first_54 rfl (lv_at hl 2 rfl) ?_
              exact q_iret (v := nI d) hx hb hr hlocks dX7_first_55 ((by simp only [oFirst, if_pos b2, if_pos b4, q_cl (by omega : m < 2147483648)]; exact (fsN_t (by omega) (by omega)).symm.trans hf24_0))
      exact L24_18 (100 + 1) 0 (by omega) (by omega) rfl ls (lv_sub (l' := [(0, .ref m0), (1, .int (nI m)), (2, .int (nI 0))]) hl [1, 2, 0] rfl)
    · have _ := b4
      refine lv_if_ne (tgt := 22) hx hb dX7_first_16 (by decide) (fun c9 => absurd (by decide) c9) (fun _ => ?_)
      refine lv_ldc (v := (-1000001)) hx hb hown (hts _ mX7_first_3) dX7_first_19 ?_
      exact q_iret (v := (-1000001)) hx hb hr hlocks dX7_first_21 ((by simp only [oFirst, if_pos b2, if_neg b4]))
  · have _ := b2
    refine lv_if_ne (tgt := 10) hx hb dX7_first_4 (by decide) (fun c9 => absurd (by decide) c9) (fun _ => ?_)
    refine lv_ldc (v := (-1000002)) hx hb hown (hts _ mX7_first_4) dX7_first_7 ?_
    exact q_iret (v := (-1000002)) hx hb hr hlocks dX7_first_9 ((by simp only [oFirst, if_neg b2]))
theorem nX7_when_0 : ∀ w ∈ wsX70, w ∈ wsX7_when := by decide +kernel
theorem mX7_when_1 : Cond.fieldLink RX7 25 "ClueLeaveModel" "now" "[I" ∈ wsX7_when := by decide +kernel
theorem mX7_when_2 : Cond.constant RX7 50 (-1000000) ∈ wsX7_when := by decide +kernel
theorem mX7_when_3 : Cond.constant RX7 64 (-1000001) ∈ wsX7_when := by decide +kernel
set_option maxHeartbeats 4000000 in
set_option maxRecDepth 100000 in
theorem c_X7_when (l : Launch) (D : va_G) (cy : Nat → ClassId) (m0 ml mm mit ms mt nw dr tr pa ig kx be tc : Nat) (st fk fp av sv ov vv : Int32) (tn ac td : Nat) (f : Nat → Int32) (w : Nat → Nat) (hm : mwIs w f) (hv : ctOk w) (sx n : Int32) : q_Rd l yX7_when wsX7_when 5 D cy [(m0, .inr (7, [.ref ml, .ref mm, .ref mit, .ref ms, .int (st), .ref mt, .int (nI tn), .int (fk), .int (fp), .int (av), .int (sv), .int (ov), .int (vv), .ref nw, .ref dr, .ref tr, .ref pa, .int (nI ac), .ref ig, .ref kx, .ref be, .ref tc, .int (nI td)])), (nw, .inl (cy 0, 29, .inl f))] [.ref m0, .int (sx), .int (n)] (fun r => r = oWhen w sx n) := by
  refine q_rd_of (cc := cX7_when) (maxL := 8) (ret := (some .int)) (by decide) rfl (Nat.le_of_ble_eq_true rfl) ?_
  intro pg en s mi args below meth cd hC hP hK ls hl
  obtain ⟨hx, hb, hr, hml, hown, hts, hlocks⟩ := hC
  have hl : lv_has ls 8 [(0, .ref m0), (1, .int (sx)), (2, .int (n))] := hl
  obtain ⟨hv0, hv1, hv2, hv3, hv4, hvc⟩ := id hv
  refine lv_iload_n hx hb dX7_when_0 rfl (lv_at hl 1 rfl) ?_
  refine lv_iconst (v := nI 0) hx hb dX7_when_1 (by decide) ?_
  refine lv_aload_n hx hb dX7_when_2 rfl (lv_at hl 0 rfl) ?_
  refine va_get (D := D) (ci := 7) (v := .ref nw) (C := RX7) (T := TX7) (N := 23) hx hb hts nX7_when_0 hown hK.1 hP 0 rfl rfl 13 (by decide) (hts _ mX7_when_1) (fun _ h9 => h9) rfl dX7_when_3 ?_
  refine lv_iconst (v := nI 0) hx hb dX7_when_6 (by decide) ?_
  refine q_iald (j := 0) (v := nI (w 0)) hx hb hK hP 1 rfl (by omega) (by decide) (hm _ (by omega)) dX7_when_7 ?_
  refine lv_iconst (v := nI 1) hx hb dX7_when_8 (by decide) ?_
  refine lv_isub hx hb dX7_when_9 ?_
  refine q_rS (As := [.int (sx), .int (nI 0), .int ((nI (w 0)) - (nI 1))]) (rest := []) ⟨hx, hb, hml, hown, hts⟩ (c_X7_in l D cy sx (nI 0) ((nI (w 0)) - (nI 1))) (va_cwS 3 hts gX7_when_X7_in rfl rfl rfl (by decide +kernel) ⟨Nat.le_of_ble_eq_true rfl, Nat.le_of_ble_eq_true rfl⟩) hP hK [] rfl rfl hl.1 rfl (Nat.le_of_ble_eq_true rfl) dX7_when_10 ⟨Nat.zero_le _, Nat.zero_le _⟩ (fun r1 hr1 => ?_)
  rcases hr1 with ⟨rfl, b2⟩ | ⟨rfl, b2⟩
  · have _ := b2
    replace b2 := (inC_w hv0).mp b2
    refine lv_if_eq (tgt := 26) hx hb dX7_when_13 (by decide) (fun c9 => absurd c9 (by decide)) (fun _ => ?_)
    refine lv_iload_n hx hb dX7_when_16 rfl (lv_at hl 2 rfl) ?_
    refine lv_iconst (v := nI 1) hx hb dX7_when_17 (by decide) ?_
    refine lv_bipush (v := nI 60) hx hb dX7_when_18 (by decide) ?_
    refine q_rS (As := [.int (n), .int (nI 1), .int (nI 60)]) (rest := []) ⟨hx, hb, hml, hown, hts⟩ (c_X7_in l D cy n (nI 1) (nI 60)) (va_cwS 3 hts gX7_when_X7_in rfl rfl rfl (by decide +kernel) ⟨Nat.le_of_ble_eq_true rfl, Nat.le_of_ble_eq_true rfl⟩) hP hK [] rfl rfl hl.1 rfl (Nat.le_of_ble_eq_true rfl) dX7_when_20 ⟨Nat.zero_le _, Nat.zero_le _⟩ (fun r3 hr3 => ?_)
    rcases hr3 with ⟨rfl, b4⟩ | ⟨rfl, b4⟩
    · have _ := b4
      refine lv_if_ne (tgt := 29) hx hb dX7_when_23 (by decide) (fun _ => ?_) (fun c9 => absurd c9 (by decide))
      obtain ⟨s1, hs1, rfl⟩ := (inC_i (by omega)).mpr b2
      obtain ⟨n1, -, hx_n1, rfl⟩ := q_rng b4 (by decide) (by decide)
      refine lv_ldc (v := (-1000000)) hx hb hown (hts _ mX7_when_2) dX7_when_29 ?_
      refine lv_istore_n (lv' := [(3, .int ((-1000000))), (0, .ref m0), (1, .int (nI s1)), (2, .int (nI n1))]) hx hb dX7_when_31 rfl hl (by decide) rfl (fun ls hl => ?_)
      refine lv_iconst (v := nI 1) hx hb dX7_when_32 (by decide) ?_
      refine lv_istore (lv' := [(4, .int (nI 1)), (3, .int ((-1000000))), (0, .ref m0), (1, .int (nI s1)), (2, .int (nI n1))]) hx hb dX7_when_33 hl (by decide) rfl (fun ls hl => ?_)
      refine lv_iconst (v := nI 0) hx hb dX7_when_35 (by decide) ?_
      refine lv_istore (lv' := [(5, .int (nI 0)), (4, .int (nI 1)), (3, .int ((-1000000))), (0, .ref m0), (1, .int (nI s1)), (2, .int (nI n1))]) hx hb dX7_when_36 hl (by decide) rfl (fun ls hl => ?_)
      have L38_31 : ∀ (fu d : Nat), d ≤ n1 → n1 < d + fu → whM w s1 d ≤ 15 → ∀ ls : Array Slot, lv_has ls 8 [(0, .ref m0), (1, .int (nI s1)), (2, .int (nI n1)), (3, .int (whC (whB w s1 d))), (4, .int (nI (whM w s1 d))), (5, .int (nI d))] → W pg l en (q_rm 5) s mi args below meth cd s.heap [] 0 0 (MQ below (vp_Si (fun r => r = oWhen w (nI s1) (nI n1))) args s 0 0 (fun _ => False)) (F0 mi 38 ls []) := by
        intro fu
        induction fu with
        | zero =>
          intro d h1 h2
          exact absurd h2 (by omega)
        | succ fu ih38 =>
          intro d h1_38 h2_38 hf38_0 ls hl
          refine lv_iload hx hb dX7_when_38 (lv_at hl 5 rfl) ?_
          refine lv_iload_n hx hb dX7_when_40 rfl (lv_at hl 2 rfl) ?_
          refine q_icmp_ge (tgt := 123) hx hb dX7_when_41 (by decide) (by omega) (by omega) (fun c5 => ?_) (fun c5 => ?_)
          · refine lv_iload_n hx hb dX7_when_123 rfl (lv_at hl 3 rfl) ?_
            exact q_iret (v := whC (whB w s1 d)) hx hb hr hlocks dX7_when_124 ((by simp only [oWhen, if_pos b2, if_pos b4, q_cl (by omega : s1 < 2147483648), q_cl (by omega : n1 < 2147483648), (by omega : d = n1)]))
          · refine lv_aload_n hx hb dX7_when_44 rfl (lv_at hl 0 rfl) ?_
            refine va_get (D := D) (ci := 7) (v := .ref nw) (C := RX7) (T := TX7) (N := 23) hx hb hts nX7_when_0 hown hK.1 hP 0 rfl rfl 13 (by decide) (hts _ mX7_when_1) (fun _ h9 => h9) rfl dX7_when_45 ?_
            refine lv_aload_n hx hb dX7_when_48 rfl (lv_at hl 0 rfl) ?_
            refine va_get (D := D) (ci := 7) (v := .ref nw) (C := RX7) (T := TX7) (N := 23) hx hb hts nX7_when_0 hown hK.1 hP 0 rfl rfl 13 (by decide) (hts _ mX7_when_1) (fun _ h9 => h9) rfl dX7_when_49 ?_
            refine lv_iconst (v := nI 2) hx hb dX7_when_52 (by decide) ?_
            refine q_iald (j := 2) (v := nI (w 2)) hx hb hK hP 1 rfl (by omega) (by decide) (hm _ (by omega)) dX7_when_53 ?_
            refine lv_iload hx hb dX7_when_54 (lv_at hl 5 rfl) ?_
            refine lv_iadd hx hb dX7_when_56 ?_
            refine q_top (y := nI ((w 2) + d)) (nI_add _ _) ?_
            refine q_rS (As := [.ref nw, .int (nI ((w 2) + d))]) (rest := []) ⟨hx, hb, hml, hown, hts⟩ (c_X7_leftOn l D cy nw f w hm hv ((w 2) + d) (by omega)) (va_cwS 2 hts gX7_when_X7_leftOn rfl rfl rfl (by decide +kernel) ⟨Nat.le_of_ble_eq_true rfl, Nat.le_of_ble_eq_true rfl⟩) hP hK [1] rfl rfl hl.1 rfl (Nat.le_of_ble_eq_true rfl) dX7_when_57 ⟨Nat.zero_le _, Nat.zero_le _⟩ (fun r6 hr6 => ?_)
            obtain rfl := hr6
            have hll := ctLeft_lt hv0 (w 2 + d)
            have hbl := bc_lt (ctLeft w (w 2 + d)) (by omega)
            refine lv_istore (lv' := [(6, .int (nI (ctLeft w ((w 2) + d)))), (0, .ref m0), (1, .int (nI s1)), (2, .int (nI n1)), (3, .int (whC (whB w s1 d))), (4, .int (nI (whM w s1 d))), (5, .int (nI d))]) hx hb dX7_when_60 hl (by decide) rfl (fun ls hl => ?_)
            refine lv_iload hx hb dX7_when_62 (lv_at hl 0 rfl) ?_
            refine lv_iload_n hx hb dX7_when_64 rfl (lv_at hl 2 rfl) ?_
            refine q_rS (As := [.int (nI (ctLeft w ((w 2) + d))), .int (nI s1)]) (rest := []) ⟨hx, hb, hml, hown, hts⟩ (c_X7_has l D cy (ctLeft w ((w 2) + d)) s1 (by omega) (by omega)) (va_cwS 2 hts gX7_when_X7_has rfl rfl rfl (by decide +kernel) ⟨Nat.le_of_ble_eq_true rfl, Nat.le_of_ble_eq_true rfl⟩) hP hK [] rfl rfl hl.1 rfl (Nat.le_of_ble_eq_true rfl) dX7_when_65 ⟨Nat.zero_le _, Nat.zero_le _⟩ (fun r7 hr7 => ?_)
            rcases hr7 with ⟨rfl, b8⟩ | ⟨rfl, b8⟩
            · have _ := b8
              refine lv_if_eq (tgt := 85) hx hb dX7_when_68 (by decide) (fun c9 => absurd c9 (by decide)) (fun _ => ?_)
              refine lv_iload hx hb dX7_when_71 (lv_at hl 0 rfl) ?_
              refine q_rS (As := [.int (nI (ctLeft w ((w 2) + d)))]) (rest := []) ⟨hx, hb, hml, hown, hts⟩ (c_X7_ones l D cy (ctLeft w ((w 2) + d)) (by omega)) (va_cwS 1 hts gX7_when_X7_ones rfl rfl rfl (by decide +kernel) ⟨Nat.le_of_ble_eq_true rfl, Nat.le_of_ble_eq_true rfl⟩) hP hK [] rfl rfl hl.1 rfl (Nat.le_of_ble_eq_true rfl) dX7_when_73 ⟨Nat.zero_le _, Nat.zero_le _⟩ (fun r9 hr9 => ?_)
              obtain rfl := hr9
              refine lv_iload hx hb dX7_when_76 (lv_at hl 5 rfl) ?_
              refine q_icmp_le (tgt := 85) hx hb dX7_when_78 (by decide) (by omega) (by omega) (fun c10 => ?_) (fun c10 => ?_)
              · refine lv_iconst (v := nI 0) hx hb dX7_when_85 (by decide) ?_
                refine lv_istore (lv' := [(7, .int (nI 0)), (6, .int (nI (ctLeft w ((w 2) + d)))), (0, .ref m0), (1, .int (nI s1)), (2, .int (nI n1)), (3, .int (whC (whB w s1 d))), (4, .int (nI (whM w s1 d))), (5, .int (nI d))]) hx hb dX7_when_86 hl (by decide) rfl (fun ls hl => ?_)
                refine lv_iload hx hb dX7_when_88 (lv_at hl 0 rfl) ?_
                refine lv_if_eq (tgt := 98) hx hb dX7_when_90 (by decide) (fun _ => ?_) (fun c9 => absurd (by decide) c9)
                refine lv_iload_n hx hb dX7_when_98 rfl (lv_at hl 5 rfl) ?_
                refine lv_istore_n (lv' := [(3, .int (whC (whB w s1 d))), (7, .int (nI 0)), (6, .int (nI (ctLeft w ((w 2) + d)))), (0, .ref m0), (1, .int (nI s1)), (2, .int (nI n1)), (4, .int (nI (whM w s1 d))), (5, .int (nI d))]) hx hb dX7_when_99 rfl hl (by decide) rfl (fun ls hl => ?_)
                refine lv_iload hx hb dX7_when_100 (lv_at hl 1 rfl) ?_
                refine lv_if_eq (tgt := 113) hx hb dX7_when_102 (by decide) (fun _ => ?_) (fun c9 => absurd (by decide) c9)
                refine lv_iload hx hb dX7_when_113 (lv_at hl 6 rfl) ?_
                refine lv_istore (lv' := [(4, .int (nI (whM w s1 d))), (3, .int (whC (whB w s1 d))), (7, .int (nI 0)), (6, .int (nI (ctLeft w ((w 2) + d)))), (0, .ref m0), (1, .int (nI s1)), (2, .int (nI n1)), (5, .int (nI d))]) hx hb dX7_when_115 hl (by decide) rfl (fun ls hl => ?_)
                refine lv_iinc (v := nI (d + 1)) (lv' := [(5, .int (nI (d + 1))), (4, .int (nI (whM w s1 d))), (3, .int (whC (whB w s1 d))), (7, .int (nI 0)), (6, .int (nI (ctLeft w ((w 2) + d)))), (0, .ref m0), (1, .int (nI s1)), (2, .int (nI n1))]) hx hb dX7_when_117 hl (k := 7) rfl (q_inc d 1) (by decide) rfl (fun ls hl => ?_)
                refine lv_goto (tgt := 38) hx hb dX7_when_120 (by decide) ?_
                exact ih38 (d + 1) (by omega) (by omega) (by rw [whM_f2 (by omega)]; omega) ls (q_lset (lv_sub (l' := [(0, .ref m0), (1, .int (nI s1)), (2, .int (nI n1)), (3, .int (whC (whB w s1 d))), (4, .int (nI (whM w s1 d))), (5, .int (nI (d + 1)))]) hl [5, 6, 7, 2, 1, 0] rfl) (q_c2 (f := fun z3 z4 => ([(0, .ref m0), (1, .int (nI s1)), (2, .int (nI n1)), (3, .int (z3)), (4, .int (z4)), (5, .int (nI (d + 1)))] : List (Nat × Value))) (show (whC (whB w s1 d) : Int32) = whC (whB w s1 (d + 1)) from (congrArg whC (whB_f2 (by omega))).symm) (show (nI (whM w s1 d) : Int32) = nI (whM w s1 (d + 1)) from (congrArg nI (whM_f2 (by omega))).symm)))
              · refine lv_iconst (v := nI 1) hx hb dX7_when_81 (by decide) ?_
                refine lv_goto (tgt := 86) hx hb dX7_when_82 (by decide) ?_
                refine lv_istore (lv' := [(7, .int (nI 1)), (6, .int (nI (ctLeft w ((w 2) + d)))), (0, .ref m0), (1, .int (nI s1)), (2, .int (nI n1)), (3, .int (whC (whB w s1 d))), (4, .int (nI (whM w s1 d))), (5, .int (nI d))]) hx hb dX7_when_86 hl (by decide) rfl (fun ls hl => ?_)
                refine lv_iload hx hb dX7_when_88 (lv_at hl 0 rfl) ?_
                refine lv_if_eq (tgt := 98) hx hb dX7_when_90 (by decide) (fun c9 => absurd c9 (by decide)) (fun _ => ?_)
                refine lv_iload hx hb dX7_when_93 (lv_at hl 7 rfl) ?_
                refine lv_goto (tgt := 99) hx hb dX7_when_95 (by decide) ?_
                refine lv_istore_n (lv' := [(3, .int (nI d)), (7, .int (nI 1)), (6, .int (nI (ctLeft w ((w 2) + d)))), (0, .ref m0), (1, .int (nI s1)), (2, .int (nI n1)), (4, .int (nI (whM w s1 d))), (5, .int (nI d))]) hx hb dX7_when_99 rfl hl (by decide) rfl (fun ls hl => ?_)
                refine lv_iload hx hb dX7_when_100 (lv_at hl 1 rfl) ?_
                refine lv_if_eq (tgt := 113) hx hb dX7_when_102 (by decide) (fun c9 => absurd c9 (by decide)) (fun _ => ?_)
                refine lv_iload hx hb dX7_when_105 (lv_at hl 2 rfl) ?_
                refine q_rS (As := [.int (nI (ctLeft w ((w 2) + d)))]) (rest := []) ⟨hx, hb, hml, hown, hts⟩ (c_X7_ones l D cy (ctLeft w ((w 2) + d)) (by omega)) (va_cwS 1 hts gX7_when_X7_ones rfl rfl rfl (by decide +kernel) ⟨Nat.le_of_ble_eq_true rfl, Nat.le_of_ble_eq_true rfl⟩) hP hK [] rfl rfl hl.1 rfl (Nat.le_of_ble_eq_true rfl) dX7_when_107 ⟨Nat.zero_le _, Nat.zero_le _⟩ (fun r11 hr11 => ?_)
                obtain rfl := hr11
                refine lv_goto (tgt := 115) hx hb dX7_when_110 (by decide) ?_
                refine lv_istore (lv' := [(4, .int (nI (bc (ctLeft w ((w 2) + d))))), (3, .int (nI d)), (7, .int (nI 1)), (6, .int (nI (ctLeft w ((w 2) + d)))), (0, .ref m0), (1, .int (nI s1)), (2, .int (nI n1)), (5, .int (nI d))]) hx hb dX7_when_115 hl (by decide) rfl (fun ls hl => ?_)
                refine lv_iinc (v := nI (d + 1)) (lv' := [(5, .int (nI (d + 1))), (4, .int (nI (bc (ctLeft w ((w 2) + d))))), (3, .int (nI d)), (7, .int (nI 1)), (6, .int (nI (ctLeft w ((w 2) + d)))), (0, .ref m0), (1, .int (nI s1)), (2, .int (nI n1))]) hx hb dX7_when_117 hl (k := 7) rfl (q_inc d 1) (by decide) rfl (fun ls hl => ?_)
                refine lv_goto (tgt := 38) hx hb dX7_when_120 (by decide) ?_
                exact ih38 (d + 1) (by omega) (by omega) (by rw [whM_t b8 (by omega)]; omega) ls (q_lset (lv_sub (l' := [(0, .ref m0), (1, .int (nI s1)), (2, .int (nI n1)), (3, .int (nI d)), (4, .int (nI (bc (ctLeft w ((w 2) + d))))), (5, .int (nI (d + 1)))]) hl [5, 6, 7, 2, 1, 0] rfl) (q_c2 (f := fun z3 z4 => ([(0, .ref m0), (1, .int (nI s1)), (2, .int (nI n1)), (3, .int (z3)), (4, .int (z4)), (5, .int (nI (d + 1)))] : List (Nat × Value))) (show (nI d : Int32) = whC (whB w s1 (d + 1)) from (whC_n (by omega : d ≠ 99)).symm.trans (congrArg whC (whB_t b8 (by omega))).symm) (show (nI (bc (ctLeft w ((w 2) + d))) : Int32) = nI (whM w s1 (d + 1)) from (congrArg nI (whM_t b8 (by omega))).symm)))
            · have _ := b8
              refine lv_if_eq (tgt := 85) hx hb dX7_when_68 (by decide) (fun _ => ?_) (fun c9 => absurd (by decide) c9)
              refine lv_iconst (v := nI 0) hx hb dX7_when_85 (by decide) ?_
              refine lv_istore (lv' := [(7, .int (nI 0)), (6, .int (nI (ctLeft w ((w 2) + d)))), (0, .ref m0), (1, .int (nI s1)), (2, .int (nI n1)), (3, .int (whC (whB w s1 d))), (4, .int (nI (whM w s1 d))), (5, .int (nI d))]) hx hb dX7_when_86 hl (by decide) rfl (fun ls hl => ?_)
              refine lv_iload hx hb dX7_when_88 (lv_at hl 0 rfl) ?_
              refine lv_if_eq (tgt := 98) hx hb dX7_when_90 (by decide) (fun _ => ?_) (fun c9 => absurd (by decide) c9)
              refine lv_iload_n hx hb dX7_when_98 rfl (lv_at hl 5 rfl) ?_
              refine lv_istore_n (lv' := [(3, .int (whC (whB w s1 d))), (7, .int (nI 0)), (6, .int (nI (ctLeft w ((w 2) + d)))), (0, .ref m0), (1, .int (nI s1)), (2, .int (nI n1)), (4, .int (nI (whM w s1 d))), (5, .int (nI d))]) hx hb dX7_when_99 rfl hl (by decide) rfl (fun ls hl => ?_)
              refine lv_iload hx hb dX7_when_100 (lv_at hl 1 rfl) ?_
              refine lv_if_eq (tgt := 113) hx hb dX7_when_102 (by decide) (fun _ => ?_) (fun c9 => absurd (by decide) c9)
              refine lv_iload hx hb dX7_when_113 (lv_at hl 6 rfl) ?_
              refine lv_istore (lv' := [(4, .int (nI (whM w s1 d))), (3, .int (whC (whB w s1 d))), (7, .int (nI 0)), (6, .int (nI (ctLeft w ((w 2) + d)))), (0, .ref m0), (1, .int (nI s1)), (2, .int (nI n1)), (5, .int (nI d))]) hx hb dX7_when_115 hl (by decide) rfl (fun ls hl => ?_)
              refine lv_iinc (v := nI (d + 1)) (lv' := [(5, .int (nI (d + 1))), (4, .int (nI (whM w s1 d))), (3, .int (whC (whB w s1 d))), (7, .int (nI 0)), (6, .int (nI (ctLeft w ((w 2) + d)))), (0, .ref m0), (1, .int (nI s1)), (2, .int (nI n1))]) hx hb dX7_when_117 hl (k := 7) rfl (q_inc d 1) (by decide) rfl (fun ls hl => ?_)
              refine lv_goto (tgt := 38) hx hb dX7_when_120 (by decide) ?_
              exact ih38 (d + 1) (by omega) (by omega) (by rw [whM_f1 b8]; omega) ls (q_lset (lv_sub (l' := [(0, .ref m0), (1, .int (nI s1)), (2, .int (nI n1)), (3, .int (whC (whB w s1 d))), (4, .int (nI (whM w s1 d))), (5, .int (nI (d + 1)))]) hl [5, 6, 7, 2, 1, 0] rfl) (q_c2 (f := fun z3 z4 => ([(0, .ref m0), (1, .int (nI s1)), (2, .int (nI n1)), (3, .int (z3)), (4, .int (z4)), (5, .int (nI (d + 1)))] : List (Nat × Value))) (show (whC (whB w s1 d) : Int32) = whC (whB w s1 (d + 1)) from (congrArg whC (whB_f1 b8)).symm) (show (nI (whM w s1 d) : Int32) = nI (whM w s1 (d + 1)) from (congrArg nI (whM_f1 b8)).symm)))
      exact L38_31 (n1 + 1) 0 (by omega) (by omega) (show 1 ≤ 15 by decide) ls (q_lset (lv_sub (l' := [(0, .ref m0), (1, .int (nI s1)), (2, .int (nI n1)), (3, .int ((-1000000))), (4, .int (nI 1)), (5, .int (nI 0))]) hl [3, 4, 5, 2, 1, 0] rfl) (q_c2 (f := fun z3 z4 => ([(0, .ref m0), (1, .int (nI s1)), (2, .int (nI n1)), (3, .int (z3)), (4, .int (z4)), (5, .int (nI 0))] : List (Nat × Value))) (show ((-1000000) : Int32) = whC (whB w s1 0) from rfl) (show (nI 1 : Int32) = nI (whM w s1 0) from rfl)))
    · have _ := b4
      refine lv_if_ne (tgt := 29) hx hb dX7_when_23 (by decide) (fun c9 => absurd (by decide) c9) (fun _ => ?_)
      refine lv_ldc (v := (-1000001)) hx hb hown (hts _ mX7_when_3) dX7_when_26 ?_
      exact q_iret (v := (-1000001)) hx hb hr hlocks dX7_when_28 ((by simp only [oWhen, if_pos b2, if_neg b4]))
  · have _ := b2
    replace b2 := fun q => b2 ((inC_w hv0).mpr q)
    refine lv_if_eq (tgt := 26) hx hb dX7_when_13 (by decide) (fun _ => ?_) (fun c9 => absurd (by decide) c9)
    refine lv_ldc (v := (-1000001)) hx hb hown (hts _ mX7_when_3) dX7_when_26 ?_
    exact q_iret (v := (-1000001)) hx hb hr hlocks dX7_when_28 ((by simp only [oWhen, if_neg b2]))
theorem mX7_fewest_0 : Cond.constant RX7 50 (-1000000) ∈ wsX7_fewest := by decide +kernel
theorem nX7_fewest_1 : ∀ w ∈ wsX70, w ∈ wsX7_fewest := by decide +kernel
theorem mX7_fewest_2 : Cond.fieldLink RX7 25 "ClueLeaveModel" "now" "[I" ∈ wsX7_fewest := by decide +kernel
set_option maxHeartbeats 4000000 in
set_option maxRecDepth 100000 in
theorem c_X7_fewest (l : Launch) (D : va_G) (cy : Nat → ClassId) (m0 ml mm mit ms mt nw dr tr pa ig kx be tc : Nat) (st fk fp av sv ov vv : Int32) (tn ac td : Nat) (f : Nat → Int32) (w : Nat → Nat) (hm : mwIs w f) (hv : ctOk w) (B1 L : Nat) (hW : B1 < 64) (hL : L < 64) : q_Rd l yX7_fewest wsX7_fewest 5 D cy [(m0, .inr (7, [.ref ml, .ref mm, .ref mit, .ref ms, .int (st), .ref mt, .int (nI tn), .int (fk), .int (fp), .int (av), .int (sv), .int (ov), .int (vv), .ref nw, .ref dr, .ref tr, .ref pa, .int (nI ac), .ref ig, .ref kx, .ref be, .ref tc, .int (nI td)])), (nw, .inl (cy 0, 29, .inl f))] [.ref m0, .int (nI B1), .int (nI L)] (fun r => r = fwC (fwF w B1 L (B1 + 1))) := by
  refine q_rd_of (cc := cX7_fewest) (maxL := 6) (ret := (some .int)) (by decide) rfl (Nat.le_of_ble_eq_true rfl) ?_
  intro pg en s mi args below meth cd hC hP hK ls hl
  obtain ⟨hx, hb, hr, hml, hown, hts, hlocks⟩ := hC
  have hl : lv_has ls 6 [(0, .ref m0), (1, .int (nI B1)), (2, .int (nI L))] := hl
  obtain ⟨hv0, hv1, hv2, hv3, hv4, hvc⟩ := id hv
  refine lv_ldc (v := (-1000000)) hx hb hown (hts _ mX7_fewest_0) dX7_fewest_0 ?_
  refine lv_istore_n (lv' := [(3, .int ((-1000000))), (0, .ref m0), (1, .int (nI B1)), (2, .int (nI L))]) hx hb dX7_fewest_2 rfl hl (by decide) rfl (fun ls hl => ?_)
  refine lv_iconst (v := nI 0) hx hb dX7_fewest_3 (by decide) ?_
  refine lv_istore (lv' := [(4, .int (nI 0)), (3, .int ((-1000000))), (0, .ref m0), (1, .int (nI B1)), (2, .int (nI L))]) hx hb dX7_fewest_4 hl (by decide) rfl (fun ls hl => ?_)
  have L6_7 : ∀ (fu k : Nat), k ≤ (B1 + 1) → (B1 + 1) < k + fu → ∀ ls : Array Slot, lv_has ls 6 [(0, .ref m0), (1, .int (nI B1)), (2, .int (nI L)), (3, .int (fwC (fwF w B1 L k))), (4, .int (nI k))] → W pg l en (q_rm 5) s mi args below meth cd s.heap [] 0 0 (MQ below (vp_Si (fun r => r = fwC (fwF w B1 L (B1 + 1)))) args s 0 0 (fun _ => False)) (F0 mi 6 ls []) := by
    intro fu
    induction fu with
    | zero =>
      intro k h1 h2
      exact absurd h2 (by omega)
    | succ fu ih6 =>
      intro k h1_6 h2_6 ls hl
      have hle := fwF_le w B1 L k
      refine lv_iload hx hb dX7_fewest_6 (lv_at hl 4 rfl) ?_
      refine lv_iload_n hx hb dX7_fewest_8 rfl (lv_at hl 1 rfl) ?_
      refine q_icmp_gt (tgt := 77) hx hb dX7_fewest_9 (by decide) (by omega) (by omega) (fun c1 => ?_) (fun c1 => ?_)
      · refine lv_iload_n hx hb dX7_fewest_77 rfl (lv_at hl 3 rfl) ?_
        exact q_iret (v := fwC (fwF w B1 L k)) hx hb hr hlocks dX7_fewest_78 (by rw [show k = B1 + 1 by omega])
      · refine lv_iload hx hb dX7_fewest_12 (lv_at hl 4 rfl) ?_
        refine lv_iload_n hx hb dX7_fewest_14 rfl (lv_at hl 1 rfl) ?_
        refine lv_iconst (v := (-1)) hx hb dX7_fewest_15 (by decide) ?_
        refine lv_ixor hx hb dX7_fewest_16 ?_
        refine lv_iand hx hb dX7_fewest_17 ?_
        refine q_top (y := nI (k &&& (63 ^^^ B1))) (nand6 (by omega) hW) ?_
        have hkw : k &&& (63 ^^^ B1) < 64 := Nat.lt_of_le_of_lt Nat.and_le_left (by omega)
        refine q_if_ne (tgt := 38) hx hb dX7_fewest_18 (by decide) (by omega) (fun c2 => ?_) (fun c2 => ?_)
        · refine lv_iconst (v := nI 0) hx hb dX7_fewest_38 (by decide) ?_
          refine lv_istore (lv' := [(5, .int (nI 0)), (0, .ref m0), (1, .int (nI B1)), (2, .int (nI L)), (3, .int (fwC (fwF w B1 L k))), (4, .int (nI k))]) hx hb dX7_fewest_39 hl (by decide) rfl (fun ls hl => ?_)
          refine lv_iload hx hb dX7_fewest_41 (lv_at hl 0 rfl) ?_
          refine lv_if_eq (tgt := 69) hx hb dX7_fewest_43 (by decide) (fun _ => ?_) (fun c9 => absurd (by decide) c9)
          refine lv_iload_n hx hb dX7_fewest_69 rfl (lv_at hl 4 rfl) ?_
          refine lv_istore_n (lv' := [(3, .int (fwC (fwF w B1 L k))), (5, .int (nI 0)), (0, .ref m0), (1, .int (nI B1)), (2, .int (nI L)), (4, .int (nI k))]) hx hb dX7_fewest_70 rfl hl (by decide) rfl (fun ls hl => ?_)
          refine lv_iinc (v := nI (k + 1)) (lv' := [(4, .int (nI (k + 1))), (3, .int (fwC (fwF w B1 L k))), (5, .int (nI 0)), (0, .ref m0), (1, .int (nI B1)), (2, .int (nI L))]) hx hb dX7_fewest_71 hl (k := 5) rfl (q_inc k 1) (by decide) rfl (fun ls hl => ?_)
          refine lv_goto (tgt := 6) hx hb dX7_fewest_74 (by decide) ?_
          exact ih6 (k + 1) (by omega) (by omega) ls (q_lset (lv_sub (l' := [(0, .ref m0), (1, .int (nI B1)), (2, .int (nI L)), (3, .int (fwC (fwF w B1 L k))), (4, .int (nI (k + 1)))]) hl [3, 4, 5, 1, 0] rfl) (q_c1 (f := fun z3 => ([(0, .ref m0), (1, .int (nI B1)), (2, .int (nI L)), (3, .int (z3)), (4, .int (nI (k + 1)))] : List (Nat × Value))) (show (fwC (fwF w B1 L k) : Int32) = fwC (fwF w B1 L (k + 1)) from (congrArg fwC (fwF_f1 c2)).symm)))
        · refine lv_aload_n hx hb dX7_fewest_21 rfl (lv_at hl 0 rfl) ?_
          refine va_get (D := D) (ci := 7) (v := .ref nw) (C := RX7) (T := TX7) (N := 23) hx hb hts nX7_fewest_1 hown hK.1 hP 0 rfl rfl 13 (by decide) (hts _ mX7_fewest_2) (fun _ h9 => h9) rfl dX7_fewest_22 ?_
          refine lv_iload hx hb dX7_fewest_25 (lv_at hl 4 rfl) ?_
          refine q_rS (As := [.ref nw, .int (nI k)]) (rest := []) ⟨hx, hb, hml, hown, hts⟩ (c_X7_leftBy l D cy nw f w hm hv k (by omega)) (va_cwS 2 hts gX7_fewest_X7_leftBy rfl rfl rfl (by decide +kernel) ⟨Nat.le_of_ble_eq_true rfl, Nat.le_of_ble_eq_true rfl⟩) hP hK [1] rfl rfl hl.1 rfl (Nat.le_of_ble_eq_true rfl) dX7_fewest_27 ⟨Nat.zero_le _, Nat.zero_le _⟩ (fun r3 hr3 => ?_)
          obtain rfl := hr3
          refine lv_iload_n hx hb dX7_fewest_30 rfl (lv_at hl 2 rfl) ?_
          have hlb := ctLb_lt hv0 k (w 4)
          refine q_icmp_ne (tgt := 38) hx hb dX7_fewest_31 (by decide) (by omega) (by omega) (fun c4 => ?_) (fun c4 => ?_)
          · refine lv_iconst (v := nI 0) hx hb dX7_fewest_38 (by decide) ?_
            refine lv_istore (lv' := [(5, .int (nI 0)), (0, .ref m0), (1, .int (nI B1)), (2, .int (nI L)), (3, .int (fwC (fwF w B1 L k))), (4, .int (nI k))]) hx hb dX7_fewest_39 hl (by decide) rfl (fun ls hl => ?_)
            refine lv_iload hx hb dX7_fewest_41 (lv_at hl 0 rfl) ?_
            refine lv_if_eq (tgt := 69) hx hb dX7_fewest_43 (by decide) (fun _ => ?_) (fun c9 => absurd (by decide) c9)
            refine lv_iload_n hx hb dX7_fewest_69 rfl (lv_at hl 4 rfl) ?_
            refine lv_istore_n (lv' := [(3, .int (fwC (fwF w B1 L k))), (5, .int (nI 0)), (0, .ref m0), (1, .int (nI B1)), (2, .int (nI L)), (4, .int (nI k))]) hx hb dX7_fewest_70 rfl hl (by decide) rfl (fun ls hl => ?_)
            refine lv_iinc (v := nI (k + 1)) (lv' := [(4, .int (nI (k + 1))), (3, .int (fwC (fwF w B1 L k))), (5, .int (nI 0)), (0, .ref m0), (1, .int (nI B1)), (2, .int (nI L))]) hx hb dX7_fewest_71 hl (k := 5) rfl (q_inc k 1) (by decide) rfl (fun ls hl => ?_)
            refine lv_goto (tgt := 6) hx hb dX7_fewest_74 (by decide) ?_
            exact ih6 (k + 1) (by omega) (by omega) ls (q_lset (lv_sub (l' := [(0, .ref m0), (1, .int (nI B1)), (2, .int (nI L)), (3, .int (fwC (fwF w B1 L k))), (4, .int (nI (k + 1)))]) hl [3, 4, 5, 1, 0] rfl) (q_c1 (f := fun z3 => ([(0, .ref m0), (1, .int (nI B1)), (2, .int (nI L)), (3, .int (z3)), (4, .int (nI (k + 1)))] : List (Nat × Value))) (show (fwC (fwF w B1 L k) : Int32) = fwC (fwF w B1 L (k + 1)) from (congrArg fwC (fwF_f3 c4)).symm)))
          · refine lv_iconst (v := nI 1) hx hb dX7_fewest_34 (by decide) ?_
            refine lv_goto (tgt := 39) hx hb dX7_fewest_35 (by decide) ?_
            refine lv_istore (lv' := [(5, .int (nI 1)), (0, .ref m0), (1, .int (nI B1)), (2, .int (nI L)), (3, .int (fwC (fwF w B1 L k))), (4, .int (nI k))]) hx hb dX7_fewest_39 hl (by decide) rfl (fun ls hl => ?_)
            refine lv_iload hx hb dX7_fewest_41 (lv_at hl 0 rfl) ?_
            refine lv_if_eq (tgt := 69) hx hb dX7_fewest_43 (by decide) (fun c9 => absurd c9 (by decide)) (fun _ => ?_)
            refine lv_iload_n hx hb dX7_fewest_46 rfl (lv_at hl 4 rfl) ?_
            refine lv_ldc (v := (-1000000)) hx hb hown (hts _ mX7_fewest_0) dX7_fewest_47 ?_
            refine lv_icmp_eq (tgt := 64) hx hb dX7_fewest_49 (by decide) (fun c5 => ?_) (fun c5 => ?_)
            · refine lv_iload hx hb dX7_fewest_64 (lv_at hl 5 rfl) ?_
              refine lv_goto (tgt := 70) hx hb dX7_fewest_66 (by decide) ?_
              refine lv_istore_n (lv' := [(3, .int (nI k)), (5, .int (nI 1)), (0, .ref m0), (1, .int (nI B1)), (2, .int (nI L)), (4, .int (nI k))]) hx hb dX7_fewest_70 rfl hl (by decide) rfl (fun ls hl => ?_)
              refine lv_iinc (v := nI (k + 1)) (lv' := [(4, .int (nI (k + 1))), (3, .int (nI k)), (5, .int (nI 1)), (0, .ref m0), (1, .int (nI B1)), (2, .int (nI L))]) hx hb dX7_fewest_71 hl (k := 5) rfl (q_inc k 1) (by decide) rfl (fun ls hl => ?_)
              refine lv_goto (tgt := 6) hx hb dX7_fewest_74 (by decide) ?_
              exact ih6 (k + 1) (by omega) (by omega) ls (q_lset (lv_sub (l' := [(0, .ref m0), (1, .int (nI B1)), (2, .int (nI L)), (3, .int (nI k)), (4, .int (nI (k + 1)))]) hl [3, 4, 5, 1, 0] rfl) (q_c1 (f := fun z3 => ([(0, .ref m0), (1, .int (nI B1)), (2, .int (nI L)), (3, .int (z3)), (4, .int (nI (k + 1)))] : List (Nat × Value))) (show (nI k : Int32) = fwC (fwF w B1 L (k + 1)) from (fwC_n (by omega : k ≠ 64)).symm.trans (congrArg fwC (fwF_t c2 (fwC_1 c5) c4)).symm)))
            · have hb64 := fwC_ne c5
              refine lv_iload hx hb dX7_fewest_52 (lv_at hl 5 rfl) ?_
              refine q_rS (As := [.int (nI k)]) (rest := []) ⟨hx, hb, hml, hown, hts⟩ (c_X7_ones l D cy k (by omega)) (va_cwS 1 hts gX7_fewest_X7_ones rfl rfl rfl (by decide +kernel) ⟨Nat.le_of_ble_eq_true rfl, Nat.le_of_ble_eq_true rfl⟩) hP hK [] rfl rfl hl.1 rfl (Nat.le_of_ble_eq_true rfl) dX7_fewest_54 ⟨Nat.zero_le _, Nat.zero_le _⟩ (fun r6 hr6 => ?_)
              obtain rfl := hr6
              refine lv_iload_n hx hb dX7_fewest_57 rfl (lv_at hl 4 rfl) ?_
              refine q_top (y := nI (fwF w B1 L k)) (fwC_n hb64) ?_
              refine q_rS (As := [.int (nI (fwF w B1 L k))]) (rest := [.int (nI (bc k))]) ⟨hx, hb, hml, hown, hts⟩ (c_X7_ones l D cy (fwF w B1 L k) (by omega)) (va_cwS 1 hts gX7_fewest_X7_ones rfl rfl rfl (by decide +kernel) ⟨Nat.le_of_ble_eq_true rfl, Nat.le_of_ble_eq_true rfl⟩) hP hK [] rfl rfl hl.1 rfl (Nat.le_of_ble_eq_true rfl) dX7_fewest_58 ⟨Nat.zero_le _, Nat.zero_le _⟩ (fun r7 hr7 => ?_)
              obtain rfl := hr7
              have hbc1 := bc_lt k (by omega)
              have hbc2 := bc_lt (fwF w B1 L k) (by omega)
              refine q_icmp_ge (tgt := 69) hx hb dX7_fewest_61 (by decide) (by omega) (by omega) (fun c8 => ?_) (fun c8 => ?_)
              · refine lv_iload_n hx hb dX7_fewest_69 rfl (lv_at hl 4 rfl) ?_
                refine lv_istore_n (lv' := [(3, .int (fwC (fwF w B1 L k))), (5, .int (nI 1)), (0, .ref m0), (1, .int (nI B1)), (2, .int (nI L)), (4, .int (nI k))]) hx hb dX7_fewest_70 rfl hl (by decide) rfl (fun ls hl => ?_)
                refine lv_iinc (v := nI (k + 1)) (lv' := [(4, .int (nI (k + 1))), (3, .int (fwC (fwF w B1 L k))), (5, .int (nI 1)), (0, .ref m0), (1, .int (nI B1)), (2, .int (nI L))]) hx hb dX7_fewest_71 hl (k := 5) rfl (q_inc k 1) (by decide) rfl (fun ls hl => ?_)
                refine lv_goto (tgt := 6) hx hb dX7_fewest_74 (by decide) ?_
                exact ih6 (k + 1) (by omega) (by omega) ls (q_lset (lv_sub (l' := [(0, .ref m0), (1, .int (nI B1)), (2, .int (nI L)), (3, .int (fwC (fwF w B1 L k))), (4, .int (nI (k + 1)))]) hl [3, 4, 5, 1, 0] rfl) (q_c1 (f := fun z3 => ([(0, .ref m0), (1, .int (nI B1)), (2, .int (nI L)), (3, .int (z3)), (4, .int (nI (k + 1)))] : List (Nat × Value))) (show (fwC (fwF w B1 L k) : Int32) = fwC (fwF w B1 L (k + 1)) from (congrArg fwC (fwF_f2 (fwC_2 hb64 c8))).symm)))
              · refine lv_iload hx hb dX7_fewest_64 (lv_at hl 5 rfl) ?_
                refine lv_goto (tgt := 70) hx hb dX7_fewest_66 (by decide) ?_
                refine lv_istore_n (lv' := [(3, .int (nI k)), (5, .int (nI 1)), (0, .ref m0), (1, .int (nI B1)), (2, .int (nI L)), (4, .int (nI k))]) hx hb dX7_fewest_70 rfl hl (by decide) rfl (fun ls hl => ?_)
                refine lv_iinc (v := nI (k + 1)) (lv' := [(4, .int (nI (k + 1))), (3, .int (nI k)), (5, .int (nI 1)), (0, .ref m0), (1, .int (nI B1)), (2, .int (nI L))]) hx hb dX7_fewest_71 hl (k := 5) rfl (q_inc k 1) (by decide) rfl (fun ls hl => ?_)
                refine lv_goto (tgt := 6) hx hb dX7_fewest_74 (by decide) ?_
                exact ih6 (k + 1) (by omega) (by omega) ls (q_lset (lv_sub (l' := [(0, .ref m0), (1, .int (nI B1)), (2, .int (nI L)), (3, .int (nI k)), (4, .int (nI (k + 1)))]) hl [3, 4, 5, 1, 0] rfl) (q_c1 (f := fun z3 => ([(0, .ref m0), (1, .int (nI B1)), (2, .int (nI L)), (3, .int (z3)), (4, .int (nI (k + 1)))] : List (Nat × Value))) (show (nI k : Int32) = fwC (fwF w B1 L (k + 1)) from (fwC_n (by omega : k ≠ 64)).symm.trans (congrArg fwC (fwF_t c2 (Or.inr c8) c4)).symm)))
  exact L6_7 ((B1 + 1) + 1) 0 (by omega) (by omega) ls (q_lset (lv_sub (l' := [(0, .ref m0), (1, .int (nI B1)), (2, .int (nI L)), (3, .int ((-1000000))), (4, .int (nI 0))]) hl [2, 3, 4, 1, 0] rfl) (q_c1 (f := fun z3 => ([(0, .ref m0), (1, .int (nI B1)), (2, .int (nI L)), (3, .int (z3)), (4, .int (nI 0))] : List (Nat × Value))) (show ((-1000000) : Int32) = fwC (fwF w B1 L 0) from rfl)))
theorem nX7_enough_0 : ∀ w ∈ wsX70, w ∈ wsX7_enough := by decide +kernel
theorem mX7_enough_1 : Cond.fieldLink RX7 25 "ClueLeaveModel" "now" "[I" ∈ wsX7_enough := by decide +kernel
theorem mX7_enough_2 : Cond.constant RX7 64 (-1000001) ∈ wsX7_enough := by decide +kernel
theorem mX7_enough_3 : Cond.constant RX7 163 (-1000002) ∈ wsX7_enough := by decide +kernel
set_option maxHeartbeats 4000000 in
set_option maxRecDepth 100000 in
theorem c_X7_enough (l : Launch) (D : va_G) (cy : Nat → ClassId) (m0 ml mm mit ms mt nw dr tr pa ig kx be tc : Nat) (st fk fp av sv ov vv : Int32) (tn ac td : Nat) (f : Nat → Int32) (w : Nat → Nat) (hm : mwIs w f) (hv : ctOk w) (d y : Int32) : q_Rd l yX7_enough wsX7_enough 6 D cy [(m0, .inr (7, [.ref ml, .ref mm, .ref mit, .ref ms, .int (st), .ref mt, .int (nI tn), .int (fk), .int (fp), .int (av), .int (sv), .int (ov), .int (vv), .ref nw, .ref dr, .ref tr, .ref pa, .int (nI ac), .ref ig, .ref kx, .ref be, .ref tc, .int (nI td)])), (nw, .inl (cy 0, 29, .inl f))] [.ref m0, .int (d), .int (y)] (fun r => r = oEnough w d y) := by
  refine q_rd_of (cc := cX7_enough) (maxL := 4) (ret := (some .int)) (by decide) rfl (Nat.le_of_ble_eq_true rfl) ?_
  intro pg en s mi args below meth cd hC hP hK ls hl
  obtain ⟨hx, hb, hr, hml, hown, hts, hlocks⟩ := hC
  have hl : lv_has ls 4 [(0, .ref m0), (1, .int (d)), (2, .int (y))] := hl
  obtain ⟨hv0, hv1, hv2, hv3, hv4, hvc⟩ := id hv
  refine lv_aload_n hx hb dX7_enough_0 rfl (lv_at hl 0 rfl) ?_
  refine q_rV (As := []) (rest := []) ⟨hx, hb, hml, hown, hts⟩ (c_X7_isCity l D cy m0 ml mm mit ms mt nw dr tr pa ig kx be tc st fk fp av sv ov vv tn ac td f w hm hv) (cwV 0 hts gX7_enough_X7_isCity rfl rfl rfl (by decide +kernel) ⟨Nat.le_of_ble_eq_true rfl, Nat.le_of_ble_eq_true rfl⟩) hP hK [0, 1] rfl 0 rfl rfl rfl rfl hl.1 rfl (Nat.le_of_ble_eq_true rfl) dX7_enough_1 ⟨Nat.zero_le _, Nat.zero_le _⟩ (fun r1 hr1 => ?_)
  rcases hr1 with ⟨rfl, b2⟩ | ⟨rfl, b2⟩
  · have _ := b2
    refine lv_if_ne (tgt := 10) hx hb dX7_enough_4 (by decide) (fun _ => ?_) (fun c9 => absurd c9 (by decide))
    refine lv_iload_n hx hb dX7_enough_10 rfl (lv_at hl 1 rfl) ?_
    refine q_rS (As := [.int (d)]) (rest := []) ⟨hx, hb, hml, hown, hts⟩ (c_X7_isFar l D cy d) (va_cwS 1 hts gX7_enough_X7_isFar rfl rfl rfl (by decide +kernel) ⟨Nat.le_of_ble_eq_true rfl, Nat.le_of_ble_eq_true rfl⟩) hP hK [] rfl rfl hl.1 rfl (Nat.le_of_ble_eq_true rfl) dX7_enough_11 ⟨Nat.zero_le _, Nat.zero_le _⟩ (fun r3 hr3 => ?_)
    rcases hr3 with ⟨rfl, b4⟩ | ⟨rfl, b4⟩
    · have _ := b4
      refine lv_if_eq (tgt := 26) hx hb dX7_enough_14 (by decide) (fun c9 => absurd c9 (by decide)) (fun _ => ?_)
      obtain ⟨m, -, hx_m, rfl⟩ := q_rng b4 (by decide) (by decide)
      refine lv_iload_n hx hb dX7_enough_17 rfl (lv_at hl 2 rfl) ?_
      refine lv_iconst (v := nI 0) hx hb dX7_enough_18 (by decide) ?_
      refine lv_iconst (v := nI 1) hx hb dX7_enough_19 (by decide) ?_
      refine q_rS (As := [.int (y), .int (nI 0), .int (nI 1)]) (rest := []) ⟨hx, hb, hml, hown, hts⟩ (c_X7_in l D cy y (nI 0) (nI 1)) (va_cwS 3 hts gX7_enough_X7_in rfl rfl rfl (by decide +kernel) ⟨Nat.le_of_ble_eq_true rfl, Nat.le_of_ble_eq_true rfl⟩) hP hK [] rfl rfl hl.1 rfl (Nat.le_of_ble_eq_true rfl) dX7_enough_20 ⟨Nat.zero_le _, Nat.zero_le _⟩ (fun r5 hr5 => ?_)
      rcases hr5 with ⟨rfl, b6⟩ | ⟨rfl, b6⟩
      · have _ := b6
        refine lv_if_ne (tgt := 29) hx hb dX7_enough_23 (by decide) (fun _ => ?_) (fun c9 => absurd c9 (by decide))
        obtain ⟨k, -, hx_k, rfl⟩ := q_rng b6 (by decide) (by decide)
        have hwl := ctWks_lt w (w 2 + m) (w 4) hv4
        refine lv_aload_n hx hb dX7_enough_29 rfl (lv_at hl 0 rfl) ?_
        refine lv_aload_n hx hb dX7_enough_30 rfl (lv_at hl 0 rfl) ?_
        refine va_get (D := D) (ci := 7) (v := .ref nw) (C := RX7) (T := TX7) (N := 23) hx hb hts nX7_enough_0 hown hK.1 hP 0 rfl rfl 13 (by decide) (hts _ mX7_enough_1) (fun _ h9 => h9) rfl dX7_enough_31 ?_
        refine lv_aload_n hx hb dX7_enough_34 rfl (lv_at hl 0 rfl) ?_
        refine va_get (D := D) (ci := 7) (v := .ref nw) (C := RX7) (T := TX7) (N := 23) hx hb hts nX7_enough_0 hown hK.1 hP 0 rfl rfl 13 (by decide) (hts _ mX7_enough_1) (fun _ h9 => h9) rfl dX7_enough_35 ?_
        refine lv_iconst (v := nI 2) hx hb dX7_enough_38 (by decide) ?_
        refine q_iald (j := 2) (v := nI (w 2)) hx hb hK hP 1 rfl (by omega) (by decide) (hm _ (by omega)) dX7_enough_39 ?_
        refine lv_iload_n hx hb dX7_enough_40 rfl (lv_at hl 1 rfl) ?_
        refine lv_iadd hx hb dX7_enough_41 ?_
        refine q_top (y := nI ((w 2) + m)) (nI_add _ _) ?_
        refine q_rS (As := [.ref nw, .int (nI ((w 2) + m))]) (rest := [.ref m0]) ⟨hx, hb, hml, hown, hts⟩ (c_X7_workers l D cy nw f w hm hv ((w 2) + m) (by omega)) (va_cwS 2 hts gX7_enough_X7_workers rfl rfl rfl (by decide +kernel) ⟨Nat.le_of_ble_eq_true rfl, Nat.le_of_ble_eq_true rfl⟩) hP hK [1] rfl rfl hl.1 rfl (Nat.le_of_ble_eq_true rfl) dX7_enough_42 ⟨Nat.zero_le _, Nat.zero_le _⟩ (fun r7 hr7 => ?_)
        obtain rfl := hr7
        refine lv_aload_n hx hb dX7_enough_45 rfl (lv_at hl 0 rfl) ?_
        refine va_get (D := D) (ci := 7) (v := .ref nw) (C := RX7) (T := TX7) (N := 23) hx hb hts nX7_enough_0 hown hK.1 hP 0 rfl rfl 13 (by decide) (hts _ mX7_enough_1) (fun _ h9 => h9) rfl dX7_enough_46 ?_
        refine lv_aload_n hx hb dX7_enough_49 rfl (lv_at hl 0 rfl) ?_
        refine va_get (D := D) (ci := 7) (v := .ref nw) (C := RX7) (T := TX7) (N := 23) hx hb hts nX7_enough_0 hown hK.1 hP 0 rfl rfl 13 (by decide) (hts _ mX7_enough_1) (fun _ h9 => h9) rfl dX7_enough_50 ?_
        refine lv_iconst (v := nI 2) hx hb dX7_enough_53 (by decide) ?_
        refine q_iald (j := 2) (v := nI (w 2)) hx hb hK hP 1 rfl (by omega) (by decide) (hm _ (by omega)) dX7_enough_54 ?_
        refine lv_iload_n hx hb dX7_enough_55 rfl (lv_at hl 1 rfl) ?_
        refine lv_iadd hx hb dX7_enough_56 ?_
        refine q_top (y := nI ((w 2) + m)) (nI_add _ _) ?_
        refine q_rS (As := [.ref nw, .int (nI ((w 2) + m))]) (rest := [.int (nI (ctWks w ((w 2) + m) (w 4))), .ref m0]) ⟨hx, hb, hml, hown, hts⟩ (c_X7_leftOn l D cy nw f w hm hv ((w 2) + m) (by omega)) (va_cwS 2 hts gX7_enough_X7_leftOn rfl rfl rfl (by decide +kernel) ⟨Nat.le_of_ble_eq_true rfl, Nat.le_of_ble_eq_true rfl⟩) hP hK [1] rfl rfl hl.1 rfl (Nat.le_of_ble_eq_true rfl) dX7_enough_57 ⟨Nat.zero_le _, Nat.zero_le _⟩ (fun r8 hr8 => ?_)
        obtain rfl := hr8
        have hll := ctLeft_lt hv0 (w 2 + m)
        refine q_rV (As := [.int (nI (ctWks w ((w 2) + m) (w 4))), .int (nI (ctLeft w ((w 2) + m)))]) (rest := []) ⟨hx, hb, hml, hown, hts⟩ (c_X7_fewest l D cy m0 ml mm mit ms mt nw dr tr pa ig kx be tc st fk fp av sv ov vv tn ac td f w hm hv (ctWks w ((w 2) + m) (w 4)) (ctLeft w ((w 2) + m)) (by omega) (by omega)) (cwV 2 hts gX7_enough_X7_fewest rfl rfl rfl (by decide +kernel) ⟨Nat.le_of_ble_eq_true rfl, Nat.le_of_ble_eq_true rfl⟩) hP hK [0, 1] rfl 0 rfl rfl rfl rfl hl.1 rfl (Nat.le_of_ble_eq_true rfl) dX7_enough_60 ⟨Nat.zero_le _, Nat.zero_le _⟩ (fun r9 hr9 => ?_)
        obtain rfl := hr9
        have hne := fwF_has w (ctWks w (w 2 + m) (w 4)) (by omega)
        have hfl := fwF_l64 w (ctWks w (w 2 + m) (w 4)) (ctLb w (ctWks w (w 2 + m) (w 4)) (w 4)) ((ctWks w (w 2 + m) (w 4)) + 1) (by omega)
        refine q_top (y := nI (fwF w (ctWks w (w 2 + m) (w 4)) (ctLb w (ctWks w (w 2 + m) (w 4)) (w 4)) ((ctWks w (w 2 + m) (w 4)) + 1))) (fwC_n hne) ?_
        refine lv_istore_n (lv' := [(3, .int (nI (fwF w (ctWks w (w 2 + m) (w 4)) (ctLb w (ctWks w (w 2 + m) (w 4)) (w 4)) ((ctWks w (w 2 + m) (w 4)) + 1)))), (0, .ref m0), (1, .int (nI m)), (2, .int (nI k))]) hx hb dX7_enough_63 rfl hl (by decide) rfl (fun ls hl => ?_)
        refine lv_iload_n hx hb dX7_enough_64 rfl (lv_at hl 3 rfl) ?_
        refine lv_iconst (v := nI 1) hx hb dX7_enough_65 (by decide) ?_
        refine q_icmp_ne (tgt := 73) hx hb dX7_enough_66 (by decide) (by omega) (by decide) (fun c10 => ?_) (fun c10 => ?_)
        · refine lv_iload_n hx hb dX7_enough_73 rfl (lv_at hl 0 rfl) ?_
          refine q_rS (As := [.int (nI (fwF w (ctWks w (w 2 + m) (w 4)) (ctLb w (ctWks w (w 2 + m) (w 4)) (w 4)) ((ctWks w (w 2 + m) (w 4)) + 1)))]) (rest := []) ⟨hx, hb, hml, hown, hts⟩ (c_X7_ones l D cy (fwF w (ctWks w (w 2 + m) (w 4)) (ctLb w (ctWks w (w 2 + m) (w 4)) (w 4)) ((ctWks w (w 2 + m) (w 4)) + 1)) (by omega)) (va_cwS 1 hts gX7_enough_X7_ones rfl rfl rfl (by decide +kernel) ⟨Nat.le_of_ble_eq_true rfl, Nat.le_of_ble_eq_true rfl⟩) hP hK [] rfl rfl hl.1 rfl (Nat.le_of_ble_eq_true rfl) dX7_enough_74 ⟨Nat.zero_le _, Nat.zero_le _⟩ (fun r11 hr11 => ?_)
          obtain rfl := hr11
          exact q_iret (v := nI (bc (fwF w (ctWks w (w 2 + m) (w 4)) (ctLb w (ctWks w (w 2 + m) (w 4)) (w 4)) ((ctWks w (w 2 + m) (w 4)) + 1)))) hx hb hr hlocks dX7_enough_77 ((by simp only [oEnough, q_cl (by omega : m < 2147483648), q_cl (by omega : k < 2147483648), if_pos b2, if_pos b4, if_pos b6, tlS_1 hne (by omega : k = 0)]))
        · refine lv_iload_n hx hb dX7_enough_69 rfl (lv_at hl 0 rfl) ?_
          refine lv_goto (tgt := 77) hx hb dX7_enough_70 (by decide) ?_
          exact q_iret (v := nI (fwF w (ctWks w (w 2 + m) (w 4)) (ctLb w (ctWks w (w 2 + m) (w 4)) (w 4)) ((ctWks w (w 2 + m) (w 4)) + 1))) hx hb hr hlocks dX7_enough_77 ((by simp only [oEnough, q_cl (by omega : m < 2147483648), q_cl (by omega : k < 2147483648), if_pos b2, if_pos b4, if_pos b6, tlS_2 hne (by omega : ¬ k = 0)]))
      · have _ := b6
        refine lv_if_ne (tgt := 29) hx hb dX7_enough_23 (by decide) (fun c9 => absurd (by decide) c9) (fun _ => ?_)
        refine lv_ldc (v := (-1000001)) hx hb hown (hts _ mX7_enough_2) dX7_enough_26 ?_
        exact q_iret (v := (-1000001)) hx hb hr hlocks dX7_enough_28 ((by simp only [oEnough, if_pos b2, if_pos b4, if_neg b6]))
    · have _ := b4
      refine lv_if_eq (tgt := 26) hx hb dX7_enough_14 (by decide) (fun _ => ?_) (fun c9 => absurd (by decide) c9)
      refine lv_ldc (v := (-1000001)) hx hb hown (hts _ mX7_enough_2) dX7_enough_26 ?_
      exact q_iret (v := (-1000001)) hx hb hr hlocks dX7_enough_28 ((by simp only [oEnough, if_pos b2, if_neg b4]))
  · have _ := b2
    refine lv_if_ne (tgt := 10) hx hb dX7_enough_4 (by decide) (fun c9 => absurd (by decide) c9) (fun _ => ?_)
    refine lv_ldc (v := (-1000002)) hx hb hown (hts _ mX7_enough_3) dX7_enough_7 ?_
    exact q_iret (v := (-1000002)) hx hb hr hlocks dX7_enough_9 ((by simp only [oEnough, if_neg b2]))
theorem nX7_clash_0 : ∀ w ∈ wsX70, w ∈ wsX7_clash := by decide +kernel
theorem mX7_clash_1 : Cond.fieldLink RX7 25 "ClueLeaveModel" "now" "[I" ∈ wsX7_clash := by decide +kernel
theorem mX7_clash_2 : Cond.constant RX7 50 (-1000000) ∈ wsX7_clash := by decide +kernel
theorem mX7_clash_3 : Cond.constant RX7 64 (-1000001) ∈ wsX7_clash := by decide +kernel
theorem mX7_clash_4 : Cond.constant RX7 163 (-1000002) ∈ wsX7_clash := by decide +kernel
set_option maxHeartbeats 4000000 in
set_option maxRecDepth 100000 in
theorem c_X7_clash (l : Launch) (D : va_G) (cy : Nat → ClassId) (m0 ml mm mit ms mt nw dr tr pa ig kx be tc : Nat) (st fk fp av sv ov vv : Int32) (tn ac td : Nat) (f : Nat → Int32) (w : Nat → Nat) (hm : mwIs w f) (hv : ctOk w) (d y : Int32) : q_Rd l yX7_clash wsX7_clash 6 D cy [(m0, .inr (7, [.ref ml, .ref mm, .ref mit, .ref ms, .int (st), .ref mt, .int (nI tn), .int (fk), .int (fp), .int (av), .int (sv), .int (ov), .int (vv), .ref nw, .ref dr, .ref tr, .ref pa, .int (nI ac), .ref ig, .ref kx, .ref be, .ref tc, .int (nI td)])), (nw, .inl (cy 0, 29, .inl f))] [.ref m0, .int (d), .int (y)] (fun r => r = oClash w d y) := by
  refine q_rd_of (cc := cX7_clash) (maxL := 4) (ret := (some .int)) (by decide) rfl (Nat.le_of_ble_eq_true rfl) ?_
  intro pg en s mi args below meth cd hC hP hK ls hl
  obtain ⟨hx, hb, hr, hml, hown, hts, hlocks⟩ := hC
  have hl : lv_has ls 4 [(0, .ref m0), (1, .int (d)), (2, .int (y))] := hl
  obtain ⟨hv0, hv1, hv2, hv3, hv4, hvc⟩ := id hv
  refine lv_aload_n hx hb dX7_clash_0 rfl (lv_at hl 0 rfl) ?_
  refine q_rV (As := []) (rest := []) ⟨hx, hb, hml, hown, hts⟩ (c_X7_isCity l D cy m0 ml mm mit ms mt nw dr tr pa ig kx be tc st fk fp av sv ov vv tn ac td f w hm hv) (cwV 0 hts gX7_clash_X7_isCity rfl rfl rfl (by decide +kernel) ⟨Nat.le_of_ble_eq_true rfl, Nat.le_of_ble_eq_true rfl⟩) hP hK [0, 1] rfl 0 rfl rfl rfl rfl hl.1 rfl (Nat.le_of_ble_eq_true rfl) dX7_clash_1 ⟨Nat.zero_le _, Nat.zero_le _⟩ (fun r1 hr1 => ?_)
  rcases hr1 with ⟨rfl, b2⟩ | ⟨rfl, b2⟩
  · have _ := b2
    refine lv_if_ne (tgt := 10) hx hb dX7_clash_4 (by decide) (fun _ => ?_) (fun c9 => absurd c9 (by decide))
    refine lv_iload_n hx hb dX7_clash_10 rfl (lv_at hl 1 rfl) ?_
    refine q_rS (As := [.int (d)]) (rest := []) ⟨hx, hb, hml, hown, hts⟩ (c_X7_isFar l D cy d) (va_cwS 1 hts gX7_clash_X7_isFar rfl rfl rfl (by decide +kernel) ⟨Nat.le_of_ble_eq_true rfl, Nat.le_of_ble_eq_true rfl⟩) hP hK [] rfl rfl hl.1 rfl (Nat.le_of_ble_eq_true rfl) dX7_clash_11 ⟨Nat.zero_le _, Nat.zero_le _⟩ (fun r3 hr3 => ?_)
    rcases hr3 with ⟨rfl, b4⟩ | ⟨rfl, b4⟩
    · have _ := b4
      refine lv_if_eq (tgt := 26) hx hb dX7_clash_14 (by decide) (fun c9 => absurd c9 (by decide)) (fun _ => ?_)
      obtain ⟨m, -, hx_m, rfl⟩ := q_rng b4 (by decide) (by decide)
      refine lv_iload_n hx hb dX7_clash_17 rfl (lv_at hl 2 rfl) ?_
      refine lv_iconst (v := nI 0) hx hb dX7_clash_18 (by decide) ?_
      refine lv_iconst (v := nI 1) hx hb dX7_clash_19 (by decide) ?_
      refine q_rS (As := [.int (y), .int (nI 0), .int (nI 1)]) (rest := []) ⟨hx, hb, hml, hown, hts⟩ (c_X7_in l D cy y (nI 0) (nI 1)) (va_cwS 3 hts gX7_clash_X7_in rfl rfl rfl (by decide +kernel) ⟨Nat.le_of_ble_eq_true rfl, Nat.le_of_ble_eq_true rfl⟩) hP hK [] rfl rfl hl.1 rfl (Nat.le_of_ble_eq_true rfl) dX7_clash_20 ⟨Nat.zero_le _, Nat.zero_le _⟩ (fun r5 hr5 => ?_)
      rcases hr5 with ⟨rfl, b6⟩ | ⟨rfl, b6⟩
      · have _ := b6
        refine lv_if_ne (tgt := 29) hx hb dX7_clash_23 (by decide) (fun _ => ?_) (fun c9 => absurd c9 (by decide))
        obtain ⟨k, -, hx_k, rfl⟩ := q_rng b6 (by decide) (by decide)
        have hwl := ctWks_lt w (w 2 + m) (w 4) hv4
        refine lv_aload_n hx hb dX7_clash_29 rfl (lv_at hl 0 rfl) ?_
        refine lv_aload_n hx hb dX7_clash_30 rfl (lv_at hl 0 rfl) ?_
        refine va_get (D := D) (ci := 7) (v := .ref nw) (C := RX7) (T := TX7) (N := 23) hx hb hts nX7_clash_0 hown hK.1 hP 0 rfl rfl 13 (by decide) (hts _ mX7_clash_1) (fun _ h9 => h9) rfl dX7_clash_31 ?_
        refine lv_aload_n hx hb dX7_clash_34 rfl (lv_at hl 0 rfl) ?_
        refine va_get (D := D) (ci := 7) (v := .ref nw) (C := RX7) (T := TX7) (N := 23) hx hb hts nX7_clash_0 hown hK.1 hP 0 rfl rfl 13 (by decide) (hts _ mX7_clash_1) (fun _ h9 => h9) rfl dX7_clash_35 ?_
        refine lv_iconst (v := nI 2) hx hb dX7_clash_38 (by decide) ?_
        refine q_iald (j := 2) (v := nI (w 2)) hx hb hK hP 1 rfl (by omega) (by decide) (hm _ (by omega)) dX7_clash_39 ?_
        refine lv_iload_n hx hb dX7_clash_40 rfl (lv_at hl 1 rfl) ?_
        refine lv_iadd hx hb dX7_clash_41 ?_
        refine q_top (y := nI ((w 2) + m)) (nI_add _ _) ?_
        refine q_rS (As := [.ref nw, .int (nI ((w 2) + m))]) (rest := [.ref m0]) ⟨hx, hb, hml, hown, hts⟩ (c_X7_workers l D cy nw f w hm hv ((w 2) + m) (by omega)) (va_cwS 2 hts gX7_clash_X7_workers rfl rfl rfl (by decide +kernel) ⟨Nat.le_of_ble_eq_true rfl, Nat.le_of_ble_eq_true rfl⟩) hP hK [1] rfl rfl hl.1 rfl (Nat.le_of_ble_eq_true rfl) dX7_clash_42 ⟨Nat.zero_le _, Nat.zero_le _⟩ (fun r7 hr7 => ?_)
        obtain rfl := hr7
        refine lv_iconst (v := nI 0) hx hb dX7_clash_45 (by decide) ?_
        refine q_rV (As := [.int (nI (ctWks w ((w 2) + m) (w 4))), .int (nI 0)]) (rest := []) ⟨hx, hb, hml, hown, hts⟩ (c_X7_fewest l D cy m0 ml mm mit ms mt nw dr tr pa ig kx be tc st fk fp av sv ov vv tn ac td f w hm hv (ctWks w ((w 2) + m) (w 4)) 0 (by omega) (by omega)) (cwV 2 hts gX7_clash_X7_fewest rfl rfl rfl (by decide +kernel) ⟨Nat.le_of_ble_eq_true rfl, Nat.le_of_ble_eq_true rfl⟩) hP hK [0, 1] rfl 0 rfl rfl rfl rfl hl.1 rfl (Nat.le_of_ble_eq_true rfl) dX7_clash_46 ⟨Nat.zero_le _, Nat.zero_le _⟩ (fun r8 hr8 => ?_)
        obtain rfl := hr8
        have hfl := fwF_l64 w (ctWks w (w 2 + m) (w 4)) 0 ((ctWks w (w 2 + m) (w 4)) + 1) (by omega)
        refine lv_istore_n (lv' := [(3, .int (fwC (fwF w (ctWks w ((w 2) + m) (w 4)) 0 ((ctWks w ((w 2) + m) (w 4)) + 1)))), (0, .ref m0), (1, .int (nI m)), (2, .int (nI k))]) hx hb dX7_clash_49 rfl hl (by decide) rfl (fun ls hl => ?_)
        refine lv_iload_n hx hb dX7_clash_50 rfl (lv_at hl 0 rfl) ?_
        refine lv_ldc (v := (-1000000)) hx hb hown (hts _ mX7_clash_2) dX7_clash_51 ?_
        refine lv_icmp_eq (tgt := 61) hx hb dX7_clash_53 (by decide) (fun c9 => ?_) (fun c9 => ?_)
        · refine lv_iload_n hx hb dX7_clash_61 rfl (lv_at hl 0 rfl) ?_
          refine lv_goto (tgt := 69) hx hb dX7_clash_62 (by decide) ?_
          exact q_iret (v := fwC (fwF w (ctWks w ((w 2) + m) (w 4)) 0 ((ctWks w ((w 2) + m) (w 4)) + 1))) hx hb hr hlocks dX7_clash_69 ((by simp only [oClash, q_cl (by omega : m < 2147483648), q_cl (by omega : k < 2147483648), if_pos b2, if_pos b4, if_pos b6, if_pos c9, tlS_0 (fwC_64 c9 hfl)]; exact c9))
        · have hne := fwC_ne c9
          refine lv_iload_n hx hb dX7_clash_56 rfl (lv_at hl 3 rfl) ?_
          refine lv_iconst (v := nI 1) hx hb dX7_clash_57 (by decide) ?_
          refine q_icmp_ne (tgt := 65) hx hb dX7_clash_58 (by decide) (by omega) (by decide) (fun c10 => ?_) (fun c10 => ?_)
          · refine lv_iload_n hx hb dX7_clash_65 rfl (lv_at hl 0 rfl) ?_
            refine q_top (y := nI (fwF w (ctWks w (w 2 + m) (w 4)) 0 ((ctWks w (w 2 + m) (w 4)) + 1))) (fwC_n hne) ?_
            refine q_rS (As := [.int (nI (fwF w (ctWks w (w 2 + m) (w 4)) 0 ((ctWks w (w 2 + m) (w 4)) + 1)))]) (rest := []) ⟨hx, hb, hml, hown, hts⟩ (c_X7_ones l D cy (fwF w (ctWks w (w 2 + m) (w 4)) 0 ((ctWks w (w 2 + m) (w 4)) + 1)) (by omega)) (va_cwS 1 hts gX7_clash_X7_ones rfl rfl rfl (by decide +kernel) ⟨Nat.le_of_ble_eq_true rfl, Nat.le_of_ble_eq_true rfl⟩) hP hK [] rfl rfl hl.1 rfl (Nat.le_of_ble_eq_true rfl) dX7_clash_66 ⟨Nat.zero_le _, Nat.zero_le _⟩ (fun r11 hr11 => ?_)
            obtain rfl := hr11
            exact q_iret (v := nI (bc (fwF w (ctWks w (w 2 + m) (w 4)) 0 ((ctWks w (w 2 + m) (w 4)) + 1)))) hx hb hr hlocks dX7_clash_69 ((by simp only [oClash, q_cl (by omega : m < 2147483648), q_cl (by omega : k < 2147483648), if_pos b2, if_pos b4, if_pos b6, if_neg c9, tlS_1 hne (by omega : k = 0)]))
          · refine lv_iload_n hx hb dX7_clash_61 rfl (lv_at hl 0 rfl) ?_
            refine lv_goto (tgt := 69) hx hb dX7_clash_62 (by decide) ?_
            exact q_iret (v := fwC (fwF w (ctWks w ((w 2) + m) (w 4)) 0 ((ctWks w ((w 2) + m) (w 4)) + 1))) hx hb hr hlocks dX7_clash_69 ((by simp only [oClash, q_cl (by omega : m < 2147483648), q_cl (by omega : k < 2147483648), if_pos b2, if_pos b4, if_pos b6, if_neg c9, tlS_2 hne (by omega : ¬ k = 0)]; exact fwC_n hne))
      · have _ := b6
        refine lv_if_ne (tgt := 29) hx hb dX7_clash_23 (by decide) (fun c9 => absurd (by decide) c9) (fun _ => ?_)
        refine lv_ldc (v := (-1000001)) hx hb hown (hts _ mX7_clash_3) dX7_clash_26 ?_
        exact q_iret (v := (-1000001)) hx hb hr hlocks dX7_clash_28 ((by simp only [oClash, if_pos b2, if_pos b4, if_neg b6]))
    · have _ := b4
      refine lv_if_eq (tgt := 26) hx hb dX7_clash_14 (by decide) (fun _ => ?_) (fun c9 => absurd (by decide) c9)
      refine lv_ldc (v := (-1000001)) hx hb hown (hts _ mX7_clash_3) dX7_clash_26 ?_
      exact q_iret (v := (-1000001)) hx hb hr hlocks dX7_clash_28 ((by simp only [oClash, if_pos b2, if_neg b4]))
  · have _ := b2
    refine lv_if_ne (tgt := 10) hx hb dX7_clash_4 (by decide) (fun c9 => absurd (by decide) c9) (fun _ => ?_)
    refine lv_ldc (v := (-1000002)) hx hb hown (hts _ mX7_clash_4) dX7_clash_7 ?_
    exact q_iret (v := (-1000002)) hx hb hr hlocks dX7_clash_9 ((by simp only [oClash, if_neg b2]))
theorem mX7_drawn_0 : Cond.constant RX7 197 (999999) ∈ wsX7_drawn := by decide +kernel
theorem mX7_drawn_1 : Cond.constantLong RX7 198 (16807) ∈ wsX7_drawn := by decide +kernel
theorem mX7_drawn_2 : Cond.constantLong RX7 200 (2147483647) ∈ wsX7_drawn := by decide +kernel
theorem nX7_drawn_3 : ∀ w ∈ wsX70, w ∈ wsX7_drawn := by decide +kernel
theorem mX7_drawn_4 : Cond.fieldLink RX7 25 "ClueLeaveModel" "now" "[I" ∈ wsX7_drawn := by decide +kernel
theorem mX7_drawn_5 : Cond.constant RX7 50 (-1000000) ∈ wsX7_drawn := by decide +kernel
theorem mX7_drawn_6 : Cond.constant RX7 64 (-1000001) ∈ wsX7_drawn := by decide +kernel
theorem mX7_drawn_7 : Cond.constant RX7 163 (-1000002) ∈ wsX7_drawn := by decide +kernel
set_option maxHeartbeats 4000000 in
set_option maxRecDepth 100000 in
theorem c_X7_drawn (l : Launch) (D : va_G) (cy : Nat → ClassId) (m0 ml mm mit ms mt nw dr tr pa ig kx be tc : Nat) (st fk fp av sv ov vv : Int32) (tn ac td : Nat) (f : Nat → Int32) (w : Nat → Nat) (hm : mwIs w f) (hv : ctOk w) (n sd y : Int32) : q_Rd l yX7_drawn wsX7_drawn 5 D cy [(m0, .inr (7, [.ref ml, .ref mm, .ref mit, .ref ms, .int (st), .ref mt, .int (nI tn), .int (fk), .int (fp), .int (av), .int (sv), .int (ov), .int (vv), .ref nw, .ref dr, .ref tr, .ref pa, .int (nI ac), .ref ig, .ref kx, .ref be, .ref tc, .int (nI td)])), (nw, .inl (cy 0, 29, .inl f))] [.ref m0, .int (n), .int (sd), .int (y)] (fun r => r = oDrawn w n sd y) := by
  refine q_rd_of (cc := cX7_drawn) (maxL := 10) (ret := (some .int)) (by decide) rfl (Nat.le_of_ble_eq_true rfl) ?_
  intro pg en s mi args below meth cd hC hP hK ls hl
  obtain ⟨hx, hb, hr, hml, hown, hts, hlocks⟩ := hC
  have hl : lv_has ls 10 [(0, .ref m0), (1, .int (n)), (2, .int (sd)), (3, .int (y))] := hl
  obtain ⟨hv0, hv1, hv2, hv3, hv4, hvc⟩ := id hv
  refine lv_aload_n hx hb dX7_drawn_0 rfl (lv_at hl 0 rfl) ?_
  refine q_rV (As := []) (rest := []) ⟨hx, hb, hml, hown, hts⟩ (c_X7_isCity l D cy m0 ml mm mit ms mt nw dr tr pa ig kx be tc st fk fp av sv ov vv tn ac td f w hm hv) (cwV 0 hts gX7_drawn_X7_isCity rfl rfl rfl (by decide +kernel) ⟨Nat.le_of_ble_eq_true rfl, Nat.le_of_ble_eq_true rfl⟩) hP hK [0, 1] rfl 0 rfl rfl rfl rfl hl.1 rfl (Nat.le_of_ble_eq_true rfl) dX7_drawn_1 ⟨Nat.zero_le _, Nat.zero_le _⟩ (fun r1 hr1 => ?_)
  rcases hr1 with ⟨rfl, b2⟩ | ⟨rfl, b2⟩
  · have _ := b2
    refine lv_if_ne (tgt := 10) hx hb dX7_drawn_4 (by decide) (fun _ => ?_) (fun c9 => absurd c9 (by decide))
    refine lv_iload_n hx hb dX7_drawn_10 rfl (lv_at hl 1 rfl) ?_
    refine lv_iconst (v := nI 0) hx hb dX7_drawn_11 (by decide) ?_
    refine lv_bipush (v := nI 60) hx hb dX7_drawn_12 (by decide) ?_
    refine q_rS (As := [.int (n), .int (nI 0), .int (nI 60)]) (rest := []) ⟨hx, hb, hml, hown, hts⟩ (c_X7_in l D cy n (nI 0) (nI 60)) (va_cwS 3 hts gX7_drawn_X7_in rfl rfl rfl (by decide +kernel) ⟨Nat.le_of_ble_eq_true rfl, Nat.le_of_ble_eq_true rfl⟩) hP hK [] rfl rfl hl.1 rfl (Nat.le_of_ble_eq_true rfl) dX7_drawn_14 ⟨Nat.zero_le _, Nat.zero_le _⟩ (fun r3 hr3 => ?_)
    rcases hr3 with ⟨rfl, b4⟩ | ⟨rfl, b4⟩
    · have _ := b4
      refine lv_if_eq (tgt := 39) hx hb dX7_drawn_17 (by decide) (fun c9 => absurd c9 (by decide)) (fun _ => ?_)
      obtain ⟨n1, -, hx_n1, rfl⟩ := q_rng b4 (by decide) (by decide)
      refine lv_iload_n hx hb dX7_drawn_20 rfl (lv_at hl 2 rfl) ?_
      refine lv_iconst (v := nI 1) hx hb dX7_drawn_21 (by decide) ?_
      refine lv_ldc (v := (999999)) hx hb hown (hts _ mX7_drawn_0) dX7_drawn_22 ?_
      refine q_top (y := nI 999999) (by decide) ?_
      refine q_rS (As := [.int (sd), .int (nI 1), .int (nI 999999)]) (rest := []) ⟨hx, hb, hml, hown, hts⟩ (c_X7_in l D cy sd (nI 1) (nI 999999)) (va_cwS 3 hts gX7_drawn_X7_in rfl rfl rfl (by decide +kernel) ⟨Nat.le_of_ble_eq_true rfl, Nat.le_of_ble_eq_true rfl⟩) hP hK [] rfl rfl hl.1 rfl (Nat.le_of_ble_eq_true rfl) dX7_drawn_24 ⟨Nat.zero_le _, Nat.zero_le _⟩ (fun r5 hr5 => ?_)
      rcases hr5 with ⟨rfl, b6⟩ | ⟨rfl, b6⟩
      · have _ := b6
        refine lv_if_eq (tgt := 39) hx hb dX7_drawn_27 (by decide) (fun c9 => absurd c9 (by decide)) (fun _ => ?_)
        obtain ⟨s1, -, hx_s1, rfl⟩ := q_rng b6 (by decide) (by decide)
        refine lv_iload_n hx hb dX7_drawn_30 rfl (lv_at hl 3 rfl) ?_
        refine lv_iconst (v := nI 0) hx hb dX7_drawn_31 (by decide) ?_
        refine lv_iconst (v := nI 1) hx hb dX7_drawn_32 (by decide) ?_
        refine q_rS (As := [.int (y), .int (nI 0), .int (nI 1)]) (rest := []) ⟨hx, hb, hml, hown, hts⟩ (c_X7_in l D cy y (nI 0) (nI 1)) (va_cwS 3 hts gX7_drawn_X7_in rfl rfl rfl (by decide +kernel) ⟨Nat.le_of_ble_eq_true rfl, Nat.le_of_ble_eq_true rfl⟩) hP hK [] rfl rfl hl.1 rfl (Nat.le_of_ble_eq_true rfl) dX7_drawn_33 ⟨Nat.zero_le _, Nat.zero_le _⟩ (fun r7 hr7 => ?_)
        rcases hr7 with ⟨rfl, b8⟩ | ⟨rfl, b8⟩
        · have _ := b8
          refine lv_if_ne (tgt := 42) hx hb dX7_drawn_36 (by decide) (fun _ => ?_) (fun c9 => absurd c9 (by decide))
          obtain ⟨u, -, hx_u, rfl⟩ := q_rng b8 (by decide) (by decide)
          have hst : 0 < w 0 := b2
          refine lv_iload_n hx hb dX7_drawn_42 rfl (lv_at hl 2 rfl) ?_
          refine lv_i2l (v := lN s1) hx hb dX7_drawn_43 (nI_l (by omega)) ?_
          refine lv_lstore (lv' := [(4, .long (lN s1)), (0, .ref m0), (1, .int (nI n1)), (2, .int (nI s1)), (3, .int (nI u))]) hx hb dX7_drawn_44 hl (by decide) rfl (fun ls hl => ?_)
          refine lv_iconst (v := nI 0) hx hb dX7_drawn_46 (by decide) ?_
          refine lv_istore (lv' := [(6, .int (nI 0)), (4, .long (lN s1)), (0, .ref m0), (1, .int (nI n1)), (2, .int (nI s1)), (3, .int (nI u))]) hx hb dX7_drawn_47 hl (by decide) rfl (fun ls hl => ?_)
          refine lv_iconst (v := nI 0) hx hb dX7_drawn_49 (by decide) ?_
          refine lv_istore (lv' := [(7, .int (nI 0)), (6, .int (nI 0)), (4, .long (lN s1)), (0, .ref m0), (1, .int (nI n1)), (2, .int (nI s1)), (3, .int (nI u))]) hx hb dX7_drawn_50 hl (by decide) rfl (fun ls hl => ?_)
          have L52_41 : ∀ (fu d : Nat), d ≤ n1 → n1 < d + fu → lcg s1 d < 2147483647 → ∀ ls : Array Slot, lv_has ls 10 [(0, .ref m0), (1, .int (nI n1)), (2, .int (nI s1)), (3, .int (nI u)), (4, .long (lN (lcg s1 d))), (6, .int (nI (drT w s1 u d))), (7, .int (nI d))] → W pg l en (q_rm 5) s mi args below meth cd s.heap [] 0 0 (MQ below (vp_Si (fun r => r = oDrawn w (nI n1) (nI s1) (nI u))) args s 0 0 (fun _ => False)) (F0 mi 52 ls []) := by
            intro fu
            induction fu with
            | zero =>
              intro d h1 h2
              exact absurd h2 (by omega)
            | succ fu ih52 =>
              intro d h1_52 h2_52 hf52_0 ls hl
              refine lv_iload hx hb dX7_drawn_52 (lv_at hl 6 rfl) ?_
              refine lv_iload_n hx hb dX7_drawn_54 rfl (lv_at hl 1 rfl) ?_
              refine q_icmp_ge (tgt := 151) hx hb dX7_drawn_55 (by decide) (by omega) (by omega) (fun c9 => ?_) (fun c9 => ?_)
              · refine lv_iload hx hb dX7_drawn_151 (lv_at hl 5 rfl) ?_
                exact q_iret (v := nI (drT w s1 u d)) hx hb hr hlocks dX7_drawn_153 ((by simp only [oDrawn, if_pos b2, if_pos b4, if_pos b6, if_pos b8, q_cl (by omega : n1 < 2147483648), q_cl (by omega : s1 < 2147483648), q_cl (by omega : u < 2147483648), (by omega : d = n1)]))
              · refine lv_lload hx hb dX7_drawn_58 (lv_at hl 4 rfl) ?_
                refine lv_ldc2 (v := (16807)) hx hb hown (hts _ mX7_drawn_1) dX7_drawn_60 ?_
                refine q_topL (y := lN 16807) (by decide) ?_
                refine lv_lmul hx hb dX7_drawn_63 ?_
                refine q_topL (y := lN ((lcg s1 d) * 16807)) (lN_mul _ _) ?_
                refine lv_ldc2 (v := (2147483647)) hx hb hown (hts _ mX7_drawn_2) dX7_drawn_64 ?_
                refine q_topL (y := lN 2147483647) (by decide) ?_
                have hlc := Nat.mod_lt (lcg s1 d * 16807) (by decide : 0 < 2147483647)
                refine lv_lrem hx hb dX7_drawn_67 (q_lne0 (b := 2147483647) (by omega) (by omega)) ?_
                refine q_topL (y := lN (((lcg s1 d) * 16807) % 2147483647)) (pk_lRem (a := ((lcg s1 d) * 16807)) (b := 2147483647) (by omega) (by omega) (by omega)) ?_
                refine lv_lstore (lv' := [(4, .long (lN (((lcg s1 d) * 16807) % 2147483647))), (0, .ref m0), (1, .int (nI n1)), (2, .int (nI s1)), (3, .int (nI u)), (6, .int (nI (drT w s1 u d))), (7, .int (nI d))]) hx hb dX7_drawn_68 hl (by decide) rfl (fun ls hl => ?_)
                refine lv_aload_n hx hb dX7_drawn_70 rfl (lv_at hl 1 rfl) ?_
                refine va_get (D := D) (ci := 7) (v := .ref nw) (C := RX7) (T := TX7) (N := 23) hx hb hts nX7_drawn_3 hown hK.1 hP 0 rfl rfl 13 (by decide) (hts _ mX7_drawn_4) (fun _ h9 => h9) rfl dX7_drawn_71 ?_
                refine lv_aload_n hx hb dX7_drawn_74 rfl (lv_at hl 1 rfl) ?_
                refine va_get (D := D) (ci := 7) (v := .ref nw) (C := RX7) (T := TX7) (N := 23) hx hb hts nX7_drawn_3 hown hK.1 hP 0 rfl rfl 13 (by decide) (hts _ mX7_drawn_4) (fun _ h9 => h9) rfl dX7_drawn_75 ?_
                refine lv_iconst (v := nI 2) hx hb dX7_drawn_78 (by decide) ?_
                refine q_iald (j := 2) (v := nI (w 2)) hx hb hK hP 1 rfl (by omega) (by decide) (hm _ (by omega)) dX7_drawn_79 ?_
                refine lv_iload hx hb dX7_drawn_80 (lv_at hl 6 rfl) ?_
                refine lv_iadd hx hb dX7_drawn_82 ?_
                refine q_top (y := nI ((w 2) + d)) (nI_add _ _) ?_
                refine q_rS (As := [.ref nw, .int (nI ((w 2) + d))]) (rest := []) ⟨hx, hb, hml, hown, hts⟩ (c_X7_leftOn l D cy nw f w hm hv ((w 2) + d) (by omega)) (va_cwS 2 hts gX7_drawn_X7_leftOn rfl rfl rfl (by decide +kernel) ⟨Nat.le_of_ble_eq_true rfl, Nat.le_of_ble_eq_true rfl⟩) hP hK [1] rfl rfl hl.1 rfl (Nat.le_of_ble_eq_true rfl) dX7_drawn_83 ⟨Nat.zero_le _, Nat.zero_le _⟩ (fun r10 hr10 => ?_)
                obtain rfl := hr10
                have hll := ctLeft_lt hv0 (w 2 + d)
                refine q_rS (As := [.int (nI (ctLeft w ((w 2) + d)))]) (rest := []) ⟨hx, hb, hml, hown, hts⟩ (c_X7_only l D cy (ctLeft w ((w 2) + d)) (by omega)) (va_cwS 1 hts gX7_drawn_X7_only rfl rfl rfl (by decide +kernel) ⟨Nat.le_of_ble_eq_true rfl, Nat.le_of_ble_eq_true rfl⟩) hP hK [] rfl rfl hl.1 rfl (Nat.le_of_ble_eq_true rfl) dX7_drawn_86 ⟨Nat.zero_le _, Nat.zero_le _⟩ (fun r11 hr11 => ?_)
                obtain rfl := hr11
                refine lv_istore (lv' := [(8, .int (onl (ctLeft w ((w 2) + d)))), (4, .long (lN (((lcg s1 d) * 16807) % 2147483647))), (0, .ref m0), (1, .int (nI n1)), (2, .int (nI s1)), (3, .int (nI u)), (6, .int (nI (drT w s1 u d))), (7, .int (nI d))]) hx hb dX7_drawn_89 hl (by decide) rfl (fun ls hl => ?_)
                refine lv_iload hx hb dX7_drawn_91 (lv_at hl 0 rfl) ?_
                refine lv_lload hx hb dX7_drawn_93 (lv_at hl 1 rfl) ?_
                refine lv_aload_n hx hb dX7_drawn_95 rfl (lv_at hl 2 rfl) ?_
                refine va_get (D := D) (ci := 7) (v := .ref nw) (C := RX7) (T := TX7) (N := 23) hx hb hts nX7_drawn_3 hown hK.1 hP 0 rfl rfl 13 (by decide) (hts _ mX7_drawn_4) (fun _ h9 => h9) rfl dX7_drawn_96 ?_
                refine lv_iconst (v := nI 0) hx hb dX7_drawn_99 (by decide) ?_
                refine q_iald (j := 0) (v := nI (w 0)) hx hb hK hP 1 rfl (by omega) (by decide) (hm _ (by omega)) dX7_drawn_100 ?_
                refine lv_i2l (v := lN (w 0)) hx hb dX7_drawn_101 (nI_l (by omega)) ?_
                refine lv_lrem hx hb dX7_drawn_102 (q_lne0 (b := (w 0)) (by omega) (by omega)) ?_
                refine q_topL (y := lN ((((lcg s1 d) * 16807) % 2147483647) % (w 0))) (pk_lRem (a := (((lcg s1 d) * 16807) % 2147483647)) (b := (w 0)) (by omega) (by omega) (by omega)) ?_
                have hml2 := Nat.mod_lt ((lcg s1 d * 16807) % 2147483647) (by omega : 0 < w 0)
                refine lv_l2i (v := nI ((((lcg s1 d) * 16807) % 2147483647) % (w 0))) hx hb dX7_drawn_103 (lN_i _) ?_
                refine lv_icmp_ne (tgt := 111) hx hb dX7_drawn_104 (by decide) (fun c12 => ?_) (fun c12 => ?_)
                · refine lv_iconst (v := nI 0) hx hb dX7_drawn_111 (by decide) ?_
                  refine lv_istore (lv' := [(9, .int (nI 0)), (8, .int (onl (ctLeft w ((w 2) + d)))), (4, .long (lN (((lcg s1 d) * 16807) % 2147483647))), (0, .ref m0), (1, .int (nI n1)), (2, .int (nI s1)), (3, .int (nI u)), (6, .int (nI (drT w s1 u d))), (7, .int (nI d))]) hx hb dX7_drawn_112 hl (by decide) rfl (fun ls hl => ?_)
                  refine lv_iload hx hb dX7_drawn_114 (lv_at hl 7 rfl) ?_
                  refine lv_iload hx hb dX7_drawn_116 (lv_at hl 1 rfl) ?_
                  refine lv_ldc (v := (-1000000)) hx hb hown (hts _ mX7_drawn_5) dX7_drawn_118 ?_
                  refine lv_icmp_eq (tgt := 141) hx hb dX7_drawn_120 (by decide) (fun c13 => ?_) (fun c13 => ?_)
                  · refine lv_iconst (v := nI 0) hx hb dX7_drawn_141 (by decide) ?_
                    refine lv_iadd hx hb dX7_drawn_142 ?_
                    refine q_top (y := nI ((drT w s1 u d) + 0)) (nI_add _ _) ?_
                    refine lv_istore (lv' := [(6, .int (nI ((drT w s1 u d) + 0))), (9, .int (nI 0)), (8, .int (onl (ctLeft w ((w 2) + d)))), (4, .long (lN (((lcg s1 d) * 16807) % 2147483647))), (0, .ref m0), (1, .int (nI n1)), (2, .int (nI s1)), (3, .int (nI u)), (7, .int (nI d))]) hx hb dX7_drawn_143 hl (by decide) rfl (fun ls hl => ?_)
                    refine lv_iinc (v := nI (d + 1)) (lv' := [(7, .int (nI (d + 1))), (6, .int (nI ((drT w s1 u d) + 0))), (9, .int (nI 0)), (8, .int (onl (ctLeft w ((w 2) + d)))), (4, .long (lN (((lcg s1 d) * 16807) % 2147483647))), (0, .ref m0), (1, .int (nI n1)), (2, .int (nI s1)), (3, .int (nI u))]) hx hb dX7_drawn_145 hl (k := 8) rfl (q_inc d 1) (by decide) rfl (fun ls hl => ?_)
                    refine lv_goto (tgt := 52) hx hb dX7_drawn_148 (by decide) ?_
                    exact ih52 (d + 1) (by omega) (by omega) (Nat.mod_lt _ (by decide)) ls (q_lset (lv_sub (l' := [(0, .ref m0), (1, .int (nI n1)), (2, .int (nI s1)), (3, .int (nI u)), (4, .long (lN (((lcg s1 d) * 16807) % 2147483647))), (6, .int (nI ((drT w s1 u d) + 0))), (7, .int (nI (d + 1)))]) hl [5, 6, 7, 8, 4, 1, 0] rfl) (q_c2 (f := fun z4 z6 => ([(0, .ref m0), (1, .int (nI n1)), (2, .int (nI s1)), (3, .int (nI u)), (4, .long (z4)), (6, .int (z6)), (7, .int (nI (d + 1)))] : List (Nat × Value))) (show (lN (((lcg s1 d) * 16807) % 2147483647) : Int64) = lN (lcg s1 (d + 1)) from rfl) (show (nI ((drT w s1 u d) + 0) : Int32) = nI (drT w s1 u (d + 1)) from (congrArg nI (drT_n c13)).symm)))
                  · refine lv_iload hx hb dX7_drawn_123 (lv_at hl 0 rfl) ?_
                    refine lv_iload_n hx hb dX7_drawn_125 rfl (lv_at hl 6 rfl) ?_
                    refine q_if_ne (tgt := 133) hx hb dX7_drawn_126 (by decide) (by omega) (fun c14 => ?_) (fun c14 => ?_)
                    · refine lv_iconst (v := nI 0) hx hb dX7_drawn_133 (by decide) ?_
                      refine lv_icmp_ne (tgt := 141) hx hb dX7_drawn_134 (by decide) (fun c9 => absurd (by decide) c9) (fun _ => ?_)
                      refine lv_iconst (v := nI 1) hx hb dX7_drawn_137 (by decide) ?_
                      refine lv_goto (tgt := 142) hx hb dX7_drawn_138 (by decide) ?_
                      refine lv_iadd hx hb dX7_drawn_142 ?_
                      refine q_top (y := nI ((drT w s1 u d) + 1)) (nI_add _ _) ?_
                      refine lv_istore (lv' := [(6, .int (nI ((drT w s1 u d) + 1))), (9, .int (nI 0)), (8, .int (onl (ctLeft w ((w 2) + d)))), (4, .long (lN (((lcg s1 d) * 16807) % 2147483647))), (0, .ref m0), (1, .int (nI n1)), (2, .int (nI s1)), (3, .int (nI u)), (7, .int (nI d))]) hx hb dX7_drawn_143 hl (by decide) rfl (fun ls hl => ?_)
                      refine lv_iinc (v := nI (d + 1)) (lv' := [(7, .int (nI (d + 1))), (6, .int (nI ((drT w s1 u d) + 1))), (9, .int (nI 0)), (8, .int (onl (ctLeft w ((w 2) + d)))), (4, .long (lN (((lcg s1 d) * 16807) % 2147483647))), (0, .ref m0), (1, .int (nI n1)), (2, .int (nI s1)), (3, .int (nI u))]) hx hb dX7_drawn_145 hl (k := 8) rfl (q_inc d 1) (by decide) rfl (fun ls hl => ?_)
                      refine lv_goto (tgt := 52) hx hb dX7_drawn_148 (by decide) ?_
                      exact ih52 (d + 1) (by omega) (by omega) (Nat.mod_lt _ (by decide)) ls (q_lset (lv_sub (l' := [(0, .ref m0), (1, .int (nI n1)), (2, .int (nI s1)), (3, .int (nI u)), (4, .long (lN (((lcg s1 d) * 16807) % 2147483647))), (6, .int (nI ((drT w s1 u d) + 1))), (7, .int (nI (d + 1)))]) hl [5, 6, 7, 8, 4, 1, 0] rfl) (q_c2 (f := fun z4 z6 => ([(0, .ref m0), (1, .int (nI n1)), (2, .int (nI s1)), (3, .int (nI u)), (4, .long (z4)), (6, .int (z6)), (7, .int (nI (d + 1)))] : List (Nat × Value))) (show (lN (((lcg s1 d) * 16807) % 2147483647) : Int64) = lN (lcg s1 (d + 1)) from rfl) (show (nI ((drT w s1 u d) + 1) : Int32) = nI (drT w s1 u (d + 1)) from (congrArg nI (drT_y c13 (by rw [mx_n hst c12, decide_eq_false (by omega : ¬ u = 0)]))).symm)))
                    · refine lv_iconst (v := nI 1) hx hb dX7_drawn_129 (by decide) ?_
                      refine lv_goto (tgt := 134) hx hb dX7_drawn_130 (by decide) ?_
                      refine lv_icmp_ne (tgt := 141) hx hb dX7_drawn_134 (by decide) (fun _ => ?_) (fun c9 => absurd c9 (by decide))
                      refine lv_iconst (v := nI 0) hx hb dX7_drawn_141 (by decide) ?_
                      refine lv_iadd hx hb dX7_drawn_142 ?_
                      refine q_top (y := nI ((drT w s1 u d) + 0)) (nI_add _ _) ?_
                      refine lv_istore (lv' := [(6, .int (nI ((drT w s1 u d) + 0))), (9, .int (nI 0)), (8, .int (onl (ctLeft w ((w 2) + d)))), (4, .long (lN (((lcg s1 d) * 16807) % 2147483647))), (0, .ref m0), (1, .int (nI n1)), (2, .int (nI s1)), (3, .int (nI u)), (7, .int (nI d))]) hx hb dX7_drawn_143 hl (by decide) rfl (fun ls hl => ?_)
                      refine lv_iinc (v := nI (d + 1)) (lv' := [(7, .int (nI (d + 1))), (6, .int (nI ((drT w s1 u d) + 0))), (9, .int (nI 0)), (8, .int (onl (ctLeft w ((w 2) + d)))), (4, .long (lN (((lcg s1 d) * 16807) % 2147483647))), (0, .ref m0), (1, .int (nI n1)), (2, .int (nI s1)), (3, .int (nI u))]) hx hb dX7_drawn_145 hl (k := 8) rfl (q_inc d 1) (by decide) rfl (fun ls hl => ?_)
                      refine lv_goto (tgt := 52) hx hb dX7_drawn_148 (by decide) ?_
                      exact ih52 (d + 1) (by omega) (by omega) (Nat.mod_lt _ (by decide)) ls (q_lset (lv_sub (l' := [(0, .ref m0), (1, .int (nI n1)), (2, .int (nI s1)), (3, .int (nI u)), (4, .long (lN (((lcg s1 d) * 16807) % 2147483647))), (6, .int (nI ((drT w s1 u d) + 0))), (7, .int (nI (d + 1)))]) hl [5, 6, 7, 8, 4, 1, 0] rfl) (q_c2 (f := fun z4 z6 => ([(0, .ref m0), (1, .int (nI n1)), (2, .int (nI s1)), (3, .int (nI u)), (4, .long (z4)), (6, .int (z6)), (7, .int (nI (d + 1)))] : List (Nat × Value))) (show (lN (((lcg s1 d) * 16807) % 2147483647) : Int64) = lN (lcg s1 (d + 1)) from rfl) (show (nI ((drT w s1 u d) + 0) : Int32) = nI (drT w s1 u (d + 1)) from (congrArg nI (drT_f (by rw [mx_n hst c12, decide_eq_true (by omega : u = 0)]; decide))).symm)))
                · refine lv_iconst (v := nI 1) hx hb dX7_drawn_107 (by decide) ?_
                  refine lv_goto (tgt := 112) hx hb dX7_drawn_108 (by decide) ?_
                  refine lv_istore (lv' := [(9, .int (nI 1)), (8, .int (onl (ctLeft w ((w 2) + d)))), (4, .long (lN (((lcg s1 d) * 16807) % 2147483647))), (0, .ref m0), (1, .int (nI n1)), (2, .int (nI s1)), (3, .int (nI u)), (6, .int (nI (drT w s1 u d))), (7, .int (nI d))]) hx hb dX7_drawn_112 hl (by decide) rfl (fun ls hl => ?_)
                  refine lv_iload hx hb dX7_drawn_114 (lv_at hl 7 rfl) ?_
                  refine lv_iload hx hb dX7_drawn_116 (lv_at hl 1 rfl) ?_
                  refine lv_ldc (v := (-1000000)) hx hb hown (hts _ mX7_drawn_5) dX7_drawn_118 ?_
                  refine lv_icmp_eq (tgt := 141) hx hb dX7_drawn_120 (by decide) (fun c15 => ?_) (fun c15 => ?_)
                  · refine lv_iconst (v := nI 0) hx hb dX7_drawn_141 (by decide) ?_
                    refine lv_iadd hx hb dX7_drawn_142 ?_
                    refine q_top (y := nI ((drT w s1 u d) + 0)) (nI_add _ _) ?_
                    refine lv_istore (lv' := [(6, .int (nI ((drT w s1 u d) + 0))), (9, .int (nI 1)), (8, .int (onl (ctLeft w ((w 2) + d)))), (4, .long (lN (((lcg s1 d) * 16807) % 2147483647))), (0, .ref m0), (1, .int (nI n1)), (2, .int (nI s1)), (3, .int (nI u)), (7, .int (nI d))]) hx hb dX7_drawn_143 hl (by decide) rfl (fun ls hl => ?_)
                    refine lv_iinc (v := nI (d + 1)) (lv' := [(7, .int (nI (d + 1))), (6, .int (nI ((drT w s1 u d) + 0))), (9, .int (nI 1)), (8, .int (onl (ctLeft w ((w 2) + d)))), (4, .long (lN (((lcg s1 d) * 16807) % 2147483647))), (0, .ref m0), (1, .int (nI n1)), (2, .int (nI s1)), (3, .int (nI u))]) hx hb dX7_drawn_145 hl (k := 8) rfl (q_inc d 1) (by decide) rfl (fun ls hl => ?_)
                    refine lv_goto (tgt := 52) hx hb dX7_drawn_148 (by decide) ?_
                    exact ih52 (d + 1) (by omega) (by omega) (Nat.mod_lt _ (by decide)) ls (q_lset (lv_sub (l' := [(0, .ref m0), (1, .int (nI n1)), (2, .int (nI s1)), (3, .int (nI u)), (4, .long (lN (((lcg s1 d) * 16807) % 2147483647))), (6, .int (nI ((drT w s1 u d) + 0))), (7, .int (nI (d + 1)))]) hl [5, 6, 7, 8, 4, 1, 0] rfl) (q_c2 (f := fun z4 z6 => ([(0, .ref m0), (1, .int (nI n1)), (2, .int (nI s1)), (3, .int (nI u)), (4, .long (z4)), (6, .int (z6)), (7, .int (nI (d + 1)))] : List (Nat × Value))) (show (lN (((lcg s1 d) * 16807) % 2147483647) : Int64) = lN (lcg s1 (d + 1)) from rfl) (show (nI ((drT w s1 u d) + 0) : Int32) = nI (drT w s1 u (d + 1)) from (congrArg nI (drT_n c15)).symm)))
                  · refine lv_iload hx hb dX7_drawn_123 (lv_at hl 0 rfl) ?_
                    refine lv_iload_n hx hb dX7_drawn_125 rfl (lv_at hl 6 rfl) ?_
                    refine q_if_ne (tgt := 133) hx hb dX7_drawn_126 (by decide) (by omega) (fun c16 => ?_) (fun c16 => ?_)
                    · refine lv_iconst (v := nI 0) hx hb dX7_drawn_133 (by decide) ?_
                      refine lv_icmp_ne (tgt := 141) hx hb dX7_drawn_134 (by decide) (fun _ => ?_) (fun c9 => absurd c9 (by decide))
                      refine lv_iconst (v := nI 0) hx hb dX7_drawn_141 (by decide) ?_
                      refine lv_iadd hx hb dX7_drawn_142 ?_
                      refine q_top (y := nI ((drT w s1 u d) + 0)) (nI_add _ _) ?_
                      refine lv_istore (lv' := [(6, .int (nI ((drT w s1 u d) + 0))), (9, .int (nI 1)), (8, .int (onl (ctLeft w ((w 2) + d)))), (4, .long (lN (((lcg s1 d) * 16807) % 2147483647))), (0, .ref m0), (1, .int (nI n1)), (2, .int (nI s1)), (3, .int (nI u)), (7, .int (nI d))]) hx hb dX7_drawn_143 hl (by decide) rfl (fun ls hl => ?_)
                      refine lv_iinc (v := nI (d + 1)) (lv' := [(7, .int (nI (d + 1))), (6, .int (nI ((drT w s1 u d) + 0))), (9, .int (nI 1)), (8, .int (onl (ctLeft w ((w 2) + d)))), (4, .long (lN (((lcg s1 d) * 16807) % 2147483647))), (0, .ref m0), (1, .int (nI n1)), (2, .int (nI s1)), (3, .int (nI u))]) hx hb dX7_drawn_145 hl (k := 8) rfl (q_inc d 1) (by decide) rfl (fun ls hl => ?_)
                      refine lv_goto (tgt := 52) hx hb dX7_drawn_148 (by decide) ?_
                      exact ih52 (d + 1) (by omega) (by omega) (Nat.mod_lt _ (by decide)) ls (q_lset (lv_sub (l' := [(0, .ref m0), (1, .int (nI n1)), (2, .int (nI s1)), (3, .int (nI u)), (4, .long (lN (((lcg s1 d) * 16807) % 2147483647))), (6, .int (nI ((drT w s1 u d) + 0))), (7, .int (nI (d + 1)))]) hl [5, 6, 7, 8, 4, 1, 0] rfl) (q_c2 (f := fun z4 z6 => ([(0, .ref m0), (1, .int (nI n1)), (2, .int (nI s1)), (3, .int (nI u)), (4, .long (z4)), (6, .int (z6)), (7, .int (nI (d + 1)))] : List (Nat × Value))) (show (lN (((lcg s1 d) * 16807) % 2147483647) : Int64) = lN (lcg s1 (d + 1)) from rfl) (show (nI ((drT w s1 u d) + 0) : Int32) = nI (drT w s1 u (d + 1)) from (congrArg nI (drT_f (by rw [mx_y hst c12, decide_eq_false (by omega : ¬ u = 0)]; decide))).symm)))
                    · refine lv_iconst (v := nI 1) hx hb dX7_drawn_129 (by decide) ?_
                      refine lv_goto (tgt := 134) hx hb dX7_drawn_130 (by decide) ?_
                      refine lv_icmp_ne (tgt := 141) hx hb dX7_drawn_134 (by decide) (fun c9 => absurd (by decide) c9) (fun _ => ?_)
                      refine lv_iconst (v := nI 1) hx hb dX7_drawn_137 (by decide) ?_
                      refine lv_goto (tgt := 142) hx hb dX7_drawn_138 (by decide) ?_
                      refine lv_iadd hx hb dX7_drawn_142 ?_
                      refine q_top (y := nI ((drT w s1 u d) + 1)) (nI_add _ _) ?_
                      refine lv_istore (lv' := [(6, .int (nI ((drT w s1 u d) + 1))), (9, .int (nI 1)), (8, .int (onl (ctLeft w ((w 2) + d)))), (4, .long (lN (((lcg s1 d) * 16807) % 2147483647))), (0, .ref m0), (1, .int (nI n1)), (2, .int (nI s1)), (3, .int (nI u)), (7, .int (nI d))]) hx hb dX7_drawn_143 hl (by decide) rfl (fun ls hl => ?_)
                      refine lv_iinc (v := nI (d + 1)) (lv' := [(7, .int (nI (d + 1))), (6, .int (nI ((drT w s1 u d) + 1))), (9, .int (nI 1)), (8, .int (onl (ctLeft w ((w 2) + d)))), (4, .long (lN (((lcg s1 d) * 16807) % 2147483647))), (0, .ref m0), (1, .int (nI n1)), (2, .int (nI s1)), (3, .int (nI u))]) hx hb dX7_drawn_145 hl (k := 8) rfl (q_inc d 1) (by decide) rfl (fun ls hl => ?_)
                      refine lv_goto (tgt := 52) hx hb dX7_drawn_148 (by decide) ?_
                      exact ih52 (d + 1) (by omega) (by omega) (Nat.mod_lt _ (by decide)) ls (q_lset (lv_sub (l' := [(0, .ref m0), (1, .int (nI n1)), (2, .int (nI s1)), (3, .int (nI u)), (4, .long (lN (((lcg s1 d) * 16807) % 2147483647))), (6, .int (nI ((drT w s1 u d) + 1))), (7, .int (nI (d + 1)))]) hl [5, 6, 7, 8, 4, 1, 0] rfl) (q_c2 (f := fun z4 z6 => ([(0, .ref m0), (1, .int (nI n1)), (2, .int (nI s1)), (3, .int (nI u)), (4, .long (z4)), (6, .int (z6)), (7, .int (nI (d + 1)))] : List (Nat × Value))) (show (lN (((lcg s1 d) * 16807) % 2147483647) : Int64) = lN (lcg s1 (d + 1)) from rfl) (show (nI ((drT w s1 u d) + 1) : Int32) = nI (drT w s1 u (d + 1)) from (congrArg nI (drT_y c15 (by rw [mx_y hst c12, decide_eq_true (by omega : u = 0)]))).symm)))
          exact L52_41 (n1 + 1) 0 (by omega) (by omega) (show s1 < 2147483647 by omega) ls (q_lset (lv_sub (l' := [(0, .ref m0), (1, .int (nI n1)), (2, .int (nI s1)), (3, .int (nI u)), (4, .long (lN s1)), (6, .int (nI 0)), (7, .int (nI 0))]) hl [3, 4, 5, 6, 2, 1, 0] rfl) (q_c2 (f := fun z4 z6 => ([(0, .ref m0), (1, .int (nI n1)), (2, .int (nI s1)), (3, .int (nI u)), (4, .long (z4)), (6, .int (z6)), (7, .int (nI 0))] : List (Nat × Value))) (show (lN s1 : Int64) = lN (lcg s1 0) from rfl) (show (nI 0 : Int32) = nI (drT w s1 u 0) from rfl)))
        · have _ := b8
          refine lv_if_ne (tgt := 42) hx hb dX7_drawn_36 (by decide) (fun c9 => absurd (by decide) c9) (fun _ => ?_)
          refine lv_ldc (v := (-1000001)) hx hb hown (hts _ mX7_drawn_6) dX7_drawn_39 ?_
          exact q_iret (v := (-1000001)) hx hb hr hlocks dX7_drawn_41 ((by simp only [oDrawn, if_pos b2, if_pos b4, if_pos b6, if_neg b8]))
      · have _ := b6
        refine lv_if_eq (tgt := 39) hx hb dX7_drawn_27 (by decide) (fun _ => ?_) (fun c9 => absurd (by decide) c9)
        refine lv_ldc (v := (-1000001)) hx hb hown (hts _ mX7_drawn_6) dX7_drawn_39 ?_
        exact q_iret (v := (-1000001)) hx hb hr hlocks dX7_drawn_41 ((by simp only [oDrawn, if_pos b2, if_pos b4, if_neg b6]))
    · have _ := b4
      refine lv_if_eq (tgt := 39) hx hb dX7_drawn_17 (by decide) (fun _ => ?_) (fun c9 => absurd (by decide) c9)
      refine lv_ldc (v := (-1000001)) hx hb hown (hts _ mX7_drawn_6) dX7_drawn_39 ?_
      exact q_iret (v := (-1000001)) hx hb hr hlocks dX7_drawn_41 ((by simp only [oDrawn, if_pos b2, if_neg b4]))
  · have _ := b2
    refine lv_if_ne (tgt := 10) hx hb dX7_drawn_4 (by decide) (fun c9 => absurd (by decide) c9) (fun _ => ?_)
    refine lv_ldc (v := (-1000002)) hx hb hown (hts _ mX7_drawn_7) dX7_drawn_7 ?_
    exact q_iret (v := (-1000002)) hx hb hr hlocks dX7_drawn_9 ((by simp only [oDrawn, if_neg b2]))

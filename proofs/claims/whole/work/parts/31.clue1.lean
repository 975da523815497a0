theorem nX6_found_0 : ∀ w ∈ wsX60, w ∈ wsX6_found := by decide +kernel
theorem mX6_found_1 : Cond.fieldLink RX6 257 "ClueLeave" "finding" "I" ∈ wsX6_found := by decide +kernel
theorem mX6_found_2 : Cond.constant RX6 260 (-1000010) ∈ wsX6_found := by decide +kernel
set_option maxHeartbeats 4000000 in
set_option maxRecDepth 100000 in
theorem c_X6_found (l : Launch) (D : va_G) (cy : Nat → ClassId) (x0 r0 t0 q s0 k0 h j0 im : Nat) (st : Int32) (v : Int32) : q_Wi l yX6_found wsX6_found 1 D cy [(x0, .inr (6, [.ref r0, .ref t0, .ref q, .ref s0, .ref k0, .ref h, .ref j0, .ref im, .int (st)]))] [.ref x0, .int (v)] (fun r u => r = (-1000010) - v ∧ u = [(x0, .inr (6, [.ref r0, .ref t0, .ref q, .ref s0, .ref k0, .ref h, .ref j0, .ref im, .int (v)]))]) := by
  refine q_wi_of (cc := cX6_found) (maxL := 2) (ret := (some .int)) (by decide) rfl (Nat.le_of_ble_eq_true rfl) ?_
  intro pg en s mi args below meth cd A hC hA hK H locs hP hD hS ls hl
  obtain ⟨hx, hb, hr, hml, hown, hts, hlocks⟩ := hC
  have hl : lv_has ls 2 [(0, .ref x0), (1, .int (v))] := hl
  refine lv_aload_n hx hb dX6_found_0 rfl (lv_at hl 0 rfl) ?_
  refine lv_iload_n hx hb dX6_found_1 rfl (lv_at hl 1 rfl) ?_
  refine va_put (D := D) (ci := 6) (v := .int (v)) (ty := .int) (C := RX6) (T := TX6) (N := 9) hx hb hts nX6_found_0 tyX6 tyX6_ok nmX6 hown hK.1 hP hD hS 0 rfl rfl 8 (by decide) (hts _ mX6_found_1) (fun _ h9 => h9) rfl (by decide +kernel) rfl rfl (Nat.le_of_ble_eq_true rfl) dX6_found_2 (fun H locs hP hD hS => ?_)
  have hP : va_P D vwCl [(x0, .inr (6, [.ref r0, .ref t0, .ref q, .ref s0, .ref k0, .ref h, .ref j0, .ref im, .int (v)]))] H := hP
  have hD : va_D A [(x0, .inr (6, [.ref r0, .ref t0, .ref q, .ref s0, .ref k0, .ref h, .ref j0, .ref im, .int (v)]))] := hD
  refine lv_ldcw (v := (-1000010)) hx hb hown (hts _ mX6_found_2) dX6_found_5 ?_
  refine lv_iload_n hx hb dX6_found_8 rfl (lv_at hl 1 rfl) ?_
  refine lv_isub hx hb dX6_found_9 ?_
  have hP9 := hP
  have hD9 := hD
  exact q_wiret (v := (-1000010) - v) hx hb hr hlocks dX6_found_10 hP9 hD9 hS (⟨rfl, rfl⟩)
theorem nX6_sound_0 : ∀ w ∈ wsX60, w ∈ wsX6_sound := by decide +kernel
theorem mX6_sound_1 : Cond.fieldLink RX6 257 "ClueLeave" "finding" "I" ∈ wsX6_sound := by decide +kernel
set_option maxHeartbeats 4000000 in
set_option maxRecDepth 100000 in
theorem c_X6_sound (l : Launch) (D : va_G) (cy : Nat → ClassId) (x0 r0 t0 q s0 k0 h j0 im : Nat) (st : Int32) (v : Int32) : q_Wi l yX6_sound wsX6_sound 1 D cy [(x0, .inr (6, [.ref r0, .ref t0, .ref q, .ref s0, .ref k0, .ref h, .ref j0, .ref im, .int (st)]))] [.ref x0, .int (v)] (fun r u => r = v ∧ u = [(x0, .inr (6, [.ref r0, .ref t0, .ref q, .ref s0, .ref k0, .ref h, .ref j0, .ref im, .int (nI 0)]))]) := by
  refine q_wi_of (cc := cX6_sound) (maxL := 2) (ret := (some .int)) (by decide) rfl (Nat.le_of_ble_eq_true rfl) ?_
  intro pg en s mi args below meth cd A hC hA hK H locs hP hD hS ls hl
  obtain ⟨hx, hb, hr, hml, hown, hts, hlocks⟩ := hC
  have hl : lv_has ls 2 [(0, .ref x0), (1, .int (v))] := hl
  refine lv_aload_n hx hb dX6_sound_0 rfl (lv_at hl 0 rfl) ?_
  refine lv_iconst (v := nI 0) hx hb dX6_sound_1 (by decide) ?_
  refine va_put (D := D) (ci := 6) (v := .int (nI 0)) (ty := .int) (C := RX6) (T := TX6) (N := 9) hx hb hts nX6_sound_0 tyX6 tyX6_ok nmX6 hown hK.1 hP hD hS 0 rfl rfl 8 (by decide) (hts _ mX6_sound_1) (fun _ h9 => h9) rfl (by decide +kernel) rfl rfl (Nat.le_of_ble_eq_true rfl) dX6_sound_2 (fun H locs hP hD hS => ?_)
  have hP : va_P D vwCl [(x0, .inr (6, [.ref r0, .ref t0, .ref q, .ref s0, .ref k0, .ref h, .ref j0, .ref im, .int (nI 0)]))] H := hP
  have hD : va_D A [(x0, .inr (6, [.ref r0, .ref t0, .ref q, .ref s0, .ref k0, .ref h, .ref j0, .ref im, .int (nI 0)]))] := hD
  refine lv_iload_n hx hb dX6_sound_5 rfl (lv_at hl 1 rfl) ?_
  have hP9 := hP
  have hD9 := hD
  exact q_wiret (v := v) hx hb hr hlocks dX6_sound_6 hP9 hD9 hS (⟨rfl, rfl⟩)
theorem nX6_row_0 : ∀ w ∈ wsX60, w ∈ wsX6_row := by decide +kernel
theorem mX6_row_1 : Cond.fieldLink RX6 10 "ClueLeave" "rows" "LClueLeave$Rows;" ∈ wsX6_row := by decide +kernel
theorem mX6_row_2 : Cond.constant RX6 66 (-1000001) ∈ wsX6_row := by decide +kernel
set_option maxHeartbeats 4000000 in
set_option maxRecDepth 100000 in
theorem c_X6_row (l : Launch) (D : va_G) (cy : Nat → ClassId) (x0 t0 q s0 k0 h j0 im : Nat) (st : Int32) (r0 rl rz ri : Nat) (gI : Nat → Option Nat) (gR : Nat → Nat) (hgI : ∀ r, r < 8 → gI r = some (gR r)) (fl fz : Nat → Int32) (it : Nat → Nat → Int32) (ln sz : Nat → Nat) (itS : Nat → Nat → Int32) (hrwI : rwI ln sz itS fl fz it) (x l2 n : Int32) : q_Wi l yX6_row wsX6_row 3 D cy ([(x0, .inr (6, [.ref r0, .ref t0, .ref q, .ref s0, .ref k0, .ref h, .ref j0, .ref im, .int (st)])), (r0, .inr (4, [.ref rl, .ref rz, .ref ri])), (rl, .inl (cy 0, 8, .inl fl)), (rz, .inl (cy 0, 8, .inl fz)), (ri, .inl (cy 3, 8, .inr (.inr (.inr (.inr gI)))))] ++ (famI cy 8 40 gR it ++ [])) [.ref x0, .int (x), .int (l2), .int (n)] (fun r u => ∃ (st2 : Int32) (ln2 sz2 : Nat → Nat) (itS2 : Nat → Nat → Int32) (fl2 fz2 : Nat → Int32) (it2 : Nat → Nat → Int32), oRow ln sz itS st x l2 n = (r, st2, ln2, sz2, itS2) ∧ rwI ln2 sz2 itS2 fl2 fz2 it2 ∧ u = ([(x0, .inr (6, [.ref r0, .ref t0, .ref q, .ref s0, .ref k0, .ref h, .ref j0, .ref im, .int (st2)])), (r0, .inr (4, [.ref rl, .ref rz, .ref ri])), (rl, .inl (cy 0, 8, .inl fl2)), (rz, .inl (cy 0, 8, .inl fz2)), (ri, .inl (cy 3, 8, .inr (.inr (.inr (.inr gI)))))] ++ (famI cy 8 40 gR it2 ++ []))) := by
  refine q_wi_of (cc := cX6_row) (maxL := 4) (ret := (some .int)) (by decide) rfl (Nat.le_of_ble_eq_true rfl) ?_
  intro pg en s mi args below meth cd A hC hA hK H locs hP hD hS ls hl
  obtain ⟨hx, hb, hr, hml, hown, hts, hlocks⟩ := hC
  have hl : lv_has ls 4 [(0, .ref x0), (1, .int (x)), (2, .int (l2)), (3, .int (n))] := hl
  have hrw := hrwI.1
  have hit := hrwI.2
  refine lv_aload_n hx hb dX6_row_0 rfl (lv_at hl 0 rfl) ?_
  refine va_get (D := D) (ci := 6) (v := .ref r0) (C := RX6) (T := TX6) (N := 9) hx hb hts nX6_row_0 hown hK.1 hP 0 rfl rfl 0 (by decide) (hts _ mX6_row_1) (fun _ h9 => h9) rfl dX6_row_1 ?_
  refine lv_iload_n hx hb dX6_row_4 rfl (lv_at hl 1 rfl) ?_
  refine q_rV (As := [.int (x)]) (rest := []) ⟨hx, hb, hml, hown, hts⟩ (c_X4_isRow l D cy r0 rl rz ri gI gR hgI fl fz it ln sz hrw x) (cwV 1 hts gX6_row_X4_isRow rfl rfl rfl (by decide +kernel) ⟨Nat.le_of_ble_eq_true rfl, Nat.le_of_ble_eq_true rfl⟩) hP hK [1, 2, 3, 4, 5, 6, 7, 8, 9, 10, 11, 12] rfl 1 rfl rfl rfl rfl hl.1 rfl (Nat.le_of_ble_eq_true rfl) dX6_row_5 ⟨Nat.zero_le _, Nat.zero_le _⟩ (fun r1 hr1 => ?_)
  rcases hr1 with ⟨rfl, b2⟩ | ⟨rfl, b2⟩
  · replace b2 := (isR_i x).mp b2
    refine lv_if_eq (tgt := 26) hx hb dX6_row_8 (by decide) (fun c9 => absurd c9 (by decide)) (fun _ => ?_)
    obtain ⟨k, -, hk, rfl⟩ := q_rng b2 (by decide) (by decide)
    refine lv_iload_n hx hb dX6_row_11 rfl (lv_at hl 2 rfl) ?_
    refine lv_iconst (v := nI 0) hx hb dX6_row_12 (by decide) ?_
    refine lv_iconst (v := nI 2) hx hb dX6_row_13 (by decide) ?_
    refine q_rS (As := [.int (l2), .int (nI 0), .int (nI 2)]) (rest := []) ⟨hx, hb, hml, hown, hts⟩ (c_X6_isWithin l D cy l2 (nI 0) (nI 2)) (va_cwS 3 hts gX6_row_X6_isWithin rfl rfl rfl (by decide +kernel) ⟨Nat.le_of_ble_eq_true rfl, Nat.le_of_ble_eq_true rfl⟩) hP hK [] rfl rfl hl.1 rfl (Nat.le_of_ble_eq_true rfl) dX6_row_14 ⟨Nat.zero_le _, Nat.zero_le _⟩ (fun r3 hr3 => ?_)
    rcases hr3 with ⟨rfl, b4⟩ | ⟨rfl, b4⟩
    · have _ := b4
      refine lv_if_eq (tgt := 26) hx hb dX6_row_17 (by decide) (fun c9 => absurd c9 (by decide)) (fun _ => ?_)
      obtain ⟨la, -, hla, rfl⟩ := q_rng b4 (by decide) (by decide)
      refine lv_iload_n hx hb dX6_row_20 rfl (lv_at hl 3 rfl) ?_
      refine lv_bipush (v := nI 40) hx hb dX6_row_21 (by decide) ?_
      refine lv_icmp_le (tgt := 29) hx hb dX6_row_23 (by decide) (fun c5 => ?_) (fun c5 => ?_)
      · refine lv_iload_n hx hb dX6_row_29 rfl (lv_at hl 3 rfl) ?_
        refine lv_if_ge (tgt := 39) hx hb dX6_row_30 (by decide) (fun c6 => ?_) (fun c6 => ?_)
        · obtain ⟨m, -, hm, rfl⟩ := q_rng ⟨c6, c5⟩ (by decide) (by decide)
          refine lv_aload_n hx hb dX6_row_39 rfl (lv_at hl 0 rfl) ?_
          refine va_get (D := D) (ci := 6) (v := .ref r0) (C := RX6) (T := TX6) (N := 9) hx hb hts nX6_row_0 hown hK.1 hP 0 rfl rfl 0 (by decide) (hts _ mX6_row_1) (fun _ h9 => h9) rfl dX6_row_40 ?_
          refine lv_iload_n hx hb dX6_row_43 rfl (lv_at hl 1 rfl) ?_
          refine lv_iload_n hx hb dX6_row_44 rfl (lv_at hl 2 rfl) ?_
          refine lv_iload_n hx hb dX6_row_45 rfl (lv_at hl 3 rfl) ?_
          refine q_wvV (As := [.int (nI k), .int (nI la), .int (nI m)]) (rest := []) (wr := [(x0, .inr (6, [.ref r0, .ref t0, .ref q, .ref s0, .ref k0, .ref h, .ref j0, .ref im, .int (st)]))]) ⟨hx, hb, hml, hown, hts⟩ (c_X4_make l D cy r0 rl rz ri gI gR hgI fl fz it ln sz hrw k (by omega) (nI la) (nI m)) (cwV 3 hts gX6_row_X4_make rfl rfl rfl (by decide +kernel) ⟨Nat.le_of_ble_eq_true rfl, Nat.le_of_ble_eq_true rfl⟩) hP hD hS hA hK [1, 2, 3, 4, 5, 6, 7, 8, 9, 10, 11, 12] [0] rfl rfl (by decide) rfl (by decide) (by decide) 1 rfl rfl rfl rfl hl.1 rfl (Nat.le_of_ble_eq_true rfl) dX6_row_46 ⟨Nat.zero_le _, Nat.zero_le _⟩ (fun u8 H locs hr7 hP hD hS => ?_)
          obtain ⟨g, hg, rfl⟩ := hr7
          have hP : va_P D vwCl ([(x0, .inr (6, [.ref r0, .ref t0, .ref q, .ref s0, .ref k0, .ref h, .ref j0, .ref im, .int (st)])), (r0, .inr (4, [.ref rl, .ref rz, .ref ri])), (rl, .inl (cy 0, 8, .inl (upd fl k (nI la)))), (rz, .inl (cy 0, 8, .inl (upd fz k (nI m)))), (ri, .inl (cy 3, 8, .inr (.inr (.inr (.inr gI)))))] ++ (famI cy 8 40 gR (fun j => if j = k then g else it j) ++ [])) H := hP
          have hD : va_D A ([(x0, .inr (6, [.ref r0, .ref t0, .ref q, .ref s0, .ref k0, .ref h, .ref j0, .ref im, .int (st)])), (r0, .inr (4, [.ref rl, .ref rz, .ref ri])), (rl, .inl (cy 0, 8, .inl (upd fl k (nI la)))), (rz, .inl (cy 0, 8, .inl (upd fz k (nI m)))), (ri, .inl (cy 3, 8, .inr (.inr (.inr (.inr gI)))))] ++ (famI cy 8 40 gR (fun j => if j = k then g else it j) ++ [])) := hD
          refine lv_aload_n hx hb dX6_row_49 rfl (lv_at hl 0 rfl) ?_
          refine lv_iload_n hx hb dX6_row_50 rfl (lv_at hl 3 rfl) ?_
          refine q_wiV (As := [.int (nI m)]) (rest := []) (wr := ([(r0, .inr (4, [.ref rl, .ref rz, .ref ri])), (rl, .inl (cy 0, 8, .inl (upd fl k (nI la)))), (rz, .inl (cy 0, 8, .inl (upd fz k (nI m)))), (ri, .inl (cy 3, 8, .inr (.inr (.inr (.inr gI)))))] ++ (famI cy 8 40 gR (fun j => if j = k then g else it j) ++ []))) ⟨hx, hb, hml, hown, hts⟩ (c_X6_sound l D cy x0 r0 t0 q s0 k0 h j0 im st (nI m)) (cwV 1 hts gX6_row_X6_sound rfl rfl rfl (by decide +kernel) ⟨Nat.le_of_ble_eq_true rfl, Nat.le_of_ble_eq_true rfl⟩) hP hD hS hA hK [0] [1, 2, 3, 4, 5, 6, 7, 8, 9, 10, 11, 12] rfl rfl (by decide) rfl (by decide) (by decide) 0 rfl rfl rfl rfl hl.1 rfl (Nat.le_of_ble_eq_true rfl) dX6_row_51 ⟨Nat.zero_le _, Nat.zero_le _⟩ (fun r9 u10 H locs hr9 hP hD hS => ?_)
          obtain ⟨rfl, rfl⟩ := hr9
          have hP := hP.sub (ws' := ([(r0, .inr (4, [.ref rl, .ref rz, .ref ri])), (rl, .inl (cy 0, 8, .inl (upd fl k (nI la)))), (rz, .inl (cy 0, 8, .inl (upd fz k (nI m)))), (ri, .inl (cy 3, 8, .inr (.inr (.inr (.inr gI))))), (x0, .inr (6, [.ref r0, .ref t0, .ref q, .ref s0, .ref k0, .ref h, .ref j0, .ref im, .int (nI 0)]))] ++ (famI cy 8 40 gR (fun j => if j = k then g else it j) ++ []))) [0, 1, 2, 3, 12, 4, 5, 6, 7, 8, 9, 10, 11] rfl
          have hD := hD.sub (ws' := ([(r0, .inr (4, [.ref rl, .ref rz, .ref ri])), (rl, .inl (cy 0, 8, .inl (upd fl k (nI la)))), (rz, .inl (cy 0, 8, .inl (upd fz k (nI m)))), (ri, .inl (cy 3, 8, .inr (.inr (.inr (.inr gI))))), (x0, .inr (6, [.ref r0, .ref t0, .ref q, .ref s0, .ref k0, .ref h, .ref j0, .ref im, .int (nI 0)]))] ++ (famI cy 8 40 gR (fun j => if j = k then g else it j) ++ []))) [0, 1, 2, 3, 12, 4, 5, 6, 7, 8, 9, 10, 11] (by decide) rfl
          have hP9 := hP.sub (ws' := ([(x0, .inr (6, [.ref r0, .ref t0, .ref q, .ref s0, .ref k0, .ref h, .ref j0, .ref im, .int (nI 0)])), (r0, .inr (4, [.ref rl, .ref rz, .ref ri])), (rl, .inl (cy 0, 8, .inl (upd fl k (nI la)))), (rz, .inl (cy 0, 8, .inl (upd fz k (nI m)))), (ri, .inl (cy 3, 8, .inr (.inr (.inr (.inr gI)))))] ++ (famI cy 8 40 gR (fun j => if j = k then g else it j) ++ []))) [4, 0, 1, 2, 3, 5, 6, 7, 8, 9, 10, 11, 12] rfl
          have hD9 := hD.sub (ws' := ([(x0, .inr (6, [.ref r0, .ref t0, .ref q, .ref s0, .ref k0, .ref h, .ref j0, .ref im, .int (nI 0)])), (r0, .inr (4, [.ref rl, .ref rz, .ref ri])), (rl, .inl (cy 0, 8, .inl (upd fl k (nI la)))), (rz, .inl (cy 0, 8, .inl (upd fz k (nI m)))), (ri, .inl (cy 3, 8, .inr (.inr (.inr (.inr gI)))))] ++ (famI cy 8 40 gR (fun j => if j = k then g else it j) ++ []))) [4, 0, 1, 2, 3, 5, 6, 7, 8, 9, 10, 11, 12] (by decide) rfl
          exact q_wiret (v := nI m) hx hb hr hlocks dX6_row_54 hP9 hD9 hS (⟨_, _, _, _, _, _, _, by simp only [oRow, q_cl (by omega : k < 2147483648), q_cl (by omega : la < 2147483648), q_cl (by omega : m < 2147483648), if_pos b2, if_pos b4, if_pos c5, if_pos c6], rwI_row hrwI (by omega) (by omega) (by omega) hg, rfl⟩)
        · refine lv_aload_n hx hb dX6_row_33 rfl (lv_at hl 0 rfl) ?_
          refine lv_iconst (v := nI 4) hx hb dX6_row_34 (by decide) ?_
          refine q_wiV (As := [.int (nI 4)]) (rest := []) (wr := ([(r0, .inr (4, [.ref rl, .ref rz, .ref ri])), (rl, .inl (cy 0, 8, .inl fl)), (rz, .inl (cy 0, 8, .inl fz)), (ri, .inl (cy 3, 8, .inr (.inr (.inr (.inr gI)))))] ++ (famI cy 8 40 gR it ++ []))) ⟨hx, hb, hml, hown, hts⟩ (c_X6_found l D cy x0 r0 t0 q s0 k0 h j0 im st (nI 4)) (cwV 1 hts gX6_row_X6_found rfl rfl rfl (by decide +kernel) ⟨Nat.le_of_ble_eq_true rfl, Nat.le_of_ble_eq_true rfl⟩) hP hD hS hA hK [0] [1, 2, 3, 4, 5, 6, 7, 8, 9, 10, 11, 12] rfl rfl (by decide) rfl (by decide) (by decide) 0 rfl rfl rfl rfl hl.1 rfl (Nat.le_of_ble_eq_true rfl) dX6_row_35 ⟨Nat.zero_le _, Nat.zero_le _⟩ (fun r11 u12 H locs hr11 hP hD hS => ?_)
          obtain ⟨rfl, rfl⟩ := hr11
          have hP := hP.sub (ws' := ([(r0, .inr (4, [.ref rl, .ref rz, .ref ri])), (rl, .inl (cy 0, 8, .inl fl)), (rz, .inl (cy 0, 8, .inl fz)), (ri, .inl (cy 3, 8, .inr (.inr (.inr (.inr gI))))), (x0, .inr (6, [.ref r0, .ref t0, .ref q, .ref s0, .ref k0, .ref h, .ref j0, .ref im, .int (nI 4)]))] ++ (famI cy 8 40 gR it ++ []))) [0, 1, 2, 3, 12, 4, 5, 6, 7, 8, 9, 10, 11] rfl
          have hD := hD.sub (ws' := ([(r0, .inr (4, [.ref rl, .ref rz, .ref ri])), (rl, .inl (cy 0, 8, .inl fl)), (rz, .inl (cy 0, 8, .inl fz)), (ri, .inl (cy 3, 8, .inr (.inr (.inr (.inr gI))))), (x0, .inr (6, [.ref r0, .ref t0, .ref q, .ref s0, .ref k0, .ref h, .ref j0, .ref im, .int (nI 4)]))] ++ (famI cy 8 40 gR it ++ []))) [0, 1, 2, 3, 12, 4, 5, 6, 7, 8, 9, 10, 11] (by decide) rfl
          refine q_top (y := (-1000014)) (by decide) ?_
          have hP9 := hP.sub (ws' := ([(x0, .inr (6, [.ref r0, .ref t0, .ref q, .ref s0, .ref k0, .ref h, .ref j0, .ref im, .int (nI 4)])), (r0, .inr (4, [.ref rl, .ref rz, .ref ri])), (rl, .inl (cy 0, 8, .inl fl)), (rz, .inl (cy 0, 8, .inl fz)), (ri, .inl (cy 3, 8, .inr (.inr (.inr (.inr gI)))))] ++ (famI cy 8 40 gR it ++ []))) [4, 0, 1, 2, 3, 5, 6, 7, 8, 9, 10, 11, 12] rfl
          have hD9 := hD.sub (ws' := ([(x0, .inr (6, [.ref r0, .ref t0, .ref q, .ref s0, .ref k0, .ref h, .ref j0, .ref im, .int (nI 4)])), (r0, .inr (4, [.ref rl, .ref rz, .ref ri])), (rl, .inl (cy 0, 8, .inl fl)), (rz, .inl (cy 0, 8, .inl fz)), (ri, .inl (cy 3, 8, .inr (.inr (.inr (.inr gI)))))] ++ (famI cy 8 40 gR it ++ []))) [4, 0, 1, 2, 3, 5, 6, 7, 8, 9, 10, 11, 12] (by decide) rfl
          exact q_wiret (v := (-1000014)) hx hb hr hlocks dX6_row_38 hP9 hD9 hS (⟨_, _, _, _, _, _, _, by simp only [oRow, if_pos b2, if_pos b4, if_pos c5, if_neg c6], hrwI, rfl⟩)
      · refine lv_ldc (v := (-1000001)) hx hb hown (hts _ mX6_row_2) dX6_row_26 ?_
        have hP9 := hP
        have hD9 := hD
        exact q_wiret (v := (-1000001)) hx hb hr hlocks dX6_row_28 hP9 hD9 hS (⟨_, _, _, _, _, _, _, by simp only [oRow, if_pos b2, if_pos b4, if_neg c5], hrwI, rfl⟩)
    · have _ := b4
      refine lv_if_eq (tgt := 26) hx hb dX6_row_17 (by decide) (fun _ => ?_) (fun c9 => absurd (by decide) c9)
      refine lv_ldc (v := (-1000001)) hx hb hown (hts _ mX6_row_2) dX6_row_26 ?_
      have hP9 := hP
      have hD9 := hD
      exact q_wiret (v := (-1000001)) hx hb hr hlocks dX6_row_28 hP9 hD9 hS (⟨_, _, _, _, _, _, _, by simp only [oRow, if_pos b2, if_neg b4], hrwI, rfl⟩)
  · replace b2 := fun q => b2 ((isR_i x).mpr q)
    refine lv_if_eq (tgt := 26) hx hb dX6_row_8 (by decide) (fun _ => ?_) (fun c9 => absurd (by decide) c9)
    refine lv_ldc (v := (-1000001)) hx hb hown (hts _ mX6_row_2) dX6_row_26 ?_
    have hP9 := hP
    have hD9 := hD
    exact q_wiret (v := (-1000001)) hx hb hr hlocks dX6_row_28 hP9 hD9 hS (⟨_, _, _, _, _, _, _, by simp only [oRow, if_neg b2], hrwI, rfl⟩)
theorem nX6_set_0 : ∀ w ∈ wsX60, w ∈ wsX6_set := by decide +kernel
theorem mX6_set_1 : Cond.fieldLink RX6 10 "ClueLeave" "rows" "LClueLeave$Rows;" ∈ wsX6_set := by decide +kernel
theorem mX6_set_2 : Cond.constant RX6 66 (-1000001) ∈ wsX6_set := by decide +kernel
set_option maxHeartbeats 4000000 in
set_option maxRecDepth 100000 in
theorem c_X6_set (l : Launch) (D : va_G) (cy : Nat → ClassId) (x0 t0 q s0 k0 h j0 im : Nat) (st : Int32) (r0 rl rz ri : Nat) (gI : Nat → Option Nat) (gR : Nat → Nat) (hgI : ∀ r, r < 8 → gI r = some (gR r)) (fl fz : Nat → Int32) (it : Nat → Nat → Int32) (ln sz : Nat → Nat) (itS : Nat → Nat → Int32) (hrwI : rwI ln sz itS fl fz it) (x i v : Int32) : q_Wi l yX6_set wsX6_set 3 D cy ([(x0, .inr (6, [.ref r0, .ref t0, .ref q, .ref s0, .ref k0, .ref h, .ref j0, .ref im, .int (st)])), (r0, .inr (4, [.ref rl, .ref rz, .ref ri])), (rl, .inl (cy 0, 8, .inl fl)), (rz, .inl (cy 0, 8, .inl fz)), (ri, .inl (cy 3, 8, .inr (.inr (.inr (.inr gI)))))] ++ (famI cy 8 40 gR it ++ [])) [.ref x0, .int (x), .int (i), .int (v)] (fun r u => ∃ (st2 : Int32) (ln2 sz2 : Nat → Nat) (itS2 : Nat → Nat → Int32) (fl2 fz2 : Nat → Int32) (it2 : Nat → Nat → Int32), oSet ln sz itS st x i v = (r, st2, ln2, sz2, itS2) ∧ rwI ln2 sz2 itS2 fl2 fz2 it2 ∧ u = ([(x0, .inr (6, [.ref r0, .ref t0, .ref q, .ref s0, .ref k0, .ref h, .ref j0, .ref im, .int (st2)])), (r0, .inr (4, [.ref rl, .ref rz, .ref ri])), (rl, .inl (cy 0, 8, .inl fl2)), (rz, .inl (cy 0, 8, .inl fz2)), (ri, .inl (cy 3, 8, .inr (.inr (.inr (.inr gI)))))] ++ (famI cy 8 40 gR it2 ++ []))) := by
  refine q_wi_of (cc := cX6_set) (maxL := 4) (ret := (some .int)) (by decide) rfl (Nat.le_of_ble_eq_true rfl) ?_
  intro pg en s mi args below meth cd A hC hA hK H locs hP hD hS ls hl
  obtain ⟨hx, hb, hr, hml, hown, hts, hlocks⟩ := hC
  have hl : lv_has ls 4 [(0, .ref x0), (1, .int (x)), (2, .int (i)), (3, .int (v))] := hl
  have hrw := hrwI.1
  have hit := hrwI.2
  refine lv_aload_n hx hb dX6_set_0 rfl (lv_at hl 0 rfl) ?_
  refine va_get (D := D) (ci := 6) (v := .ref r0) (C := RX6) (T := TX6) (N := 9) hx hb hts nX6_set_0 hown hK.1 hP 0 rfl rfl 0 (by decide) (hts _ mX6_set_1) (fun _ h9 => h9) rfl dX6_set_1 ?_
  refine lv_iload_n hx hb dX6_set_4 rfl (lv_at hl 1 rfl) ?_
  refine q_rV (As := [.int (x)]) (rest := []) ⟨hx, hb, hml, hown, hts⟩ (c_X4_isRow l D cy r0 rl rz ri gI gR hgI fl fz it ln sz hrw x) (cwV 1 hts gX6_set_X4_isRow rfl rfl rfl (by decide +kernel) ⟨Nat.le_of_ble_eq_true rfl, Nat.le_of_ble_eq_true rfl⟩) hP hK [1, 2, 3, 4, 5, 6, 7, 8, 9, 10, 11, 12] rfl 1 rfl rfl rfl rfl hl.1 rfl (Nat.le_of_ble_eq_true rfl) dX6_set_5 ⟨Nat.zero_le _, Nat.zero_le _⟩ (fun r1 hr1 => ?_)
  rcases hr1 with ⟨rfl, b2⟩ | ⟨rfl, b2⟩
  · replace b2 := (isR_i x).mp b2
    refine lv_if_ne (tgt := 14) hx hb dX6_set_8 (by decide) (fun _ => ?_) (fun c9 => absurd c9 (by decide))
    obtain ⟨k, -, hk, rfl⟩ := q_rng b2 (by decide) (by decide)
    obtain ⟨-, -, hz40, hl3⟩ := hrw k (by omega)
    refine lv_aload_n hx hb dX6_set_14 rfl (lv_at hl 0 rfl) ?_
    refine va_get (D := D) (ci := 6) (v := .ref r0) (C := RX6) (T := TX6) (N := 9) hx hb hts nX6_set_0 hown hK.1 hP 0 rfl rfl 0 (by decide) (hts _ mX6_set_1) (fun _ h9 => h9) rfl dX6_set_15 ?_
    refine lv_iload_n hx hb dX6_set_18 rfl (lv_at hl 1 rfl) ?_
    refine q_rV (As := [.int (nI k)]) (rest := []) ⟨hx, hb, hml, hown, hts⟩ (c_X4_isMissing l D cy r0 rl rz ri gI gR hgI fl fz it ln sz hrw k (by omega)) (cwV 1 hts gX6_set_X4_isMissing rfl rfl rfl (by decide +kernel) ⟨Nat.le_of_ble_eq_true rfl, Nat.le_of_ble_eq_true rfl⟩) hP hK [1, 2, 3, 4, 5, 6, 7, 8, 9, 10, 11, 12] rfl 1 rfl rfl rfl rfl hl.1 rfl (Nat.le_of_ble_eq_true rfl) dX6_set_19 ⟨Nat.zero_le _, Nat.zero_le _⟩ (fun r3 hr3 => ?_)
    rcases hr3 with ⟨rfl, b4⟩ | ⟨rfl, b4⟩
    · have _ := b4
      refine lv_if_eq (tgt := 31) hx hb dX6_set_22 (by decide) (fun c9 => absurd c9 (by decide)) (fun _ => ?_)
      refine lv_aload_n hx hb dX6_set_25 rfl (lv_at hl 0 rfl) ?_
      refine lv_iconst (v := nI 1) hx hb dX6_set_26 (by decide) ?_
      refine q_wiV (As := [.int (nI 1)]) (rest := []) (wr := ([(r0, .inr (4, [.ref rl, .ref rz, .ref ri])), (rl, .inl (cy 0, 8, .inl fl)), (rz, .inl (cy 0, 8, .inl fz)), (ri, .inl (cy 3, 8, .inr (.inr (.inr (.inr gI)))))] ++ (famI cy 8 40 gR it ++ []))) ⟨hx, hb, hml, hown, hts⟩ (c_X6_found l D cy x0 r0 t0 q s0 k0 h j0 im st (nI 1)) (cwV 1 hts gX6_set_X6_found rfl rfl rfl (by decide +kernel) ⟨Nat.le_of_ble_eq_true rfl, Nat.le_of_ble_eq_true rfl⟩) hP hD hS hA hK [0] [1, 2, 3, 4, 5, 6, 7, 8, 9, 10, 11, 12] rfl rfl (by decide) rfl (by decide) (by decide) 0 rfl rfl rfl rfl hl.1 rfl (Nat.le_of_ble_eq_true rfl) dX6_set_27 ⟨Nat.zero_le _, Nat.zero_le _⟩ (fun r5 u6 H locs hr5 hP hD hS => ?_)
      obtain ⟨rfl, rfl⟩ := hr5
      have hP := hP.sub (ws' := ([(r0, .inr (4, [.ref rl, .ref rz, .ref ri])), (rl, .inl (cy 0, 8, .inl fl)), (rz, .inl (cy 0, 8, .inl fz)), (ri, .inl (cy 3, 8, .inr (.inr (.inr (.inr gI))))), (x0, .inr (6, [.ref r0, .ref t0, .ref q, .ref s0, .ref k0, .ref h, .ref j0, .ref im, .int (nI 1)]))] ++ (famI cy 8 40 gR it ++ []))) [0, 1, 2, 3, 12, 4, 5, 6, 7, 8, 9, 10, 11] rfl
      have hD := hD.sub (ws' := ([(r0, .inr (4, [.ref rl, .ref rz, .ref ri])), (rl, .inl (cy 0, 8, .inl fl)), (rz, .inl (cy 0, 8, .inl fz)), (ri, .inl (cy 3, 8, .inr (.inr (.inr (.inr gI))))), (x0, .inr (6, [.ref r0, .ref t0, .ref q, .ref s0, .ref k0, .ref h, .ref j0, .ref im, .int (nI 1)]))] ++ (famI cy 8 40 gR it ++ []))) [0, 1, 2, 3, 12, 4, 5, 6, 7, 8, 9, 10, 11] (by decide) rfl
      refine q_top (y := (-1000011)) (by decide) ?_
      have hP9 := hP.sub (ws' := ([(x0, .inr (6, [.ref r0, .ref t0, .ref q, .ref s0, .ref k0, .ref h, .ref j0, .ref im, .int (nI 1)])), (r0, .inr (4, [.ref rl, .ref rz, .ref ri])), (rl, .inl (cy 0, 8, .inl fl)), (rz, .inl (cy 0, 8, .inl fz)), (ri, .inl (cy 3, 8, .inr (.inr (.inr (.inr gI)))))] ++ (famI cy 8 40 gR it ++ []))) [4, 0, 1, 2, 3, 5, 6, 7, 8, 9, 10, 11, 12] rfl
      have hD9 := hD.sub (ws' := ([(x0, .inr (6, [.ref r0, .ref t0, .ref q, .ref s0, .ref k0, .ref h, .ref j0, .ref im, .int (nI 1)])), (r0, .inr (4, [.ref rl, .ref rz, .ref ri])), (rl, .inl (cy 0, 8, .inl fl)), (rz, .inl (cy 0, 8, .inl fz)), (ri, .inl (cy 3, 8, .inr (.inr (.inr (.inr gI)))))] ++ (famI cy 8 40 gR it ++ []))) [4, 0, 1, 2, 3, 5, 6, 7, 8, 9, 10, 11, 12] (by decide) rfl
      exact q_wiret (v := (-1000011)) hx hb hr hlocks dX6_set_30 hP9 hD9 hS (⟨_, _, _, _, _, _, _, by simp only [oSet, q_cl (by omega : k < 2147483648), if_pos b2, if_pos b4], hrwI, rfl⟩)
    · have _ := b4
      refine lv_if_eq (tgt := 31) hx hb dX6_set_22 (by decide) (fun _ => ?_) (fun c9 => absurd (by decide) c9)
      refine lv_aload_n hx hb dX6_set_31 rfl (lv_at hl 0 rfl) ?_
      refine va_get (D := D) (ci := 6) (v := .ref r0) (C := RX6) (T := TX6) (N := 9) hx hb hts nX6_set_0 hown hK.1 hP 0 rfl rfl 0 (by decide) (hts _ mX6_set_1) (fun _ h9 => h9) rfl dX6_set_32 ?_
      refine lv_iload_n hx hb dX6_set_35 rfl (lv_at hl 1 rfl) ?_
      refine lv_iload_n hx hb dX6_set_36 rfl (lv_at hl 2 rfl) ?_
      refine lv_iconst (v := nI 1) hx hb dX6_set_37 (by decide) ?_
      refine q_rV (As := [.int (nI k), .int (i), .int (nI 1)]) (rest := []) ⟨hx, hb, hml, hown, hts⟩ (c_X4_hasPlaces l D cy r0 rl rz ri gI gR hgI fl fz it ln sz hrw k (by omega) i (nI 1)) (cwV 3 hts gX6_set_X4_hasPlaces rfl rfl rfl (by decide +kernel) ⟨Nat.le_of_ble_eq_true rfl, Nat.le_of_ble_eq_true rfl⟩) hP hK [1, 2, 3, 4, 5, 6, 7, 8, 9, 10, 11, 12] rfl 1 rfl rfl rfl rfl hl.1 rfl (Nat.le_of_ble_eq_true rfl) dX6_set_38 ⟨Nat.zero_le _, Nat.zero_le _⟩ (fun r7 hr7 => ?_)
      rcases hr7 with ⟨rfl, b8⟩ | ⟨rfl, b8⟩
      · replace b8 := (rwB_i).mp b8
        refine lv_if_ne (tgt := 50) hx hb dX6_set_41 (by decide) (fun _ => ?_) (fun c9 => absurd c9 (by decide))
        obtain ⟨j, hj, rfl⟩ := rwB_1 b8
        refine lv_aload_n hx hb dX6_set_50 rfl (lv_at hl 0 rfl) ?_
        refine lv_aload_n hx hb dX6_set_51 rfl (lv_at hl 0 rfl) ?_
        refine va_get (D := D) (ci := 6) (v := .ref r0) (C := RX6) (T := TX6) (N := 9) hx hb hts nX6_set_0 hown hK.1 hP 0 rfl rfl 0 (by decide) (hts _ mX6_set_1) (fun _ h9 => h9) rfl dX6_set_52 ?_
        refine lv_iload_n hx hb dX6_set_55 rfl (lv_at hl 1 rfl) ?_
        refine lv_iload_n hx hb dX6_set_56 rfl (lv_at hl 2 rfl) ?_
        refine lv_iload_n hx hb dX6_set_57 rfl (lv_at hl 3 rfl) ?_
        refine q_wiV (As := [.int (nI k), .int (nI j), .int (v)]) (rest := [.ref x0]) (wr := [(x0, .inr (6, [.ref r0, .ref t0, .ref q, .ref s0, .ref k0, .ref h, .ref j0, .ref im, .int (st)]))]) ⟨hx, hb, hml, hown, hts⟩ (c_X4_put l D cy r0 rl rz ri gI gR hgI fl fz it ln sz hrw k j (by omega) (by omega) v (by omega)) (cwV 3 hts gX6_set_X4_put rfl rfl rfl (by decide +kernel) ⟨Nat.le_of_ble_eq_true rfl, Nat.le_of_ble_eq_true rfl⟩) hP hD hS hA hK [1, 2, 3, 4, 5, 6, 7, 8, 9, 10, 11, 12] [0] rfl rfl (by decide) rfl (by decide) (by decide) 1 rfl rfl rfl rfl hl.1 rfl (Nat.le_of_ble_eq_true rfl) dX6_set_58 ⟨Nat.zero_le _, Nat.zero_le _⟩ (fun r9 u10 H locs hr9 hP hD hS => ?_)
        obtain ⟨rfl, rfl⟩ := hr9
        have hP : va_P D vwCl ([(x0, .inr (6, [.ref r0, .ref t0, .ref q, .ref s0, .ref k0, .ref h, .ref j0, .ref im, .int (st)])), (r0, .inr (4, [.ref rl, .ref rz, .ref ri])), (rl, .inl (cy 0, 8, .inl fl)), (rz, .inl (cy 0, 8, .inl fz)), (ri, .inl (cy 3, 8, .inr (.inr (.inr (.inr gI)))))] ++ (famI cy 8 40 gR (fun i => if i = k then upd (it k) j (lowB (ln k) v) else it i) ++ [])) H := hP
        have hD : va_D A ([(x0, .inr (6, [.ref r0, .ref t0, .ref q, .ref s0, .ref k0, .ref h, .ref j0, .ref im, .int (st)])), (r0, .inr (4, [.ref rl, .ref rz, .ref ri])), (rl, .inl (cy 0, 8, .inl fl)), (rz, .inl (cy 0, 8, .inl fz)), (ri, .inl (cy 3, 8, .inr (.inr (.inr (.inr gI)))))] ++ (famI cy 8 40 gR (fun i => if i = k then upd (it k) j (lowB (ln k) v) else it i) ++ [])) := hD
        refine q_wiV (As := [.int (lowB (ln k) v)]) (rest := []) (wr := ([(r0, .inr (4, [.ref rl, .ref rz, .ref ri])), (rl, .inl (cy 0, 8, .inl fl)), (rz, .inl (cy 0, 8, .inl fz)), (ri, .inl (cy 3, 8, .inr (.inr (.inr (.inr gI)))))] ++ (famI cy 8 40 gR (fun i => if i = k then upd (it k) j (lowB (ln k) v) else it i) ++ []))) ⟨hx, hb, hml, hown, hts⟩ (c_X6_sound l D cy x0 r0 t0 q s0 k0 h j0 im st (lowB (ln k) v)) (cwV 1 hts gX6_set_X6_sound rfl rfl rfl (by decide +kernel) ⟨Nat.le_of_ble_eq_true rfl, Nat.le_of_ble_eq_true rfl⟩) hP hD hS hA hK [0] [1, 2, 3, 4, 5, 6, 7, 8, 9, 10, 11, 12] rfl rfl (by decide) rfl (by decide) (by decide) 0 rfl rfl rfl rfl hl.1 rfl (Nat.le_of_ble_eq_true rfl) dX6_set_61 ⟨Nat.zero_le _, Nat.zero_le _⟩ (fun r11 u12 H locs hr11 hP hD hS => ?_)
        obtain ⟨rfl, rfl⟩ := hr11
        have hP := hP.sub (ws' := ([(r0, .inr (4, [.ref rl, .ref rz, .ref ri])), (rl, .inl (cy 0, 8, .inl fl)), (rz, .inl (cy 0, 8, .inl fz)), (ri, .inl (cy 3, 8, .inr (.inr (.inr (.inr gI))))), (x0, .inr (6, [.ref r0, .ref t0, .ref q, .ref s0, .ref k0, .ref h, .ref j0, .ref im, .int (nI 0)]))] ++ (famI cy 8 40 gR (fun i => if i = k then upd (it k) j (lowB (ln k) v) else it i) ++ []))) [0, 1, 2, 3, 12, 4, 5, 6, 7, 8, 9, 10, 11] rfl
        have hD := hD.sub (ws' := ([(r0, .inr (4, [.ref rl, .ref rz, .ref ri])), (rl, .inl (cy 0, 8, .inl fl)), (rz, .inl (cy 0, 8, .inl fz)), (ri, .inl (cy 3, 8, .inr (.inr (.inr (.inr gI))))), (x0, .inr (6, [.ref r0, .ref t0, .ref q, .ref s0, .ref k0, .ref h, .ref j0, .ref im, .int (nI 0)]))] ++ (famI cy 8 40 gR (fun i => if i = k then upd (it k) j (lowB (ln k) v) else it i) ++ []))) [0, 1, 2, 3, 12, 4, 5, 6, 7, 8, 9, 10, 11] (by decide) rfl
        have hP9 := hP.sub (ws' := ([(x0, .inr (6, [.ref r0, .ref t0, .ref q, .ref s0, .ref k0, .ref h, .ref j0, .ref im, .int (nI 0)])), (r0, .inr (4, [.ref rl, .ref rz, .ref ri])), (rl, .inl (cy 0, 8, .inl fl)), (rz, .inl (cy 0, 8, .inl fz)), (ri, .inl (cy 3, 8, .inr (.inr (.inr (.inr gI)))))] ++ (famI cy 8 40 gR (fun i => if i = k then upd (it k) j (lowB (ln k) v) else it i) ++ []))) [4, 0, 1, 2, 3, 5, 6, 7, 8, 9, 10, 11, 12] rfl
        have hD9 := hD.sub (ws' := ([(x0, .inr (6, [.ref r0, .ref t0, .ref q, .ref s0, .ref k0, .ref h, .ref j0, .ref im, .int (nI 0)])), (r0, .inr (4, [.ref rl, .ref rz, .ref ri])), (rl, .inl (cy 0, 8, .inl fl)), (rz, .inl (cy 0, 8, .inl fz)), (ri, .inl (cy 3, 8, .inr (.inr (.inr (.inr gI)))))] ++ (famI cy 8 40 gR (fun i => if i = k then upd (it k) j (lowB (ln k) v) else it i) ++ []))) [4, 0, 1, 2, 3, 5, 6, 7, 8, 9, 10, 11, 12] (by decide) rfl
        exact q_wiret (v := lowB (ln k) v) hx hb hr hlocks dX6_set_64 hP9 hD9 hS (⟨_, _, _, _, _, _, _, by simp only [oSet, q_cl (by omega : k < 2147483648), q_cl (by omega : j < 2147483648), if_pos b2, if_neg b4, if_pos b8], rwI_set hrwI (by omega) (by omega), rfl⟩)
      · replace b8 := fun q => b8 ((rwB_i).mpr q)
        refine lv_if_ne (tgt := 50) hx hb dX6_set_41 (by decide) (fun c9 => absurd (by decide) c9) (fun _ => ?_)
        refine lv_aload_n hx hb dX6_set_44 rfl (lv_at hl 0 rfl) ?_
        refine lv_iconst (v := nI 2) hx hb dX6_set_45 (by decide) ?_
        refine q_wiV (As := [.int (nI 2)]) (rest := []) (wr := ([(r0, .inr (4, [.ref rl, .ref rz, .ref ri])), (rl, .inl (cy 0, 8, .inl fl)), (rz, .inl (cy 0, 8, .inl fz)), (ri, .inl (cy 3, 8, .inr (.inr (.inr (.inr gI)))))] ++ (famI cy 8 40 gR it ++ []))) ⟨hx, hb, hml, hown, hts⟩ (c_X6_found l D cy x0 r0 t0 q s0 k0 h j0 im st (nI 2)) (cwV 1 hts gX6_set_X6_found rfl rfl rfl (by decide +kernel) ⟨Nat.le_of_ble_eq_true rfl, Nat.le_of_ble_eq_true rfl⟩) hP hD hS hA hK [0] [1, 2, 3, 4, 5, 6, 7, 8, 9, 10, 11, 12] rfl rfl (by decide) rfl (by decide) (by decide) 0 rfl rfl rfl rfl hl.1 rfl (Nat.le_of_ble_eq_true rfl) dX6_set_46 ⟨Nat.zero_le _, Nat.zero_le _⟩ (fun r13 u14 H locs hr13 hP hD hS => ?_)
        obtain ⟨rfl, rfl⟩ := hr13
        have hP := hP.sub (ws' := ([(r0, .inr (4, [.ref rl, .ref rz, .ref ri])), (rl, .inl (cy 0, 8, .inl fl)), (rz, .inl (cy 0, 8, .inl fz)), (ri, .inl (cy 3, 8, .inr (.inr (.inr (.inr gI))))), (x0, .inr (6, [.ref r0, .ref t0, .ref q, .ref s0, .ref k0, .ref h, .ref j0, .ref im, .int (nI 2)]))] ++ (famI cy 8 40 gR it ++ []))) [0, 1, 2, 3, 12, 4, 5, 6, 7, 8, 9, 10, 11] rfl
        have hD := hD.sub (ws' := ([(r0, .inr (4, [.ref rl, .ref rz, .ref ri])), (rl, .inl (cy 0, 8, .inl fl)), (rz, .inl (cy 0, 8, .inl fz)), (ri, .inl (cy 3, 8, .inr (.inr (.inr (.inr gI))))), (x0, .inr (6, [.ref r0, .ref t0, .ref q, .ref s0, .ref k0, .ref h, .ref j0, .ref im, .int (nI 2)]))] ++ (famI cy 8 40 gR it ++ []))) [0, 1, 2, 3, 12, 4, 5, 6, 7, 8, 9, 10, 11] (by decide) rfl
        refine q_top (y := (-1000012)) (by decide) ?_
        have hP9 := hP.sub (ws' := ([(x0, .inr (6, [.ref r0, .ref t0, .ref q, .ref s0, .ref k0, .ref h, .ref j0, .ref im, .int (nI 2)])), (r0, .inr (4, [.ref rl, .ref rz, .ref ri])), (rl, .inl (cy 0, 8, .inl fl)), (rz, .inl (cy 0, 8, .inl fz)), (ri, .inl (cy 3, 8, .inr (.inr (.inr (.inr gI)))))] ++ (famI cy 8 40 gR it ++ []))) [4, 0, 1, 2, 3, 5, 6, 7, 8, 9, 10, 11, 12] rfl
        have hD9 := hD.sub (ws' := ([(x0, .inr (6, [.ref r0, .ref t0, .ref q, .ref s0, .ref k0, .ref h, .ref j0, .ref im, .int (nI 2)])), (r0, .inr (4, [.ref rl, .ref rz, .ref ri])), (rl, .inl (cy 0, 8, .inl fl)), (rz, .inl (cy 0, 8, .inl fz)), (ri, .inl (cy 3, 8, .inr (.inr (.inr (.inr gI)))))] ++ (famI cy 8 40 gR it ++ []))) [4, 0, 1, 2, 3, 5, 6, 7, 8, 9, 10, 11, 12] (by decide) rfl
        exact q_wiret (v := (-1000012)) hx hb hr hlocks dX6_set_49 hP9 hD9 hS (⟨_, _, _, _, _, _, _, by simp only [oSet, q_cl (by omega : k < 2147483648), if_pos b2, if_neg b4, if_neg b8], hrwI, rfl⟩)
  · replace b2 := fun q => b2 ((isR_i x).mpr q)
    refine lv_if_ne (tgt := 14) hx hb dX6_set_8 (by decide) (fun c9 => absurd (by decide) c9) (fun _ => ?_)
    refine lv_ldc (v := (-1000001)) hx hb hown (hts _ mX6_set_2) dX6_set_11 ?_
    have hP9 := hP
    have hD9 := hD
    exact q_wiret (v := (-1000001)) hx hb hr hlocks dX6_set_13 hP9 hD9 hS (⟨_, _, _, _, _, _, _, by simp only [oSet, if_neg b2], hrwI, rfl⟩)
theorem nX6_drop_0 : ∀ w ∈ wsX60, w ∈ wsX6_drop := by decide +kernel
theorem mX6_drop_1 : Cond.fieldLink RX6 10 "ClueLeave" "rows" "LClueLeave$Rows;" ∈ wsX6_drop := by decide +kernel
theorem mX6_drop_2 : Cond.constant RX6 66 (-1000001) ∈ wsX6_drop := by decide +kernel
set_option maxHeartbeats 4000000 in
set_option maxRecDepth 100000 in
theorem c_X6_drop (l : Launch) (D : va_G) (cy : Nat → ClassId) (x0 t0 q s0 k0 h j0 im : Nat) (st : Int32) (r0 rl rz ri : Nat) (gI : Nat → Option Nat) (gR : Nat → Nat) (hgI : ∀ r, r < 8 → gI r = some (gR r)) (fl fz : Nat → Int32) (it : Nat → Nat → Int32) (ln sz : Nat → Nat) (itS : Nat → Nat → Int32) (hrwI : rwI ln sz itS fl fz it) (x : Int32) : q_Wi l yX6_drop wsX6_drop 3 D cy ([(x0, .inr (6, [.ref r0, .ref t0, .ref q, .ref s0, .ref k0, .ref h, .ref j0, .ref im, .int (st)])), (r0, .inr (4, [.ref rl, .ref rz, .ref ri])), (rl, .inl (cy 0, 8, .inl fl)), (rz, .inl (cy 0, 8, .inl fz)), (ri, .inl (cy 3, 8, .inr (.inr (.inr (.inr gI)))))] ++ (famI cy 8 40 gR it ++ [])) [.ref x0, .int (x)] (fun r u => ∃ (st2 : Int32) (ln2 sz2 : Nat → Nat) (itS2 : Nat → Nat → Int32) (fl2 fz2 : Nat → Int32) (it2 : Nat → Nat → Int32), oDrop ln sz itS st x = (r, st2, ln2, sz2, itS2) ∧ rwI ln2 sz2 itS2 fl2 fz2 it2 ∧ u = ([(x0, .inr (6, [.ref r0, .ref t0, .ref q, .ref s0, .ref k0, .ref h, .ref j0, .ref im, .int (st2)])), (r0, .inr (4, [.ref rl, .ref rz, .ref ri])), (rl, .inl (cy 0, 8, .inl fl2)), (rz, .inl (cy 0, 8, .inl fz2)), (ri, .inl (cy 3, 8, .inr (.inr (.inr (.inr gI)))))] ++ (famI cy 8 40 gR it2 ++ []))) := by
  refine q_wi_of (cc := cX6_drop) (maxL := 2) (ret := (some .int)) (by decide) rfl (Nat.le_of_ble_eq_true rfl) ?_
  intro pg en s mi args below meth cd A hC hA hK H locs hP hD hS ls hl
  obtain ⟨hx, hb, hr, hml, hown, hts, hlocks⟩ := hC
  have hl : lv_has ls 2 [(0, .ref x0), (1, .int (x))] := hl
  have hrw := hrwI.1
  have hit := hrwI.2
  refine lv_aload_n hx hb dX6_drop_0 rfl (lv_at hl 0 rfl) ?_
  refine va_get (D := D) (ci := 6) (v := .ref r0) (C := RX6) (T := TX6) (N := 9) hx hb hts nX6_drop_0 hown hK.1 hP 0 rfl rfl 0 (by decide) (hts _ mX6_drop_1) (fun _ h9 => h9) rfl dX6_drop_1 ?_
  refine lv_iload_n hx hb dX6_drop_4 rfl (lv_at hl 1 rfl) ?_
  refine q_rV (As := [.int (x)]) (rest := []) ⟨hx, hb, hml, hown, hts⟩ (c_X4_isRow l D cy r0 rl rz ri gI gR hgI fl fz it ln sz hrw x) (cwV 1 hts gX6_drop_X4_isRow rfl rfl rfl (by decide +kernel) ⟨Nat.le_of_ble_eq_true rfl, Nat.le_of_ble_eq_true rfl⟩) hP hK [1, 2, 3, 4, 5, 6, 7, 8, 9, 10, 11, 12] rfl 1 rfl rfl rfl rfl hl.1 rfl (Nat.le_of_ble_eq_true rfl) dX6_drop_5 ⟨Nat.zero_le _, Nat.zero_le _⟩ (fun r1 hr1 => ?_)
  rcases hr1 with ⟨rfl, b2⟩ | ⟨rfl, b2⟩
  · replace b2 := (isR_i x).mp b2
    refine lv_if_ne (tgt := 14) hx hb dX6_drop_8 (by decide) (fun _ => ?_) (fun c9 => absurd c9 (by decide))
    obtain ⟨k, -, hk, rfl⟩ := q_rng b2 (by decide) (by decide)
    obtain ⟨-, -, hz40, hl3⟩ := hrw k (by omega)
    refine lv_aload_n hx hb dX6_drop_14 rfl (lv_at hl 0 rfl) ?_
    refine va_get (D := D) (ci := 6) (v := .ref r0) (C := RX6) (T := TX6) (N := 9) hx hb hts nX6_drop_0 hown hK.1 hP 0 rfl rfl 0 (by decide) (hts _ mX6_drop_1) (fun _ h9 => h9) rfl dX6_drop_15 ?_
    refine lv_iload_n hx hb dX6_drop_18 rfl (lv_at hl 1 rfl) ?_
    refine q_rV (As := [.int (nI k)]) (rest := []) ⟨hx, hb, hml, hown, hts⟩ (c_X4_isMissing l D cy r0 rl rz ri gI gR hgI fl fz it ln sz hrw k (by omega)) (cwV 1 hts gX6_drop_X4_isMissing rfl rfl rfl (by decide +kernel) ⟨Nat.le_of_ble_eq_true rfl, Nat.le_of_ble_eq_true rfl⟩) hP hK [1, 2, 3, 4, 5, 6, 7, 8, 9, 10, 11, 12] rfl 1 rfl rfl rfl rfl hl.1 rfl (Nat.le_of_ble_eq_true rfl) dX6_drop_19 ⟨Nat.zero_le _, Nat.zero_le _⟩ (fun r3 hr3 => ?_)
    rcases hr3 with ⟨rfl, b4⟩ | ⟨rfl, b4⟩
    · have _ := b4
      refine lv_if_eq (tgt := 31) hx hb dX6_drop_22 (by decide) (fun c9 => absurd c9 (by decide)) (fun _ => ?_)
      refine lv_aload_n hx hb dX6_drop_25 rfl (lv_at hl 0 rfl) ?_
      refine lv_iconst (v := nI 1) hx hb dX6_drop_26 (by decide) ?_
      refine q_wiV (As := [.int (nI 1)]) (rest := []) (wr := ([(r0, .inr (4, [.ref rl, .ref rz, .ref ri])), (rl, .inl (cy 0, 8, .inl fl)), (rz, .inl (cy 0, 8, .inl fz)), (ri, .inl (cy 3, 8, .inr (.inr (.inr (.inr gI)))))] ++ (famI cy 8 40 gR it ++ []))) ⟨hx, hb, hml, hown, hts⟩ (c_X6_found l D cy x0 r0 t0 q s0 k0 h j0 im st (nI 1)) (cwV 1 hts gX6_drop_X6_found rfl rfl rfl (by decide +kernel) ⟨Nat.le_of_ble_eq_true rfl, Nat.le_of_ble_eq_true rfl⟩) hP hD hS hA hK [0] [1, 2, 3, 4, 5, 6, 7, 8, 9, 10, 11, 12] rfl rfl (by decide) rfl (by decide) (by decide) 0 rfl rfl rfl rfl hl.1 rfl (Nat.le_of_ble_eq_true rfl) dX6_drop_27 ⟨Nat.zero_le _, Nat.zero_le _⟩ (fun r5 u6 H locs hr5 hP hD hS => ?_)
      obtain ⟨rfl, rfl⟩ := hr5
      have hP := hP.sub (ws' := ([(r0, .inr (4, [.ref rl, .ref rz, .ref ri])), (rl, .inl (cy 0, 8, .inl fl)), (rz, .inl (cy 0, 8, .inl fz)), (ri, .inl (cy 3, 8, .inr (.inr (.inr (.inr gI))))), (x0, .inr (6, [.ref r0, .ref t0, .ref q, .ref s0, .ref k0, .ref h, .ref j0, .ref im, .int (nI 1)]))] ++ (famI cy 8 40 gR it ++ []))) [0, 1, 2, 3, 12, 4, 5, 6, 7, 8, 9, 10, 11] rfl
      have hD := hD.sub (ws' := ([(r0, .inr (4, [.ref rl, .ref rz, .ref ri])), (rl, .inl (cy 0, 8, .inl fl)), (rz, .inl (cy 0, 8, .inl fz)), (ri, .inl (cy 3, 8, .inr (.inr (.inr (.inr gI))))), (x0, .inr (6, [.ref r0, .ref t0, .ref q, .ref s0, .ref k0, .ref h, .ref j0, .ref im, .int (nI 1)]))] ++ (famI cy 8 40 gR it ++ []))) [0, 1, 2, 3, 12, 4, 5, 6, 7, 8, 9, 10, 11] (by decide) rfl
      refine q_top (y := (-1000011)) (by decide) ?_
      have hP9 := hP.sub (ws' := ([(x0, .inr (6, [.ref r0, .ref t0, .ref q, .ref s0, .ref k0, .ref h, .ref j0, .ref im, .int (nI 1)])), (r0, .inr (4, [.ref rl, .ref rz, .ref ri])), (rl, .inl (cy 0, 8, .inl fl)), (rz, .inl (cy 0, 8, .inl fz)), (ri, .inl (cy 3, 8, .inr (.inr (.inr (.inr gI)))))] ++ (famI cy 8 40 gR it ++ []))) [4, 0, 1, 2, 3, 5, 6, 7, 8, 9, 10, 11, 12] rfl
      have hD9 := hD.sub (ws' := ([(x0, .inr (6, [.ref r0, .ref t0, .ref q, .ref s0, .ref k0, .ref h, .ref j0, .ref im, .int (nI 1)])), (r0, .inr (4, [.ref rl, .ref rz, .ref ri])), (rl, .inl (cy 0, 8, .inl fl)), (rz, .inl (cy 0, 8, .inl fz)), (ri, .inl (cy 3, 8, .inr (.inr (.inr (.inr gI)))))] ++ (famI cy 8 40 gR it ++ []))) [4, 0, 1, 2, 3, 5, 6, 7, 8, 9, 10, 11, 12] (by decide) rfl
      exact q_wiret (v := (-1000011)) hx hb hr hlocks dX6_drop_30 hP9 hD9 hS (⟨_, _, _, _, _, _, _, by simp only [oDrop, q_cl (by omega : k < 2147483648), if_pos b2, if_pos b4], hrwI, rfl⟩)
    · have _ := b4
      refine lv_if_eq (tgt := 31) hx hb dX6_drop_22 (by decide) (fun _ => ?_) (fun c9 => absurd (by decide) c9)
      refine lv_aload_n hx hb dX6_drop_31 rfl (lv_at hl 0 rfl) ?_
      refine lv_aload_n hx hb dX6_drop_32 rfl (lv_at hl 0 rfl) ?_
      refine va_get (D := D) (ci := 6) (v := .ref r0) (C := RX6) (T := TX6) (N := 9) hx hb hts nX6_drop_0 hown hK.1 hP 0 rfl rfl 0 (by decide) (hts _ mX6_drop_1) (fun _ h9 => h9) rfl dX6_drop_33 ?_
      refine lv_iload_n hx hb dX6_drop_36 rfl (lv_at hl 1 rfl) ?_
      refine q_wiV (As := [.int (nI k)]) (rest := [.ref x0]) (wr := [(x0, .inr (6, [.ref r0, .ref t0, .ref q, .ref s0, .ref k0, .ref h, .ref j0, .ref im, .int (st)]))]) ⟨hx, hb, hml, hown, hts⟩ (c_X4_takeAway l D cy r0 rl rz ri gI gR hgI fl fz it ln sz hrw k (by omega)) (cwV 1 hts gX6_drop_X4_takeAway rfl rfl rfl (by decide +kernel) ⟨Nat.le_of_ble_eq_true rfl, Nat.le_of_ble_eq_true rfl⟩) hP hD hS hA hK [1, 2, 3, 4, 5, 6, 7, 8, 9, 10, 11, 12] [0] rfl rfl (by decide) rfl (by decide) (by decide) 1 rfl rfl rfl rfl hl.1 rfl (Nat.le_of_ble_eq_true rfl) dX6_drop_37 ⟨Nat.zero_le _, Nat.zero_le _⟩ (fun r7 u8 H locs hr7 hP hD hS => ?_)
      obtain ⟨rfl, rfl⟩ := hr7
      have hP : va_P D vwCl ([(x0, .inr (6, [.ref r0, .ref t0, .ref q, .ref s0, .ref k0, .ref h, .ref j0, .ref im, .int (st)])), (r0, .inr (4, [.ref rl, .ref rz, .ref ri])), (rl, .inl (cy 0, 8, .inl (upd fl k (-1)))), (rz, .inl (cy 0, 8, .inl fz)), (ri, .inl (cy 3, 8, .inr (.inr (.inr (.inr gI)))))] ++ (famI cy 8 40 gR it ++ [])) H := hP
      have hD : va_D A ([(x0, .inr (6, [.ref r0, .ref t0, .ref q, .ref s0, .ref k0, .ref h, .ref j0, .ref im, .int (st)])), (r0, .inr (4, [.ref rl, .ref rz, .ref ri])), (rl, .inl (cy 0, 8, .inl (upd fl k (-1)))), (rz, .inl (cy 0, 8, .inl fz)), (ri, .inl (cy 3, 8, .inr (.inr (.inr (.inr gI)))))] ++ (famI cy 8 40 gR it ++ [])) := hD
      refine q_wiV (As := [.int (nI (sz k))]) (rest := []) (wr := ([(r0, .inr (4, [.ref rl, .ref rz, .ref ri])), (rl, .inl (cy 0, 8, .inl (upd fl k (-1)))), (rz, .inl (cy 0, 8, .inl fz)), (ri, .inl (cy 3, 8, .inr (.inr (.inr (.inr gI)))))] ++ (famI cy 8 40 gR it ++ []))) ⟨hx, hb, hml, hown, hts⟩ (c_X6_sound l D cy x0 r0 t0 q s0 k0 h j0 im st (nI (sz k))) (cwV 1 hts gX6_drop_X6_sound rfl rfl rfl (by decide +kernel) ⟨Nat.le_of_ble_eq_true rfl, Nat.le_of_ble_eq_true rfl⟩) hP hD hS hA hK [0] [1, 2, 3, 4, 5, 6, 7, 8, 9, 10, 11, 12] rfl rfl (by decide) rfl (by decide) (by decide) 0 rfl rfl rfl rfl hl.1 rfl (Nat.le_of_ble_eq_true rfl) dX6_drop_40 ⟨Nat.zero_le _, Nat.zero_le _⟩ (fun r9 u10 H locs hr9 hP hD hS => ?_)
      obtain ⟨rfl, rfl⟩ := hr9
      have hP := hP.sub (ws' := ([(r0, .inr (4, [.ref rl, .ref rz, .ref ri])), (rl, .inl (cy 0, 8, .inl (upd fl k (-1)))), (rz, .inl (cy 0, 8, .inl fz)), (ri, .inl (cy 3, 8, .inr (.inr (.inr (.inr gI))))), (x0, .inr (6, [.ref r0, .ref t0, .ref q, .ref s0, .ref k0, .ref h, .ref j0, .ref im, .int (nI 0)]))] ++ (famI cy 8 40 gR it ++ []))) [0, 1, 2, 3, 12, 4, 5, 6, 7, 8, 9, 10, 11] rfl
      have hD := hD.sub (ws' := ([(r0, .inr (4, [.ref rl, .ref rz, .ref ri])), (rl, .inl (cy 0, 8, .inl (upd fl k (-1)))), (rz, .inl (cy 0, 8, .inl fz)), (ri, .inl (cy 3, 8, .inr (.inr (.inr (.inr gI))))), (x0, .inr (6, [.ref r0, .ref t0, .ref q, .ref s0, .ref k0, .ref h, .ref j0, .ref im, .int (nI 0)]))] ++ (famI cy 8 40 gR it ++ []))) [0, 1, 2, 3, 12, 4, 5, 6, 7, 8, 9, 10, 11] (by decide) rfl
      have hP9 := hP.sub (ws' := ([(x0, .inr (6, [.ref r0, .ref t0, .ref q, .ref s0, .ref k0, .ref h, .ref j0, .ref im, .int (nI 0)])), (r0, .inr (4, [.ref rl, .ref rz, .ref ri])), (rl, .inl (cy 0, 8, .inl (upd fl k (-1)))), (rz, .inl (cy 0, 8, .inl fz)), (ri, .inl (cy 3, 8, .inr (.inr (.inr (.inr gI)))))] ++ (famI cy 8 40 gR it ++ []))) [4, 0, 1, 2, 3, 5, 6, 7, 8, 9, 10, 11, 12] rfl
      have hD9 := hD.sub (ws' := ([(x0, .inr (6, [.ref r0, .ref t0, .ref q, .ref s0, .ref k0, .ref h, .ref j0, .ref im, .int (nI 0)])), (r0, .inr (4, [.ref rl, .ref rz, .ref ri])), (rl, .inl (cy 0, 8, .inl (upd fl k (-1)))), (rz, .inl (cy 0, 8, .inl fz)), (ri, .inl (cy 3, 8, .inr (.inr (.inr (.inr gI)))))] ++ (famI cy 8 40 gR it ++ []))) [4, 0, 1, 2, 3, 5, 6, 7, 8, 9, 10, 11, 12] (by decide) rfl
      exact q_wiret (v := nI (sz k)) hx hb hr hlocks dX6_drop_43 hP9 hD9 hS (⟨_, _, _, _, _, _, _, by simp only [oDrop, q_cl (by omega : k < 2147483648), if_pos b2, if_neg b4], rwI_drop hrwI (by omega), rfl⟩)
  · replace b2 := fun q => b2 ((isR_i x).mpr q)
    refine lv_if_ne (tgt := 14) hx hb dX6_drop_8 (by decide) (fun c9 => absurd (by decide) c9) (fun _ => ?_)
    refine lv_ldc (v := (-1000001)) hx hb hown (hts _ mX6_drop_2) dX6_drop_11 ?_
    have hP9 := hP
    have hD9 := hD
    exact q_wiret (v := (-1000001)) hx hb hr hlocks dX6_drop_13 hP9 hD9 hS (⟨_, _, _, _, _, _, _, by simp only [oDrop, if_neg b2], hrwI, rfl⟩)

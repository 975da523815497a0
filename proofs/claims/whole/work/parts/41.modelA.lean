def mwIs (w : Nat → Nat) (f : Nat → Int32) : Prop := ∀ k, k < 29 → f k = nI (w k)
theorem ctE_e (w : Nat → Nat) (c : Nat) : w (5 + 4 * c + 2) = ctE w c := by unfold ctE; rw [show 5 + 4 * c + 2 = 7 + 4 * c by omega]
theorem ctO_e (w : Nat → Nat) (c : Nat) : w (5 + 4 * c + 3) = ctO w c := by unfold ctO; rw [show 5 + 4 * c + 3 = 8 + 4 * c by omega]
theorem ctT_e (w : Nat → Nat) (c : Nat) : w (5 + 4 * c + 1) = ctT w c := by unfold ctT; rw [show 5 + 4 * c + 1 = 6 + 4 * c by omega]
theorem bc8_fin : ∀ a, a < 256 → bcN a 8 = bc a := by decide +kernel
theorem bc8 (a : Nat) (h : a < 256) : bcN a 8 = bc a := bc8_fin a h
theorem onl_p : ∀ i, i < 6 → onl (1 * 2 ^ i) = nI i := by decide +kernel
theorem onl_n (a : Nat) (ha : a < 64) (h : ∀ j, j < 6 → a ≠ 1 * 2 ^ j) : onl a = -1000000 := by
  have h0 := h 0 (by decide)
  have h1 := h 1 (by decide)
  have h2 := h 2 (by decide)
  have h3 := h 3 (by decide)
  have h4 := h 4 (by decide)
  have h5 := h 5 (by decide)
  simp only [Nat.reducePow, Nat.reduceMul, ne_eq] at h0 h1 h2 h3 h4 h5
  simp [onl, h0, h1, h2, h3, h4, h5]
theorem q_andm1 (a : Nat) : nI a &&& (-1) = nI a := by
  apply Int32.toBitVec_inj.mp
  show (nI a).toBitVec &&& (-1 : Int32).toBitVec = (nI a).toBitVec
  rw [show (-1 : Int32).toBitVec = BitVec.allOnes 32 from by decide, BitVec.and_allOnes]
set_option maxHeartbeats 4000000 in
set_option maxRecDepth 100000 in
theorem c_X7_in (l : Launch) (D : va_G) (cy : Nat → ClassId) (x lo hi : Int32) : q_Rd l yX7_in wsX7_in 1 D cy [] [.int (x), .int (lo), .int (hi)] (fun r => r = nI 1 ∧ (lo ≤ x ∧ x ≤ hi) ∨ r = nI 0 ∧ ¬ (lo ≤ x ∧ x ≤ hi)) := by
  refine q_rd_of (cc := cX7_in) (maxL := 3) (ret := (some .boolean)) (by decide) rfl (Nat.le_of_ble_eq_true rfl) ?_
  intro pg en s mi args below meth cd hC hP hK ls hl
  obtain ⟨hx, hb, hr, hml, hown, hts, hlocks⟩ := hC
  have hl : lv_has ls 3 [(0, .int (x)), (1, .int (lo)), (2, .int (hi))] := hl
  refine lv_iload_n hx hb dX7_in_0 rfl (lv_at hl 0 rfl) ?_
  refine lv_iload_n hx hb dX7_in_1 rfl (lv_at hl 1 rfl) ?_
  refine lv_icmp_lt (tgt := 14) hx hb dX7_in_2 (by decide) (fun c1 => ?_) (fun c1 => ?_)
  · refine lv_iconst (v := nI 0) hx hb dX7_in_14 (by decide) ?_
    exact q_zret (v := nI 0) hx hb hr hlocks dX7_in_15 (by decide) (Or.inr ⟨rfl, q_win2 c1⟩)
  · refine lv_iload_n hx hb dX7_in_5 rfl (lv_at hl 0 rfl) ?_
    refine lv_iload_n hx hb dX7_in_6 rfl (lv_at hl 2 rfl) ?_
    refine lv_icmp_gt (tgt := 14) hx hb dX7_in_7 (by decide) (fun c2 => ?_) (fun c2 => ?_)
    · refine lv_iconst (v := nI 0) hx hb dX7_in_14 (by decide) ?_
      exact q_zret (v := nI 0) hx hb hr hlocks dX7_in_15 (by decide) (Or.inr ⟨rfl, q_win3 c2⟩)
    · refine lv_iconst (v := nI 1) hx hb dX7_in_10 (by decide) ?_
      refine lv_goto (tgt := 15) hx hb dX7_in_11 (by decide) ?_
      exact q_zret (v := nI 1) hx hb hr hlocks dX7_in_15 (by decide) (Or.inl ⟨rfl, q_win1 c1 c2⟩)
set_option maxHeartbeats 4000000 in
set_option maxRecDepth 100000 in
theorem c_X7_has (l : Launch) (D : va_G) (cy : Nat → ClassId) (a b : Nat) (ha : a < 2 ^ 31) (hb2 : b < 32) : q_Rd l yX7_has wsX7_has 1 D cy [] [.int (nI a), .int (nI b)] (fun r => r = nI 1 ∧ a.testBit b = true ∨ r = nI 0 ∧ ¬ a.testBit b = true) := by
  refine q_rd_of (cc := cX7_has) (maxL := 2) (ret := (some .boolean)) (by decide) rfl (Nat.le_of_ble_eq_true rfl) ?_
  intro pg en s mi args below meth cd hC hP hK ls hl
  obtain ⟨hx, hb, hr, hml, hown, hts, hlocks⟩ := hC
  have hl : lv_has ls 2 [(0, .int (nI a)), (1, .int (nI b))] := hl
  refine lv_iload_n hx hb dX7_has_0 rfl (lv_at hl 0 rfl) ?_
  refine lv_iload_n hx hb dX7_has_1 rfl (lv_at hl 1 rfl) ?_
  refine lv_ishr hx hb dX7_has_2 ?_
  refine q_top (y := nI (a / 2 ^ b)) (q_shr (by omega) (by omega)) ?_
  refine lv_iconst (v := nI 1) hx hb dX7_has_3 (by decide) ?_
  have hdv := q_dv_lt a b ha
  refine lv_iand hx hb dX7_has_4 ?_
  refine q_top (y := nI ((a / 2 ^ b) &&& 1)) (q_and _ _) ?_
  refine lv_iconst (v := nI 1) hx hb dX7_has_5 (by decide) ?_
  have hlt := q_tb_lt a b
  refine q_icmp_ne (tgt := 13) hx hb dX7_has_6 (by decide) (by omega) (by decide) (fun c1 => ?_) (fun c1 => ?_)
  · refine lv_iconst (v := nI 0) hx hb dX7_has_13 (by decide) ?_
    exact q_zret (v := nI 0) hx hb hr hlocks dX7_has_14 (by decide) (Or.inr ⟨rfl, fun q => absurd ((q_tb a b).mp q) (by omega)⟩)
  · refine lv_iconst (v := nI 1) hx hb dX7_has_9 (by decide) ?_
    refine lv_goto (tgt := 14) hx hb dX7_has_10 (by decide) ?_
    exact q_zret (v := nI 1) hx hb hr hlocks dX7_has_14 (by decide) (Or.inl ⟨rfl, (q_tb a b).mpr (by omega)⟩)
set_option maxHeartbeats 4000000 in
set_option maxRecDepth 100000 in
theorem c_X7_ones (l : Launch) (D : va_G) (cy : Nat → ClassId) (a : Nat) (ha : a < 256) : q_Rd l yX7_ones wsX7_ones 1 D cy [] [.int (nI a)] (fun r => r = nI (bc a)) := by
  refine q_rd_of (cc := cX7_ones) (maxL := 3) (ret := (some .int)) (by decide) rfl (Nat.le_of_ble_eq_true rfl) ?_
  intro pg en s mi args below meth cd hC hP hK ls hl
  obtain ⟨hx, hb, hr, hml, hown, hts, hlocks⟩ := hC
  have hl : lv_has ls 3 [(0, .int (nI a))] := hl
  refine lv_iconst (v := nI 0) hx hb dX7_ones_0 (by decide) ?_
  refine lv_istore_n (lv' := [(1, .int (nI 0)), (0, .int (nI a))]) hx hb dX7_ones_1 rfl hl (by decide) rfl (fun ls hl => ?_)
  refine lv_iconst (v := nI 0) hx hb dX7_ones_2 (by decide) ?_
  refine lv_istore_n (lv' := [(2, .int (nI 0)), (1, .int (nI 0)), (0, .int (nI a))]) hx hb dX7_ones_3 rfl hl (by decide) rfl (fun ls hl => ?_)
  have L4_6 : ∀ (fu i : Nat), i ≤ 8 → 8 < i + fu → ∀ ls : Array Slot, lv_has ls 3 [(0, .int (nI a)), (1, .int (nI (bcN a i))), (2, .int (nI i))] → W pg l en (q_rm 1) s mi args below meth cd s.heap [] 0 0 (MQ below (vp_Si (fun r => r = nI (bc a))) args s 0 0 (fun _ => False)) (F0 mi 4 ls []) := by
    intro fu
    induction fu with
    | zero =>
      intro i h1 h2
      exact absurd h2 (by omega)
    | succ fu ih4 =>
      intro i h1_4 h2_4 ls hl
      refine lv_iload_n hx hb dX7_ones_4 rfl (lv_at hl 2 rfl) ?_
      refine lv_bipush (v := nI 8) hx hb dX7_ones_5 (by decide) ?_
      refine q_icmp_ge (tgt := 24) hx hb dX7_ones_7 (by decide) (by omega) (by decide) (fun c1 => ?_) (fun c1 => ?_)
      · refine lv_iload_n hx hb dX7_ones_24 rfl (lv_at hl 1 rfl) ?_
        refine q_top (y := nI (bc a)) (by rw [show i = 8 by omega, bc8 a ha]) ?_
        exact q_iret (v := nI (bc a)) hx hb hr hlocks dX7_ones_25 (rfl)
      · refine lv_iload_n hx hb dX7_ones_10 rfl (lv_at hl 1 rfl) ?_
        refine lv_iload_n hx hb dX7_ones_11 rfl (lv_at hl 0 rfl) ?_
        refine lv_iload_n hx hb dX7_ones_12 rfl (lv_at hl 2 rfl) ?_
        refine lv_ishr hx hb dX7_ones_13 ?_
        refine q_top (y := nI (a / 2 ^ i)) (q_shr (by omega) (by omega)) ?_
        refine lv_iconst (v := nI 1) hx hb dX7_ones_14 (by decide) ?_
        refine lv_iand hx hb dX7_ones_15 ?_
        refine q_top (y := nI ((a / 2 ^ i) &&& 1)) (q_and _ _) ?_
        refine lv_iadd hx hb dX7_ones_16 ?_
        refine q_top (y := nI ((bcN a i) + ((a / 2 ^ i) &&& 1))) (nI_add _ _) ?_
        refine lv_istore_n (lv' := [(1, .int (nI ((bcN a i) + ((a / 2 ^ i) &&& 1)))), (0, .int (nI a)), (2, .int (nI i))]) hx hb dX7_ones_17 rfl hl (by decide) rfl (fun ls hl => ?_)
        refine lv_iinc (v := nI (i + 1)) (lv' := [(2, .int (nI (i + 1))), (1, .int (nI ((bcN a i) + ((a / 2 ^ i) &&& 1)))), (0, .int (nI a))]) hx hb dX7_ones_18 hl (k := 2) rfl (q_inc i 1) (by decide) rfl (fun ls hl => ?_)
        refine lv_goto (tgt := 4) hx hb dX7_ones_21 (by decide) ?_
        exact ih4 (i + 1) (by omega) (by omega) ls (q_lset (lv_sub (l' := [(0, .int (nI a)), (1, .int (nI ((bcN a i) + ((a / 2 ^ i) &&& 1)))), (2, .int (nI (i + 1)))]) hl [2, 1, 0] rfl) (q_c1 (f := fun z1 => ([(0, .int (nI a)), (1, .int (z1)), (2, .int (nI (i + 1)))] : List (Nat × Value))) (show (nI ((bcN a i) + ((a / 2 ^ i) &&& 1)) : Int32) = nI (bcN a (i + 1)) from by rw [bcN, Nat.and_one_is_mod])))
  exact L4_6 (8 + 1) 0 (by omega) (by omega) ls (q_lset (lv_sub (l' := [(0, .int (nI a)), (1, .int (nI 0)), (2, .int (nI 0))]) hl [2, 1, 0] rfl) (q_c1 (f := fun z1 => ([(0, .int (nI a)), (1, .int (z1)), (2, .int (nI 0))] : List (Nat × Value))) (show (nI 0 : Int32) = nI (bcN a 0) from rfl)))
set_option maxHeartbeats 4000000 in
set_option maxRecDepth 100000 in
theorem c_X7_isRow (l : Launch) (D : va_G) (cy : Nat → ClassId) (x : Int32) : q_Rd l yX7_isRow wsX7_isRow 2 D cy [] [.int (x)] (fun r => r = nI 1 ∧ (nI 0 ≤ x ∧ x ≤ nI 7) ∨ r = nI 0 ∧ ¬ (nI 0 ≤ x ∧ x ≤ nI 7)) := by
  refine q_rd_of (cc := cX7_isRow) (maxL := 1) (ret := (some .boolean)) (by decide) rfl (Nat.le_of_ble_eq_true rfl) ?_
  intro pg en s mi args below meth cd hC hP hK ls hl
  obtain ⟨hx, hb, hr, hml, hown, hts, hlocks⟩ := hC
  have hl : lv_has ls 1 [(0, .int (x))] := hl
  refine lv_iload_n hx hb dX7_isRow_0 rfl (lv_at hl 0 rfl) ?_
  refine lv_iconst (v := nI 0) hx hb dX7_isRow_1 (by decide) ?_
  refine lv_bipush (v := nI 7) hx hb dX7_isRow_2 (by decide) ?_
  refine q_rS (As := [.int (x), .int (nI 0), .int (nI 7)]) (rest := []) ⟨hx, hb, hml, hown, hts⟩ (c_X7_in l D cy x (nI 0) (nI 7)) (va_cwS 3 hts gX7_isRow_X7_in rfl rfl rfl (by decide +kernel) ⟨Nat.le_of_ble_eq_true rfl, Nat.le_of_ble_eq_true rfl⟩) hP hK [] rfl rfl hl.1 rfl (Nat.le_of_ble_eq_true rfl) dX7_isRow_4 ⟨Nat.zero_le _, Nat.zero_le _⟩ (fun r1 hr1 => ?_)
  rcases hr1 with ⟨rfl, b2⟩ | ⟨rfl, b2⟩
  · exact q_zret (v := nI 1) hx hb hr hlocks dX7_isRow_7 (by decide) (Or.inl ⟨rfl, b2⟩)
  · exact q_zret (v := nI 0) hx hb hr hlocks dX7_isRow_7 (by decide) (Or.inr ⟨rfl, b2⟩)
set_option maxHeartbeats 4000000 in
set_option maxRecDepth 100000 in
theorem c_X7_isFar (l : Launch) (D : va_G) (cy : Nat → ClassId) (x : Int32) : q_Rd l yX7_isFar wsX7_isFar 2 D cy [] [.int (x)] (fun r => r = nI 1 ∧ (nI 0 ≤ x ∧ x ≤ nI 99) ∨ r = nI 0 ∧ ¬ (nI 0 ≤ x ∧ x ≤ nI 99)) := by
  refine q_rd_of (cc := cX7_isFar) (maxL := 1) (ret := (some .boolean)) (by decide) rfl (Nat.le_of_ble_eq_true rfl) ?_
  intro pg en s mi args below meth cd hC hP hK ls hl
  obtain ⟨hx, hb, hr, hml, hown, hts, hlocks⟩ := hC
  have hl : lv_has ls 1 [(0, .int (x))] := hl
  refine lv_iload_n hx hb dX7_isFar_0 rfl (lv_at hl 0 rfl) ?_
  refine lv_iconst (v := nI 0) hx hb dX7_isFar_1 (by decide) ?_
  refine lv_bipush (v := nI 99) hx hb dX7_isFar_2 (by decide) ?_
  refine q_rS (As := [.int (x), .int (nI 0), .int (nI 99)]) (rest := []) ⟨hx, hb, hml, hown, hts⟩ (c_X7_in l D cy x (nI 0) (nI 99)) (va_cwS 3 hts gX7_isFar_X7_in rfl rfl rfl (by decide +kernel) ⟨Nat.le_of_ble_eq_true rfl, Nat.le_of_ble_eq_true rfl⟩) hP hK [] rfl rfl hl.1 rfl (Nat.le_of_ble_eq_true rfl) dX7_isFar_4 ⟨Nat.zero_le _, Nat.zero_le _⟩ (fun r1 hr1 => ?_)
  rcases hr1 with ⟨rfl, b2⟩ | ⟨rfl, b2⟩
  · exact q_zret (v := nI 1) hx hb hr hlocks dX7_isFar_7 (by decide) (Or.inl ⟨rfl, b2⟩)
  · exact q_zret (v := nI 0) hx hb hr hlocks dX7_isFar_7 (by decide) (Or.inr ⟨rfl, b2⟩)
theorem mX7_only_0 : Cond.constant RX7 50 (-1000000) ∈ wsX7_only := by decide +kernel
set_option maxHeartbeats 4000000 in
set_option maxRecDepth 100000 in
theorem c_X7_only (l : Launch) (D : va_G) (cy : Nat → ClassId) (a : Nat) (ha : a < 64) : q_Rd l yX7_only wsX7_only 1 D cy [] [.int (nI a)] (fun r => r = onl a) := by
  refine q_rd_of (cc := cX7_only) (maxL := 2) (ret := (some .int)) (by decide) rfl (Nat.le_of_ble_eq_true rfl) ?_
  intro pg en s mi args below meth cd hC hP hK ls hl
  obtain ⟨hx, hb, hr, hml, hown, hts, hlocks⟩ := hC
  have hl : lv_has ls 2 [(0, .int (nI a))] := hl
  refine lv_iconst (v := nI 0) hx hb dX7_only_0 (by decide) ?_
  refine lv_istore_n (lv' := [(1, .int (nI 0)), (0, .int (nI a))]) hx hb dX7_only_1 rfl hl (by decide) rfl (fun ls hl => ?_)
  have L2_4 : ∀ (fu i : Nat), i ≤ 6 → 6 < i + fu → (∀ j, j < i → a ≠ 1 * 2 ^ j) → ∀ ls : Array Slot, lv_has ls 2 [(0, .int (nI a)), (1, .int (nI i))] → W pg l en (q_rm 1) s mi args below meth cd s.heap [] 0 0 (MQ below (vp_Si (fun r => r = onl a)) args s 0 0 (fun _ => False)) (F0 mi 2 ls []) := by
    intro fu
    induction fu with
    | zero =>
      intro i h1 h2
      exact absurd h2 (by omega)
    | succ fu ih2 =>
      intro i h1_2 h2_2 hf2_0 ls hl
      refine lv_iload_n hx hb dX7_only_2 rfl (lv_at hl 1 rfl) ?_
      refine lv_bipush (v := nI 6) hx hb dX7_only_3 (by decide) ?_
      refine q_icmp_ge (tgt := 23) hx hb dX7_only_5 (by decide) (by omega) (by decide) (fun c1 => ?_) (fun c1 => ?_)
      · refine lv_ldc (v := (-1000000)) hx hb hown (hts _ mX7_only_0) dX7_only_23 ?_
        exact q_iret (v := (-1000000)) hx hb hr hlocks dX7_only_25 ((onl_n a ha (fun j hj => hf2_0 j (by omega))).symm)
      · refine lv_iload_n hx hb dX7_only_8 rfl (lv_at hl 0 rfl) ?_
        refine lv_iconst (v := nI 1) hx hb dX7_only_9 (by decide) ?_
        refine lv_iload_n hx hb dX7_only_10 rfl (lv_at hl 1 rfl) ?_
        have hpw := q_pw6 i (by omega)
        refine lv_ishl hx hb dX7_only_11 ?_
        refine q_top (y := nI (1 * 2 ^ i)) (q_shl (by omega) (by omega)) ?_
        refine q_icmp_ne (tgt := 17) hx hb dX7_only_12 (by decide) (by omega) (by omega) (fun c2 => ?_) (fun c2 => ?_)
        · refine lv_iinc (v := nI (i + 1)) (lv' := [(1, .int (nI (i + 1))), (0, .int (nI a))]) hx hb dX7_only_17 hl (k := 1) rfl (q_inc i 1) (by decide) rfl (fun ls hl => ?_)
          refine lv_goto (tgt := 2) hx hb dX7_only_20 (by decide) ?_
          exact ih2 (i + 1) (by omega) (by omega) (q_allS hf2_0 c2) ls (lv_sub (l' := [(0, .int (nI a)), (1, .int (nI (i + 1)))]) hl [1, 0] rfl)
        · refine lv_iload_n hx hb dX7_only_15 rfl (lv_at hl 1 rfl) ?_
          exact q_iret (v := nI i) hx hb hr hlocks dX7_only_16 (by rw [c2]; exact (onl_p i (by omega)).symm)
  exact L2_4 (6 + 1) 0 (by omega) (by omega) (fun j hj => absurd hj (Nat.not_lt_zero j)) ls (lv_sub (l' := [(0, .int (nI a)), (1, .int (nI 0))]) hl [1, 0] rfl)
set_option maxHeartbeats 4000000 in
set_option maxRecDepth 100000 in
theorem c_X7_all (l : Launch) (D : va_G) (cy : Nat → ClassId) (a0 : Nat) (f : Nat → Int32) (w : Nat → Nat) (hm : mwIs w f) (hv : ctOk w) : q_Rd l yX7_all wsX7_all 1 D cy [(a0, .inl (cy 0, 29, .inl f))] [.ref a0] (fun r => r = nI (ctAll w)) := by
  refine q_rd_of (cc := cX7_all) (maxL := 1) (ret := (some .int)) (by decide) rfl (Nat.le_of_ble_eq_true rfl) ?_
  intro pg en s mi args below meth cd hC hP hK ls hl
  obtain ⟨hx, hb, hr, hml, hown, hts, hlocks⟩ := hC
  have hl : lv_has ls 1 [(0, .ref a0)] := hl
  obtain ⟨hv0, hv1, hv2, hv3, hv4, hvc⟩ := id hv
  refine lv_iconst (v := nI 1) hx hb dX7_all_0 (by decide) ?_
  refine lv_aload_n hx hb dX7_all_1 rfl (lv_at hl 0 rfl) ?_
  refine lv_iconst (v := nI 0) hx hb dX7_all_2 (by decide) ?_
  refine q_iald (j := 0) (v := nI (w 0)) hx hb hK hP 0 rfl (by omega) (by decide) (hm _ (by omega)) dX7_all_3 ?_
  have hpw := q_pw (w 0) hv0
  refine lv_ishl hx hb dX7_all_4 ?_
  refine q_top (y := nI (1 * 2 ^ (w 0))) (q_shl (by omega) (by omega)) ?_
  refine lv_iconst (v := nI 1) hx hb dX7_all_5 (by decide) ?_
  refine lv_isub hx hb dX7_all_6 ?_
  refine q_top (y := nI (ctAll w)) (by rw [Nat.one_mul]; exact pk_sub (a := 2 ^ w 0) (b := 1) hpw.1) ?_
  exact q_iret (v := nI (ctAll w)) hx hb hr hlocks dX7_all_7 (rfl)
set_option maxHeartbeats 4000000 in
set_option maxRecDepth 100000 in
theorem c_X7_isAtWork (l : Launch) (D : va_G) (cy : Nat → ClassId) (a0 : Nat) (f : Nat → Int32) (w : Nat → Nat) (hm : mwIs w f) (hv : ctOk w) (c d : Nat) (hc : c < w 4) (hd : d < 2 ^ 31) : q_Rd l yX7_isAtWork wsX7_isAtWork 1 D cy [(a0, .inl (cy 0, 29, .inl f))] [.ref a0, .int (nI c), .int (nI d)] (fun r => r = nI 1 ∧ ctWk w c d = true ∨ r = nI 0 ∧ ¬ ctWk w c d = true) := by
  refine q_rd_of (cc := cX7_isAtWork) (maxL := 5) (ret := (some .boolean)) (by decide) rfl (Nat.le_of_ble_eq_true rfl) ?_
  intro pg en s mi args below meth cd hC hP hK ls hl
  obtain ⟨hx, hb, hr, hml, hown, hts, hlocks⟩ := hC
  have hl : lv_has ls 5 [(0, .ref a0), (1, .int (nI c)), (2, .int (nI d))] := hl
  obtain ⟨hv0, hv1, hv2, hv3, hv4, hvc⟩ := id hv
  obtain ⟨hk1, hk5, ht1, ht2, he2, he4, ho1⟩ := hvc c hc
  have hdm := Nat.mod_le d (ctE w c)
  refine lv_iconst (v := nI 5) hx hb dX7_isAtWork_0 (by decide) ?_
  refine lv_iconst (v := nI 4) hx hb dX7_isAtWork_1 (by decide) ?_
  refine lv_iload_n hx hb dX7_isAtWork_2 rfl (lv_at hl 1 rfl) ?_
  refine lv_imul hx hb dX7_isAtWork_3 ?_
  refine q_top (y := nI (4 * c)) (pk_mul _ _) ?_
  refine lv_iadd hx hb dX7_isAtWork_4 ?_
  refine q_top (y := nI (5 + (4 * c))) (nI_add _ _) ?_
  refine lv_istore_n (lv' := [(3, .int (nI (5 + (4 * c)))), (0, .ref a0), (1, .int (nI c)), (2, .int (nI d))]) hx hb dX7_isAtWork_5 rfl hl (by decide) rfl (fun ls hl => ?_)
  refine lv_iload_n hx hb dX7_isAtWork_6 rfl (lv_at hl 3 rfl) ?_
  refine lv_aload_n hx hb dX7_isAtWork_7 rfl (lv_at hl 1 rfl) ?_
  refine lv_iload_n hx hb dX7_isAtWork_8 rfl (lv_at hl 0 rfl) ?_
  refine lv_iconst (v := nI 2) hx hb dX7_isAtWork_9 (by decide) ?_
  refine lv_iadd hx hb dX7_isAtWork_10 ?_
  refine q_top (y := nI ((5 + (4 * c)) + 2)) (nI_add _ _) ?_
  refine q_iald (j := ((5 + (4 * c)) + 2)) (v := nI (w ((5 + (4 * c)) + 2))) hx hb hK hP 0 rfl (by omega) (by decide) (hm _ (by omega)) dX7_isAtWork_11 ?_
  refine q_top (y := nI (ctE w c)) (congrArg nI (ctE_e w c)) ?_
  refine lv_irem hx hb dX7_isAtWork_12 (q_ne0 (by omega) (by omega)) ?_
  refine q_top (y := nI (d % (ctE w c))) (pk_rem (a := d) (d := (ctE w c)) (by omega) (by omega) (by omega)) ?_
  refine lv_aload_n hx hb dX7_isAtWork_13 rfl (lv_at hl 1 rfl) ?_
  refine lv_iload_n hx hb dX7_isAtWork_14 rfl (lv_at hl 0 rfl) ?_
  refine lv_iconst (v := nI 3) hx hb dX7_isAtWork_15 (by decide) ?_
  refine lv_iadd hx hb dX7_isAtWork_16 ?_
  refine q_top (y := nI ((5 + (4 * c)) + 3)) (nI_add _ _) ?_
  refine q_iald (j := ((5 + (4 * c)) + 3)) (v := nI (w ((5 + (4 * c)) + 3))) hx hb hK hP 0 rfl (by omega) (by decide) (hm _ (by omega)) dX7_isAtWork_17 ?_
  refine q_top (y := nI (ctO w c)) (congrArg nI (ctO_e w c)) ?_
  refine q_icmp_eq (tgt := 25) hx hb dX7_isAtWork_18 (by decide) (by omega) (by omega) (fun c1 => ?_) (fun c1 => ?_)
  · refine lv_iconst (v := nI 0) hx hb dX7_isAtWork_25 (by decide) ?_
    refine lv_istore (lv' := [(4, .int (nI 0)), (3, .int (nI (5 + (4 * c)))), (0, .ref a0), (1, .int (nI c)), (2, .int (nI d))]) hx hb dX7_isAtWork_26 hl (by decide) rfl (fun ls hl => ?_)
    refine lv_aload_n hx hb dX7_isAtWork_28 rfl (lv_at hl 2 rfl) ?_
    refine lv_iload_n hx hb dX7_isAtWork_29 rfl (lv_at hl 1 rfl) ?_
    refine q_iald (j := (5 + (4 * c))) (v := nI (w (5 + (4 * c)))) hx hb hK hP 0 rfl (by omega) (by decide) (hm _ (by omega)) dX7_isAtWork_30 ?_
    refine q_top (y := nI (ctK w c)) (rfl) ?_
    refine lv_iconst (v := nI 5) hx hb dX7_isAtWork_31 (by decide) ?_
    refine q_icmp_eq (tgt := 57) hx hb dX7_isAtWork_32 (by decide) (by omega) (by decide) (fun c2 => ?_) (fun c2 => ?_)
    · refine lv_iconst (v := nI 1) hx hb dX7_isAtWork_57 (by decide) ?_
      refine lv_goto (tgt := 62) hx hb dX7_isAtWork_58 (by decide) ?_
      exact q_zret (v := nI 1) hx hb hr hlocks dX7_isAtWork_62 (by decide) (Or.inl ⟨rfl, by unfold ctWk; simp_all⟩)
    · refine lv_iload hx hb dX7_isAtWork_35 (lv_at hl 0 rfl) ?_
      refine lv_if_eq (tgt := 61) hx hb dX7_isAtWork_37 (by decide) (fun _ => ?_) (fun c9 => absurd (by decide) c9)
      refine lv_iconst (v := nI 0) hx hb dX7_isAtWork_61 (by decide) ?_
      exact q_zret (v := nI 0) hx hb hr hlocks dX7_isAtWork_62 (by decide) (Or.inr ⟨rfl, by unfold ctWk; simp_all⟩)
  · refine lv_iconst (v := nI 1) hx hb dX7_isAtWork_21 (by decide) ?_
    refine lv_goto (tgt := 26) hx hb dX7_isAtWork_22 (by decide) ?_
    refine lv_istore (lv' := [(4, .int (nI 1)), (3, .int (nI (5 + (4 * c)))), (0, .ref a0), (1, .int (nI c)), (2, .int (nI d))]) hx hb dX7_isAtWork_26 hl (by decide) rfl (fun ls hl => ?_)
    refine lv_aload_n hx hb dX7_isAtWork_28 rfl (lv_at hl 2 rfl) ?_
    refine lv_iload_n hx hb dX7_isAtWork_29 rfl (lv_at hl 1 rfl) ?_
    refine q_iald (j := (5 + (4 * c))) (v := nI (w (5 + (4 * c)))) hx hb hK hP 0 rfl (by omega) (by decide) (hm _ (by omega)) dX7_isAtWork_30 ?_
    refine q_top (y := nI (ctK w c)) (rfl) ?_
    refine lv_iconst (v := nI 5) hx hb dX7_isAtWork_31 (by decide) ?_
    refine q_icmp_eq (tgt := 57) hx hb dX7_isAtWork_32 (by decide) (by omega) (by decide) (fun c3 => ?_) (fun c3 => ?_)
    · refine lv_iconst (v := nI 1) hx hb dX7_isAtWork_57 (by decide) ?_
      refine lv_goto (tgt := 62) hx hb dX7_isAtWork_58 (by decide) ?_
      exact q_zret (v := nI 1) hx hb hr hlocks dX7_isAtWork_62 (by decide) (Or.inl ⟨rfl, by unfold ctWk; simp_all⟩)
    · refine lv_iload hx hb dX7_isAtWork_35 (lv_at hl 0 rfl) ?_
      refine lv_if_eq (tgt := 61) hx hb dX7_isAtWork_37 (by decide) (fun c9 => absurd c9 (by decide)) (fun _ => ?_)
      refine lv_aload_n hx hb dX7_isAtWork_40 rfl (lv_at hl 2 rfl) ?_
      refine lv_iload_n hx hb dX7_isAtWork_41 rfl (lv_at hl 1 rfl) ?_
      refine q_iald (j := (5 + (4 * c))) (v := nI (w (5 + (4 * c)))) hx hb hK hP 0 rfl (by omega) (by decide) (hm _ (by omega)) dX7_isAtWork_42 ?_
      refine q_top (y := nI (ctK w c)) (rfl) ?_
      refine lv_iconst (v := nI 2) hx hb dX7_isAtWork_43 (by decide) ?_
      refine q_icmp_ne (tgt := 57) hx hb dX7_isAtWork_44 (by decide) (by omega) (by decide) (fun c4 => ?_) (fun c4 => ?_)
      · refine lv_iconst (v := nI 1) hx hb dX7_isAtWork_57 (by decide) ?_
        refine lv_goto (tgt := 62) hx hb dX7_isAtWork_58 (by decide) ?_
        exact q_zret (v := nI 1) hx hb hr hlocks dX7_isAtWork_62 (by decide) (Or.inl ⟨rfl, by unfold ctWk; simp_all⟩)
      · refine lv_iload_n hx hb dX7_isAtWork_47 rfl (lv_at hl 4 rfl) ?_
        refine lv_bipush (v := nI 7) hx hb dX7_isAtWork_48 (by decide) ?_
        refine lv_irem hx hb dX7_isAtWork_50 (by decide) ?_
        refine q_top (y := nI (d % 7)) (pk_rem (a := d) (d := 7) (by omega) (by omega) (by decide)) ?_
        refine lv_aload_n hx hb dX7_isAtWork_51 rfl (lv_at hl 2 rfl) ?_
        refine lv_iconst (v := nI 1) hx hb dX7_isAtWork_52 (by decide) ?_
        refine q_iald (j := 1) (v := nI (w 1)) hx hb hK hP 0 rfl (by omega) (by decide) (hm _ (by omega)) dX7_isAtWork_53 ?_
        refine q_icmp_eq (tgt := 61) hx hb dX7_isAtWork_54 (by decide) (by omega) (by omega) (fun c5 => ?_) (fun c5 => ?_)
        · refine lv_iconst (v := nI 0) hx hb dX7_isAtWork_61 (by decide) ?_
          exact q_zret (v := nI 0) hx hb hr hlocks dX7_isAtWork_62 (by decide) (Or.inr ⟨rfl, by unfold ctWk; simp_all⟩)
        · refine lv_iconst (v := nI 1) hx hb dX7_isAtWork_57 (by decide) ?_
          refine lv_goto (tgt := 62) hx hb dX7_isAtWork_58 (by decide) ?_
          exact q_zret (v := nI 1) hx hb hr hlocks dX7_isAtWork_62 (by decide) (Or.inl ⟨rfl, by unfold ctWk; simp_all⟩)
set_option maxHeartbeats 4000000 in
set_option maxRecDepth 100000 in
theorem c_X7_leaves (l : Launch) (D : va_G) (cy : Nat → ClassId) (a0 : Nat) (f : Nat → Int32) (w : Nat → Nat) (hm : mwIs w f) (hv : ctOk w) (c : Nat) (hc : c < w 4) : q_Rd l yX7_leaves wsX7_leaves 2 D cy [(a0, .inl (cy 0, 29, .inl f))] [.ref a0, .int (nI c)] (fun r => r = nI (ctLv w c)) := by
  refine q_rd_of (cc := cX7_leaves) (maxL := 5) (ret := (some .int)) (by decide) rfl (Nat.le_of_ble_eq_true rfl) ?_
  intro pg en s mi args below meth cd hC hP hK ls hl
  obtain ⟨hx, hb, hr, hml, hown, hts, hlocks⟩ := hC
  have hl : lv_has ls 5 [(0, .ref a0), (1, .int (nI c))] := hl
  obtain ⟨hv0, hv1, hv2, hv3, hv4, hvc⟩ := id hv
  obtain ⟨hk1, hk5, ht1, ht2, he2, he4, ho1⟩ := hvc c hc
  refine lv_iconst (v := nI 5) hx hb dX7_leaves_0 (by decide) ?_
  refine lv_iconst (v := nI 4) hx hb dX7_leaves_1 (by decide) ?_
  refine lv_iload_n hx hb dX7_leaves_2 rfl (lv_at hl 1 rfl) ?_
  refine lv_imul hx hb dX7_leaves_3 ?_
  refine q_top (y := nI (4 * c)) (pk_mul _ _) ?_
  refine lv_iadd hx hb dX7_leaves_4 ?_
  refine q_top (y := nI (5 + (4 * c))) (nI_add _ _) ?_
  refine lv_istore_n (lv' := [(2, .int (nI (5 + (4 * c)))), (0, .ref a0), (1, .int (nI c))]) hx hb dX7_leaves_5 rfl hl (by decide) rfl (fun ls hl => ?_)
  refine lv_aload_n hx hb dX7_leaves_6 rfl (lv_at hl 1 rfl) ?_
  refine lv_iconst (v := nI 3) hx hb dX7_leaves_7 (by decide) ?_
  refine q_iald (j := 3) (v := nI (w 3)) hx hb hK hP 0 rfl (by omega) (by decide) (hm _ (by omega)) dX7_leaves_8 ?_
  refine lv_iload_n hx hb dX7_leaves_9 rfl (lv_at hl 2 rfl) ?_
  refine q_rS (As := [.int (nI (w 3)), .int (nI c)]) (rest := []) ⟨hx, hb, hml, hown, hts⟩ (c_X7_has l D cy (w 3) c (by omega) (by omega)) (va_cwS 2 hts gX7_leaves_X7_has rfl rfl rfl (by decide +kernel) ⟨Nat.le_of_ble_eq_true rfl, Nat.le_of_ble_eq_true rfl⟩) hP hK [] rfl rfl hl.1 rfl (Nat.le_of_ble_eq_true rfl) dX7_leaves_10 ⟨Nat.zero_le _, Nat.zero_le _⟩ (fun r1 hr1 => ?_)
  rcases hr1 with ⟨rfl, b2⟩ | ⟨rfl, b2⟩
  · refine lv_istore_n (lv' := [(3, .int (nI 1)), (2, .int (nI (5 + (4 * c)))), (0, .ref a0), (1, .int (nI c))]) hx hb dX7_leaves_13 rfl hl (by decide) rfl (fun ls hl => ?_)
    refine lv_aload_n hx hb dX7_leaves_14 rfl (lv_at hl 2 rfl) ?_
    refine q_rS (As := [.ref a0]) (rest := []) ⟨hx, hb, hml, hown, hts⟩ (c_X7_all l D cy a0 f w hm hv) (va_cwS 1 hts gX7_leaves_X7_all rfl rfl rfl (by decide +kernel) ⟨Nat.le_of_ble_eq_true rfl, Nat.le_of_ble_eq_true rfl⟩) hP hK [0] rfl rfl hl.1 rfl (Nat.le_of_ble_eq_true rfl) dX7_leaves_15 ⟨Nat.zero_le _, Nat.zero_le _⟩ (fun r3 hr3 => ?_)
    obtain rfl := hr3
    refine lv_aload_n hx hb dX7_leaves_18 rfl (lv_at hl 2 rfl) ?_
    refine lv_iload_n hx hb dX7_leaves_19 rfl (lv_at hl 1 rfl) ?_
    refine lv_iconst (v := nI 1) hx hb dX7_leaves_20 (by decide) ?_
    refine lv_iadd hx hb dX7_leaves_21 ?_
    refine q_top (y := nI ((5 + (4 * c)) + 1)) (nI_add _ _) ?_
    refine q_iald (j := ((5 + (4 * c)) + 1)) (v := nI (w ((5 + (4 * c)) + 1))) hx hb hK hP 0 rfl (by omega) (by decide) (hm _ (by omega)) dX7_leaves_22 ?_
    refine q_top (y := nI (ctT w c)) (congrArg nI (ctT_e w c)) ?_
    refine lv_iconst (v := (-1)) hx hb dX7_leaves_23 (by decide) ?_
    refine lv_ixor hx hb dX7_leaves_24 ?_
    refine lv_iand hx hb dX7_leaves_25 ?_
    refine q_top (y := nI (ctOth w c)) (ctOth_e w c hv0 ht2) ?_
    refine lv_istore (lv' := [(4, .int (nI (ctOth w c))), (3, .int (nI 1)), (2, .int (nI (5 + (4 * c)))), (0, .ref a0), (1, .int (nI c))]) hx hb dX7_leaves_26 hl (by decide) rfl (fun ls hl => ?_)
    refine lv_aload_n hx hb dX7_leaves_28 rfl (lv_at hl 3 rfl) ?_
    refine lv_iload_n hx hb dX7_leaves_29 rfl (lv_at hl 2 rfl) ?_
    refine q_iald (j := (5 + (4 * c))) (v := nI (w (5 + (4 * c)))) hx hb hK hP 0 rfl (by omega) (by decide) (hm _ (by omega)) dX7_leaves_30 ?_
    refine q_top (y := nI (ctK w c)) (rfl) ?_
    refine lv_iconst (v := nI 3) hx hb dX7_leaves_31 (by decide) ?_
    refine q_icmp_ne (tgt := 50) hx hb dX7_leaves_32 (by decide) (by omega) (by decide) (fun c4 => ?_) (fun c4 => ?_)
    · refine lv_iload_n hx hb dX7_leaves_50 rfl (lv_at hl 1 rfl) ?_
      refine lv_if_eq (tgt := 61) hx hb dX7_leaves_51 (by decide) (fun c9 => absurd c9 (by decide)) (fun _ => ?_)
      refine lv_aload_n hx hb dX7_leaves_54 rfl (lv_at hl 3 rfl) ?_
      refine q_rS (As := [.ref a0]) (rest := []) ⟨hx, hb, hml, hown, hts⟩ (c_X7_all l D cy a0 f w hm hv) (va_cwS 1 hts gX7_leaves_X7_all rfl rfl rfl (by decide +kernel) ⟨Nat.le_of_ble_eq_true rfl, Nat.le_of_ble_eq_true rfl⟩) hP hK [0] rfl rfl hl.1 rfl (Nat.le_of_ble_eq_true rfl) dX7_leaves_55 ⟨Nat.zero_le _, Nat.zero_le _⟩ (fun r5 hr5 => ?_)
      obtain rfl := hr5
      refine lv_goto (tgt := 78) hx hb dX7_leaves_58 (by decide) ?_
      exact q_iret (v := nI (ctAll w)) hx hb hr hlocks dX7_leaves_78 (by have e1 := congrArg nI (ctT_e w c); unfold ctLv; (repeat' split) <;> first | rfl | exact e1 | (exfalso; omega) | (exfalso; simp_all; done))
    · refine lv_iload_n hx hb dX7_leaves_35 rfl (lv_at hl 1 rfl) ?_
      refine lv_if_eq (tgt := 44) hx hb dX7_leaves_36 (by decide) (fun c9 => absurd c9 (by decide)) (fun _ => ?_)
      refine lv_iload hx hb dX7_leaves_39 (lv_at hl 0 rfl) ?_
      refine lv_goto (tgt := 49) hx hb dX7_leaves_41 (by decide) ?_
      exact q_iret (v := nI (ctOth w c)) hx hb hr hlocks dX7_leaves_49 (by have e1 := congrArg nI (ctT_e w c); unfold ctLv; (repeat' split) <;> first | rfl | exact e1 | (exfalso; omega) | (exfalso; simp_all; done))
  · refine lv_istore_n (lv' := [(3, .int (nI 0)), (2, .int (nI (5 + (4 * c)))), (0, .ref a0), (1, .int (nI c))]) hx hb dX7_leaves_13 rfl hl (by decide) rfl (fun ls hl => ?_)
    refine lv_aload_n hx hb dX7_leaves_14 rfl (lv_at hl 2 rfl) ?_
    refine q_rS (As := [.ref a0]) (rest := []) ⟨hx, hb, hml, hown, hts⟩ (c_X7_all l D cy a0 f w hm hv) (va_cwS 1 hts gX7_leaves_X7_all rfl rfl rfl (by decide +kernel) ⟨Nat.le_of_ble_eq_true rfl, Nat.le_of_ble_eq_true rfl⟩) hP hK [0] rfl rfl hl.1 rfl (Nat.le_of_ble_eq_true rfl) dX7_leaves_15 ⟨Nat.zero_le _, Nat.zero_le _⟩ (fun r6 hr6 => ?_)
    obtain rfl := hr6
    refine lv_aload_n hx hb dX7_leaves_18 rfl (lv_at hl 2 rfl) ?_
    refine lv_iload_n hx hb dX7_leaves_19 rfl (lv_at hl 1 rfl) ?_
    refine lv_iconst (v := nI 1) hx hb dX7_leaves_20 (by decide) ?_
    refine lv_iadd hx hb dX7_leaves_21 ?_
    refine q_top (y := nI ((5 + (4 * c)) + 1)) (nI_add _ _) ?_
    refine q_iald (j := ((5 + (4 * c)) + 1)) (v := nI (w ((5 + (4 * c)) + 1))) hx hb hK hP 0 rfl (by omega) (by decide) (hm _ (by omega)) dX7_leaves_22 ?_
    refine q_top (y := nI (ctT w c)) (congrArg nI (ctT_e w c)) ?_
    refine lv_iconst (v := (-1)) hx hb dX7_leaves_23 (by decide) ?_
    refine lv_ixor hx hb dX7_leaves_24 ?_
    refine lv_iand hx hb dX7_leaves_25 ?_
    refine q_top (y := nI (ctOth w c)) (ctOth_e w c hv0 ht2) ?_
    refine lv_istore (lv' := [(4, .int (nI (ctOth w c))), (3, .int (nI 0)), (2, .int (nI (5 + (4 * c)))), (0, .ref a0), (1, .int (nI c))]) hx hb dX7_leaves_26 hl (by decide) rfl (fun ls hl => ?_)
    refine lv_aload_n hx hb dX7_leaves_28 rfl (lv_at hl 3 rfl) ?_
    refine lv_iload_n hx hb dX7_leaves_29 rfl (lv_at hl 2 rfl) ?_
    refine q_iald (j := (5 + (4 * c))) (v := nI (w (5 + (4 * c)))) hx hb hK hP 0 rfl (by omega) (by decide) (hm _ (by omega)) dX7_leaves_30 ?_
    refine q_top (y := nI (ctK w c)) (rfl) ?_
    refine lv_iconst (v := nI 3) hx hb dX7_leaves_31 (by decide) ?_
    refine q_icmp_ne (tgt := 50) hx hb dX7_leaves_32 (by decide) (by omega) (by decide) (fun c7 => ?_) (fun c7 => ?_)
    · refine lv_iload_n hx hb dX7_leaves_50 rfl (lv_at hl 1 rfl) ?_
      refine lv_if_eq (tgt := 61) hx hb dX7_leaves_51 (by decide) (fun _ => ?_) (fun c9 => absurd (by decide) c9)
      refine lv_aload_n hx hb dX7_leaves_61 rfl (lv_at hl 3 rfl) ?_
      refine lv_iload_n hx hb dX7_leaves_62 rfl (lv_at hl 2 rfl) ?_
      refine q_iald (j := (5 + (4 * c))) (v := nI (w (5 + (4 * c)))) hx hb hK hP 0 rfl (by omega) (by decide) (hm _ (by omega)) dX7_leaves_63 ?_
      refine q_top (y := nI (ctK w c)) (rfl) ?_
      refine lv_iconst (v := nI 4) hx hb dX7_leaves_64 (by decide) ?_
      refine q_icmp_lt (tgt := 73) hx hb dX7_leaves_65 (by decide) (by omega) (by decide) (fun c8 => ?_) (fun c8 => ?_)
      · refine lv_aload_n hx hb dX7_leaves_73 rfl (lv_at hl 3 rfl) ?_
        refine lv_iload_n hx hb dX7_leaves_74 rfl (lv_at hl 2 rfl) ?_
        refine lv_iconst (v := nI 1) hx hb dX7_leaves_75 (by decide) ?_
        refine lv_iadd hx hb dX7_leaves_76 ?_
        refine q_top (y := nI ((5 + (4 * c)) + 1)) (nI_add _ _) ?_
        refine q_iald (j := ((5 + (4 * c)) + 1)) (v := nI (w ((5 + (4 * c)) + 1))) hx hb hK hP 0 rfl (by omega) (by decide) (hm _ (by omega)) dX7_leaves_77 ?_
        exact q_iret (v := nI (w ((5 + (4 * c)) + 1))) hx hb hr hlocks dX7_leaves_78 (by have e1 := congrArg nI (ctT_e w c); unfold ctLv; (repeat' split) <;> first | rfl | exact e1 | (exfalso; omega) | (exfalso; simp_all; done))
      · refine lv_iload hx hb dX7_leaves_68 (lv_at hl 0 rfl) ?_
        refine lv_goto (tgt := 78) hx hb dX7_leaves_70 (by decide) ?_
        exact q_iret (v := nI (ctOth w c)) hx hb hr hlocks dX7_leaves_78 (by have e1 := congrArg nI (ctT_e w c); unfold ctLv; (repeat' split) <;> first | rfl | exact e1 | (exfalso; omega) | (exfalso; simp_all; done))
    · refine lv_iload_n hx hb dX7_leaves_35 rfl (lv_at hl 1 rfl) ?_
      refine lv_if_eq (tgt := 44) hx hb dX7_leaves_36 (by decide) (fun _ => ?_) (fun c9 => absurd (by decide) c9)
      refine lv_aload_n hx hb dX7_leaves_44 rfl (lv_at hl 3 rfl) ?_
      refine lv_iload_n hx hb dX7_leaves_45 rfl (lv_at hl 2 rfl) ?_
      refine lv_iconst (v := nI 1) hx hb dX7_leaves_46 (by decide) ?_
      refine lv_iadd hx hb dX7_leaves_47 ?_
      refine q_top (y := nI ((5 + (4 * c)) + 1)) (nI_add _ _) ?_
      refine q_iald (j := ((5 + (4 * c)) + 1)) (v := nI (w ((5 + (4 * c)) + 1))) hx hb hK hP 0 rfl (by omega) (by decide) (hm _ (by omega)) dX7_leaves_48 ?_
      exact q_iret (v := nI (w ((5 + (4 * c)) + 1))) hx hb hr hlocks dX7_leaves_49 (by have e1 := congrArg nI (ctT_e w c); unfold ctLv; (repeat' split) <;> first | rfl | exact e1 | (exfalso; omega) | (exfalso; simp_all; done))
set_option maxHeartbeats 4000000 in
set_option maxRecDepth 100000 in
theorem c_X7_workers (l : Launch) (D : va_G) (cy : Nat → ClassId) (a0 : Nat) (f : Nat → Int32) (w : Nat → Nat) (hm : mwIs w f) (hv : ctOk w) (d : Nat) (hd : d < 2 ^ 31) : q_Rd l yX7_workers wsX7_workers 2 D cy [(a0, .inl (cy 0, 29, .inl f))] [.ref a0, .int (nI d)] (fun r => r = nI (ctWks w d (w 4))) := by
  refine q_rd_of (cc := cX7_workers) (maxL := 4) (ret := (some .int)) (by decide) rfl (Nat.le_of_ble_eq_true rfl) ?_
  intro pg en s mi args below meth cd hC hP hK ls hl
  obtain ⟨hx, hb, hr, hml, hown, hts, hlocks⟩ := hC
  have hl : lv_has ls 4 [(0, .ref a0), (1, .int (nI d))] := hl
  obtain ⟨hv0, hv1, hv2, hv3, hv4, hvc⟩ := id hv
  refine lv_iconst (v := nI 0) hx hb dX7_workers_0 (by decide) ?_
  refine lv_istore_n (lv' := [(2, .int (nI 0)), (0, .ref a0), (1, .int (nI d))]) hx hb dX7_workers_1 rfl hl (by decide) rfl (fun ls hl => ?_)
  refine lv_iconst (v := nI 0) hx hb dX7_workers_2 (by decide) ?_
  refine lv_istore_n (lv' := [(3, .int (nI 0)), (2, .int (nI 0)), (0, .ref a0), (1, .int (nI d))]) hx hb dX7_workers_3 rfl hl (by decide) rfl (fun ls hl => ?_)
  have L4_7 : ∀ (fu i : Nat), i ≤ w 4 → w 4 < i + fu → ∀ ls : Array Slot, lv_has ls 4 [(0, .ref a0), (1, .int (nI d)), (2, .int (nI (ctWks w d i))), (3, .int (nI i))] → W pg l en (q_rm 2) s mi args below meth cd s.heap [] 0 0 (MQ below (vp_Si (fun r => r = nI (ctWks w d (w 4)))) args s 0 0 (fun _ => False)) (F0 mi 4 ls []) := by
    intro fu
    induction fu with
    | zero =>
      intro i h1 h2
      exact absurd h2 (by omega)
    | succ fu ih4 =>
      intro i h1_4 h2_4 ls hl
      refine lv_iload_n hx hb dX7_workers_4 rfl (lv_at hl 3 rfl) ?_
      refine lv_aload_n hx hb dX7_workers_5 rfl (lv_at hl 0 rfl) ?_
      refine lv_iconst (v := nI 4) hx hb dX7_workers_6 (by decide) ?_
      refine q_iald (j := 4) (v := nI (w 4)) hx hb hK hP 0 rfl (by omega) (by decide) (hm _ (by omega)) dX7_workers_7 ?_
      refine q_icmp_ge (tgt := 36) hx hb dX7_workers_8 (by decide) (by omega) (by omega) (fun c1 => ?_) (fun c1 => ?_)
      · refine lv_iload_n hx hb dX7_workers_36 rfl (lv_at hl 2 rfl) ?_
        exact q_iret (v := nI (ctWks w d i)) hx hb hr hlocks dX7_workers_37 (by rw [show i = w 4 by omega])
      · refine lv_iload_n hx hb dX7_workers_11 rfl (lv_at hl 2 rfl) ?_
        refine lv_aload_n hx hb dX7_workers_12 rfl (lv_at hl 0 rfl) ?_
        refine lv_iload_n hx hb dX7_workers_13 rfl (lv_at hl 3 rfl) ?_
        refine lv_iload_n hx hb dX7_workers_14 rfl (lv_at hl 1 rfl) ?_
        refine q_rS (As := [.ref a0, .int (nI i), .int (nI d)]) (rest := [.int (nI (ctWks w d i))]) ⟨hx, hb, hml, hown, hts⟩ (c_X7_isAtWork l D cy a0 f w hm hv i d (by omega) (by omega)) (va_cwS 3 hts gX7_workers_X7_isAtWork rfl rfl rfl (by decide +kernel) ⟨Nat.le_of_ble_eq_true rfl, Nat.le_of_ble_eq_true rfl⟩) hP hK [0] rfl rfl hl.1 rfl (Nat.le_of_ble_eq_true rfl) dX7_workers_15 ⟨Nat.zero_le _, Nat.zero_le _⟩ (fun r2 hr2 => ?_)
        rcases hr2 with ⟨rfl, b3⟩ | ⟨rfl, b3⟩
        · refine lv_if_eq (tgt := 27) hx hb dX7_workers_18 (by decide) (fun c9 => absurd c9 (by decide)) (fun _ => ?_)
          refine lv_iconst (v := nI 1) hx hb dX7_workers_21 (by decide) ?_
          refine lv_iload_n hx hb dX7_workers_22 rfl (lv_at hl 3 rfl) ?_
          have hpw := q_pw6 i (by omega)
          refine lv_ishl hx hb dX7_workers_23 ?_
          refine q_top (y := nI (1 * 2 ^ i)) (q_shl (by omega) (by omega)) ?_
          refine lv_goto (tgt := 28) hx hb dX7_workers_24 (by decide) ?_
          refine lv_ior hx hb dX7_workers_28 ?_
          refine q_top (y := nI ((ctWks w d i) ||| (1 * 2 ^ i))) (q_or _ _) ?_
          refine lv_istore_n (lv' := [(2, .int (nI ((ctWks w d i) ||| (1 * 2 ^ i)))), (0, .ref a0), (1, .int (nI d)), (3, .int (nI i))]) hx hb dX7_workers_29 rfl hl (by decide) rfl (fun ls hl => ?_)
          refine lv_iinc (v := nI (i + 1)) (lv' := [(3, .int (nI (i + 1))), (2, .int (nI ((ctWks w d i) ||| (1 * 2 ^ i)))), (0, .ref a0), (1, .int (nI d))]) hx hb dX7_workers_30 hl (k := 3) rfl (q_inc i 1) (by decide) rfl (fun ls hl => ?_)
          refine lv_goto (tgt := 4) hx hb dX7_workers_33 (by decide) ?_
          exact ih4 (i + 1) (by omega) (by omega) ls (q_lset (lv_sub (l' := [(0, .ref a0), (1, .int (nI d)), (2, .int (nI ((ctWks w d i) ||| (1 * 2 ^ i)))), (3, .int (nI (i + 1)))]) hl [2, 3, 1, 0] rfl) (q_c1 (f := fun z2 => ([(0, .ref a0), (1, .int (nI d)), (2, .int (z2)), (3, .int (nI (i + 1)))] : List (Nat × Value))) (show (nI ((ctWks w d i) ||| (1 * 2 ^ i)) : Int32) = nI (ctWks w d (i + 1)) from by simp [ctWks, b3])))
        · refine lv_if_eq (tgt := 27) hx hb dX7_workers_18 (by decide) (fun _ => ?_) (fun c9 => absurd (by decide) c9)
          refine lv_iconst (v := nI 0) hx hb dX7_workers_27 (by decide) ?_
          refine lv_ior hx hb dX7_workers_28 ?_
          refine q_top (y := nI ((ctWks w d i) ||| 0)) (q_or _ _) ?_
          refine lv_istore_n (lv' := [(2, .int (nI ((ctWks w d i) ||| 0))), (0, .ref a0), (1, .int (nI d)), (3, .int (nI i))]) hx hb dX7_workers_29 rfl hl (by decide) rfl (fun ls hl => ?_)
          refine lv_iinc (v := nI (i + 1)) (lv' := [(3, .int (nI (i + 1))), (2, .int (nI ((ctWks w d i) ||| 0))), (0, .ref a0), (1, .int (nI d))]) hx hb dX7_workers_30 hl (k := 3) rfl (q_inc i 1) (by decide) rfl (fun ls hl => ?_)
          refine lv_goto (tgt := 4) hx hb dX7_workers_33 (by decide) ?_
          exact ih4 (i + 1) (by omega) (by omega) ls (q_lset (lv_sub (l' := [(0, .ref a0), (1, .int (nI d)), (2, .int (nI ((ctWks w d i) ||| 0))), (3, .int (nI (i + 1)))]) hl [2, 3, 1, 0] rfl) (q_c1 (f := fun z2 => ([(0, .ref a0), (1, .int (nI d)), (2, .int (z2)), (3, .int (nI (i + 1)))] : List (Nat × Value))) (show (nI ((ctWks w d i) ||| 0) : Int32) = nI (ctWks w d (i + 1)) from by simp [ctWks, b3])))
  exact L4_7 ((w 4) + 1) 0 (by omega) (by omega) ls (q_lset (lv_sub (l' := [(0, .ref a0), (1, .int (nI d)), (2, .int (nI 0)), (3, .int (nI 0))]) hl [2, 3, 1, 0] rfl) (q_c1 (f := fun z2 => ([(0, .ref a0), (1, .int (nI d)), (2, .int (z2)), (3, .int (nI 0))] : List (Nat × Value))) (show (nI 0 : Int32) = nI (ctWks w d 0) from rfl)))
set_option maxHeartbeats 4000000 in
set_option maxRecDepth 100000 in
theorem c_X7_leftBy (l : Launch) (D : va_G) (cy : Nat → ClassId) (a0 : Nat) (f : Nat → Int32) (w : Nat → Nat) (hm : mwIs w f) (hv : ctOk w) (b : Nat) (hb2 : b < 2 ^ 31) : q_Rd l yX7_leftBy wsX7_leftBy 3 D cy [(a0, .inl (cy 0, 29, .inl f))] [.ref a0, .int (nI b)] (fun r => r = nI (ctLb w b (w 4))) := by
  refine q_rd_of (cc := cX7_leftBy) (maxL := 4) (ret := (some .int)) (by decide) rfl (Nat.le_of_ble_eq_true rfl) ?_
  intro pg en s mi args below meth cd hC hP hK ls hl
  obtain ⟨hx, hb, hr, hml, hown, hts, hlocks⟩ := hC
  have hl : lv_has ls 4 [(0, .ref a0), (1, .int (nI b))] := hl
  obtain ⟨hv0, hv1, hv2, hv3, hv4, hvc⟩ := id hv
  refine lv_aload_n hx hb dX7_leftBy_0 rfl (lv_at hl 0 rfl) ?_
  refine q_rS (As := [.ref a0]) (rest := []) ⟨hx, hb, hml, hown, hts⟩ (c_X7_all l D cy a0 f w hm hv) (va_cwS 1 hts gX7_leftBy_X7_all rfl rfl rfl (by decide +kernel) ⟨Nat.le_of_ble_eq_true rfl, Nat.le_of_ble_eq_true rfl⟩) hP hK [0] rfl rfl hl.1 rfl (Nat.le_of_ble_eq_true rfl) dX7_leftBy_1 ⟨Nat.zero_le _, Nat.zero_le _⟩ (fun r1 hr1 => ?_)
  obtain rfl := hr1
  refine lv_istore_n (lv' := [(2, .int (nI (ctAll w))), (0, .ref a0), (1, .int (nI b))]) hx hb dX7_leftBy_4 rfl hl (by decide) rfl (fun ls hl => ?_)
  refine lv_iconst (v := nI 0) hx hb dX7_leftBy_5 (by decide) ?_
  refine lv_istore_n (lv' := [(3, .int (nI 0)), (2, .int (nI (ctAll w))), (0, .ref a0), (1, .int (nI b))]) hx hb dX7_leftBy_6 rfl hl (by decide) rfl (fun ls hl => ?_)
  have L7_9 : ∀ (fu i : Nat), i ≤ w 4 → w 4 < i + fu → ∀ ls : Array Slot, lv_has ls 4 [(0, .ref a0), (1, .int (nI b)), (2, .int (nI (ctLb w b i))), (3, .int (nI i))] → W pg l en (q_rm 3) s mi args below meth cd s.heap [] 0 0 (MQ below (vp_Si (fun r => r = nI (ctLb w b (w 4)))) args s 0 0 (fun _ => False)) (F0 mi 7 ls []) := by
    intro fu
    induction fu with
    | zero =>
      intro i h1 h2
      exact absurd h2 (by omega)
    | succ fu ih7 =>
      intro i h1_7 h2_7 ls hl
      refine lv_iload_n hx hb dX7_leftBy_7 rfl (lv_at hl 3 rfl) ?_
      refine lv_aload_n hx hb dX7_leftBy_8 rfl (lv_at hl 0 rfl) ?_
      refine lv_iconst (v := nI 4) hx hb dX7_leftBy_9 (by decide) ?_
      refine q_iald (j := 4) (v := nI (w 4)) hx hb hK hP 0 rfl (by omega) (by decide) (hm _ (by omega)) dX7_leftBy_10 ?_
      refine q_icmp_ge (tgt := 40) hx hb dX7_leftBy_11 (by decide) (by omega) (by omega) (fun c2 => ?_) (fun c2 => ?_)
      · refine lv_iload_n hx hb dX7_leftBy_40 rfl (lv_at hl 2 rfl) ?_
        exact q_iret (v := nI (ctLb w b i)) hx hb hr hlocks dX7_leftBy_41 (by rw [show i = w 4 by omega])
      · refine lv_iload_n hx hb dX7_leftBy_14 rfl (lv_at hl 2 rfl) ?_
        refine lv_iload_n hx hb dX7_leftBy_15 rfl (lv_at hl 1 rfl) ?_
        refine lv_iload_n hx hb dX7_leftBy_16 rfl (lv_at hl 3 rfl) ?_
        refine q_rS (As := [.int (nI b), .int (nI i)]) (rest := [.int (nI (ctLb w b i))]) ⟨hx, hb, hml, hown, hts⟩ (c_X7_has l D cy b i (by omega) (by omega)) (va_cwS 2 hts gX7_leftBy_X7_has rfl rfl rfl (by decide +kernel) ⟨Nat.le_of_ble_eq_true rfl, Nat.le_of_ble_eq_true rfl⟩) hP hK [] rfl rfl hl.1 rfl (Nat.le_of_ble_eq_true rfl) dX7_leftBy_17 ⟨Nat.zero_le _, Nat.zero_le _⟩ (fun r3 hr3 => ?_)
        rcases hr3 with ⟨rfl, b4⟩ | ⟨rfl, b4⟩
        · refine lv_if_eq (tgt := 31) hx hb dX7_leftBy_20 (by decide) (fun c9 => absurd c9 (by decide)) (fun _ => ?_)
          refine lv_aload_n hx hb dX7_leftBy_23 rfl (lv_at hl 0 rfl) ?_
          refine lv_iload_n hx hb dX7_leftBy_24 rfl (lv_at hl 3 rfl) ?_
          refine q_rS (As := [.ref a0, .int (nI i)]) (rest := [.int (nI (ctLb w b i))]) ⟨hx, hb, hml, hown, hts⟩ (c_X7_leaves l D cy a0 f w hm hv i (by omega)) (va_cwS 2 hts gX7_leftBy_X7_leaves rfl rfl rfl (by decide +kernel) ⟨Nat.le_of_ble_eq_true rfl, Nat.le_of_ble_eq_true rfl⟩) hP hK [0] rfl rfl hl.1 rfl (Nat.le_of_ble_eq_true rfl) dX7_leftBy_25 ⟨Nat.zero_le _, Nat.zero_le _⟩ (fun r5 hr5 => ?_)
          obtain rfl := hr5
          refine lv_goto (tgt := 32) hx hb dX7_leftBy_28 (by decide) ?_
          refine lv_iand hx hb dX7_leftBy_32 ?_
          refine q_top (y := nI ((ctLb w b i) &&& (ctLv w i))) (q_and _ _) ?_
          refine lv_istore_n (lv' := [(2, .int (nI ((ctLb w b i) &&& (ctLv w i)))), (0, .ref a0), (1, .int (nI b)), (3, .int (nI i))]) hx hb dX7_leftBy_33 rfl hl (by decide) rfl (fun ls hl => ?_)
          refine lv_iinc (v := nI (i + 1)) (lv' := [(3, .int (nI (i + 1))), (2, .int (nI ((ctLb w b i) &&& (ctLv w i)))), (0, .ref a0), (1, .int (nI b))]) hx hb dX7_leftBy_34 hl (k := 3) rfl (q_inc i 1) (by decide) rfl (fun ls hl => ?_)
          refine lv_goto (tgt := 7) hx hb dX7_leftBy_37 (by decide) ?_
          exact ih7 (i + 1) (by omega) (by omega) ls (q_lset (lv_sub (l' := [(0, .ref a0), (1, .int (nI b)), (2, .int (nI ((ctLb w b i) &&& (ctLv w i)))), (3, .int (nI (i + 1)))]) hl [2, 3, 1, 0] rfl) (q_c1 (f := fun z2 => ([(0, .ref a0), (1, .int (nI b)), (2, .int (z2)), (3, .int (nI (i + 1)))] : List (Nat × Value))) (show (nI ((ctLb w b i) &&& (ctLv w i)) : Int32) = nI (ctLb w b (i + 1)) from by simp [ctLb, b4])))
        · refine lv_if_eq (tgt := 31) hx hb dX7_leftBy_20 (by decide) (fun _ => ?_) (fun c9 => absurd (by decide) c9)
          refine lv_iconst (v := (-1)) hx hb dX7_leftBy_31 (by decide) ?_
          refine lv_iand hx hb dX7_leftBy_32 ?_
          refine q_top (y := nI (ctLb w b i)) (q_andm1 _) ?_
          refine lv_istore_n (lv' := [(2, .int (nI (ctLb w b i))), (0, .ref a0), (1, .int (nI b)), (3, .int (nI i))]) hx hb dX7_leftBy_33 rfl hl (by decide) rfl (fun ls hl => ?_)
          refine lv_iinc (v := nI (i + 1)) (lv' := [(3, .int (nI (i + 1))), (2, .int (nI (ctLb w b i))), (0, .ref a0), (1, .int (nI b))]) hx hb dX7_leftBy_34 hl (k := 3) rfl (q_inc i 1) (by decide) rfl (fun ls hl => ?_)
          refine lv_goto (tgt := 7) hx hb dX7_leftBy_37 (by decide) ?_
          exact ih7 (i + 1) (by omega) (by omega) ls (q_lset (lv_sub (l' := [(0, .ref a0), (1, .int (nI b)), (2, .int (nI (ctLb w b i))), (3, .int (nI (i + 1)))]) hl [2, 3, 1, 0] rfl) (q_c1 (f := fun z2 => ([(0, .ref a0), (1, .int (nI b)), (2, .int (z2)), (3, .int (nI (i + 1)))] : List (Nat × Value))) (show (nI (ctLb w b i) : Int32) = nI (ctLb w b (i + 1)) from by simp [ctLb, b4])))
  exact L7_9 ((w 4) + 1) 0 (by omega) (by omega) ls (q_lset (lv_sub (l' := [(0, .ref a0), (1, .int (nI b)), (2, .int (nI (ctAll w))), (3, .int (nI 0))]) hl [2, 3, 1, 0] rfl) (q_c1 (f := fun z2 => ([(0, .ref a0), (1, .int (nI b)), (2, .int (z2)), (3, .int (nI 0))] : List (Nat × Value))) (show (nI (ctAll w) : Int32) = nI (ctLb w b 0) from rfl)))
set_option maxHeartbeats 4000000 in
set_option maxRecDepth 100000 in
theorem c_X7_leftOn (l : Launch) (D : va_G) (cy : Nat → ClassId) (a0 : Nat) (f : Nat → Int32) (w : Nat → Nat) (hm : mwIs w f) (hv : ctOk w) (d : Nat) (hd : d < 2 ^ 31) : q_Rd l yX7_leftOn wsX7_leftOn 4 D cy [(a0, .inl (cy 0, 29, .inl f))] [.ref a0, .int (nI d)] (fun r => r = nI (ctLeft w d)) := by
  refine q_rd_of (cc := cX7_leftOn) (maxL := 2) (ret := (some .int)) (by decide) rfl (Nat.le_of_ble_eq_true rfl) ?_
  intro pg en s mi args below meth cd hC hP hK ls hl
  obtain ⟨hx, hb, hr, hml, hown, hts, hlocks⟩ := hC
  have hl : lv_has ls 2 [(0, .ref a0), (1, .int (nI d))] := hl
  obtain ⟨hv0, hv1, hv2, hv3, hv4, hvc⟩ := id hv
  refine lv_aload_n hx hb dX7_leftOn_0 rfl (lv_at hl 0 rfl) ?_
  refine lv_aload_n hx hb dX7_leftOn_1 rfl (lv_at hl 0 rfl) ?_
  refine lv_iload_n hx hb dX7_leftOn_2 rfl (lv_at hl 1 rfl) ?_
  refine q_rS (As := [.ref a0, .int (nI d)]) (rest := [.ref a0]) ⟨hx, hb, hml, hown, hts⟩ (c_X7_workers l D cy a0 f w hm hv d (by omega)) (va_cwS 2 hts gX7_leftOn_X7_workers rfl rfl rfl (by decide +kernel) ⟨Nat.le_of_ble_eq_true rfl, Nat.le_of_ble_eq_true rfl⟩) hP hK [0] rfl rfl hl.1 rfl (Nat.le_of_ble_eq_true rfl) dX7_leftOn_3 ⟨Nat.zero_le _, Nat.zero_le _⟩ (fun r1 hr1 => ?_)
  obtain rfl := hr1
  have hwl := ctWks_lt w d (w 4) hv4
  refine q_rS (As := [.ref a0, .int (nI (ctWks w d (w 4)))]) (rest := []) ⟨hx, hb, hml, hown, hts⟩ (c_X7_leftBy l D cy a0 f w hm hv (ctWks w d (w 4)) (by omega)) (va_cwS 2 hts gX7_leftOn_X7_leftBy rfl rfl rfl (by decide +kernel) ⟨Nat.le_of_ble_eq_true rfl, Nat.le_of_ble_eq_true rfl⟩) hP hK [0] rfl rfl hl.1 rfl (Nat.le_of_ble_eq_true rfl) dX7_leftOn_6 ⟨Nat.zero_le _, Nat.zero_le _⟩ (fun r2 hr2 => ?_)
  obtain rfl := hr2
  exact q_iret (v := nI (ctLb w (ctWks w d (w 4)) (w 4))) hx hb hr hlocks dX7_leftOn_9 (rfl)

set_option maxHeartbeats 4000000 in
set_option maxRecDepth 100000 in
/-- isIn(set, one) -/
theorem c_X6_isIn (l : Launch) (D : va_G) (cy : Nat → ClassId) (a b : Nat) (ha : a < 2 ^ 31) (hb2 : b < 32) : q_Rd l yX6_isIn wsX6_isIn 1 D cy [] [.int (nI a), .int (nI b)] (fun r => r = nI 1 ∧ a.testBit b = true ∨ r = nI 0 ∧ ¬ a.testBit b = true) := by
  refine q_rd_of (cc := cX6_isIn) (maxL := 2) (ret := (some .boolean)) (by decide) rfl (Nat.le_of_ble_eq_true rfl) ?_
  intro pg en s mi args below meth cd hC hP hK ls hl
  obtain ⟨hx, hb, hr, hml, hown, hts, hlocks⟩ := hC
  have hl : lv_has ls 2 [(0, .int (nI a)), (1, .int (nI b))] := hl
  refine lv_iload_n hx hb dX6_isIn_0 rfl (lv_at hl 0 rfl) ?_
  refine lv_iload_n hx hb dX6_isIn_1 rfl (lv_at hl 1 rfl) ?_
  refine lv_ishr hx hb dX6_isIn_2 ?_
  refine q_top (y := nI (a / 2 ^ b)) (q_shr (by omega) (by omega)) ?_
  refine lv_iconst (v := nI 1) hx hb dX6_isIn_3 (by decide) ?_
  refine lv_iand hx hb dX6_isIn_4 ?_
  refine q_top (y := nI ((a / 2 ^ b) &&& 1)) (q_and _ _) ?_
  refine lv_iconst (v := nI 1) hx hb dX6_isIn_5 (by decide) ?_
  have hlt := q_tb_lt a b
  refine q_icmp_ne (tgt := 13) hx hb dX6_isIn_6 (by decide) (by omega) (by decide) (fun c1 => ?_) (fun c1 => ?_)
  · refine lv_iconst (v := nI 0) hx hb dX6_isIn_13 (by decide) ?_
    exact q_zret (v := nI 0) hx hb hr hlocks dX6_isIn_14 (by decide) (Or.inr ⟨rfl, fun q => absurd ((q_tb a b).mp q) (by omega)⟩)
  · refine lv_iconst (v := nI 1) hx hb dX6_isIn_9 (by decide) ?_
    refine lv_goto (tgt := 14) hx hb dX6_isIn_10 (by decide) ?_
    exact q_zret (v := nI 1) hx hb hr hlocks dX6_isIn_14 (by decide) (Or.inl ⟨rfl, (q_tb a b).mpr (by omega)⟩)
set_option maxHeartbeats 4000000 in
set_option maxRecDepth 100000 in
/-- isWithin(n, least, most) -/
theorem c_X6_isWithin (l : Launch) (D : va_G) (cy : Nat → ClassId) (x lo hi : Int32) : q_Rd l yX6_isWithin wsX6_isWithin 1 D cy [] [.int (x), .int (lo), .int (hi)] (fun r => r = nI 1 ∧ (lo ≤ x ∧ x ≤ hi) ∨ r = nI 0 ∧ ¬ (lo ≤ x ∧ x ≤ hi)) := by
  refine q_rd_of (cc := cX6_isWithin) (maxL := 3) (ret := (some .boolean)) (by decide) rfl (Nat.le_of_ble_eq_true rfl) ?_
  intro pg en s mi args below meth cd hC hP hK ls hl
  obtain ⟨hx, hb, hr, hml, hown, hts, hlocks⟩ := hC
  have hl : lv_has ls 3 [(0, .int (x)), (1, .int (lo)), (2, .int (hi))] := hl
  refine lv_iload_n hx hb dX6_isWithin_0 rfl (lv_at hl 0 rfl) ?_
  refine lv_iload_n hx hb dX6_isWithin_1 rfl (lv_at hl 1 rfl) ?_
  refine lv_icmp_lt (tgt := 14) hx hb dX6_isWithin_2 (by decide) (fun c1 => ?_) (fun c1 => ?_)
  · refine lv_iconst (v := nI 0) hx hb dX6_isWithin_14 (by decide) ?_
    exact q_zret (v := nI 0) hx hb hr hlocks dX6_isWithin_15 (by decide) (Or.inr ⟨rfl, q_win2 c1⟩)
  · refine lv_iload_n hx hb dX6_isWithin_5 rfl (lv_at hl 0 rfl) ?_
    refine lv_iload_n hx hb dX6_isWithin_6 rfl (lv_at hl 2 rfl) ?_
    refine lv_icmp_gt (tgt := 14) hx hb dX6_isWithin_7 (by decide) (fun c2 => ?_) (fun c2 => ?_)
    · refine lv_iconst (v := nI 0) hx hb dX6_isWithin_14 (by decide) ?_
      exact q_zret (v := nI 0) hx hb hr hlocks dX6_isWithin_15 (by decide) (Or.inr ⟨rfl, q_win3 c2⟩)
    · refine lv_iconst (v := nI 1) hx hb dX6_isWithin_10 (by decide) ?_
      refine lv_goto (tgt := 15) hx hb dX6_isWithin_11 (by decide) ?_
      exact q_zret (v := nI 1) hx hb hr hlocks dX6_isWithin_15 (by decide) (Or.inl ⟨rfl, q_win1 c1 c2⟩)
theorem nX2_stands_0 : ∀ w ∈ wsX20, w ∈ wsX2_stands := by decide +kernel
theorem mX2_stands_1 : Cond.fieldLink RX2 24 "ClueLeave$City" "suspects" "I" ∈ wsX2_stands := by decide +kernel
set_option maxHeartbeats 4000000 in
set_option maxRecDepth 100000 in
theorem c_X2_stands (l : Launch) (D : va_G) (cy : Nat → ClassId) (h kA tA eA oA : Nat) (w : Nat → Nat) (fk ft fe fo : Nat → Int32) (hw : ctIs w fk ft fe fo) (hv : ctOk w) : q_Rd l yX2_stands wsX2_stands 1 D cy [(h, .inr (2, [.int (nI (w 0)), .int (nI (w 1)), .int (nI (w 2)), .int (nI (w 4)), .int (nI (w 3)), .ref kA, .ref tA, .ref eA, .ref oA])), (kA, .inl (cy 0, 6, .inl fk)), (tA, .inl (cy 0, 6, .inl ft)), (eA, .inl (cy 0, 6, .inl fe)), (oA, .inl (cy 0, 6, .inl fo))] [.ref h] (fun r => r = nI 1 ∧ 0 < w 0 ∨ r = nI 0 ∧ ¬ 0 < w 0) := by
  refine q_rd_of (cc := cX2_stands) (maxL := 1) (ret := (some .boolean)) (by decide) rfl (Nat.le_of_ble_eq_true rfl) ?_
  intro pg en s mi args below meth cd hC hP hK ls hl
  obtain ⟨hx, hb, hr, hml, hown, hts, hlocks⟩ := hC
  have hl : lv_has ls 1 [(0, .ref h)] := hl
  obtain ⟨hv0, hv1, hv2, hv3, hv4, hvc⟩ := id hv
  refine lv_aload_n hx hb dX2_stands_0 rfl (lv_at hl 0 rfl) ?_
  refine va_get (D := D) (ci := 2) (v := .int (nI (w 0))) (C := RX2) (T := TX2) (N := 9) hx hb hts nX2_stands_0 hown hK.1 hP 0 rfl rfl 0 (by decide) (hts _ mX2_stands_1) (fun _ h9 => h9) rfl dX2_stands_1 ?_
  refine q_if_le (tgt := 11) hx hb dX2_stands_4 (by decide) (by omega) (fun c1 => ?_) (fun c1 => ?_)
  · refine lv_iconst (v := nI 0) hx hb dX2_stands_11 (by decide) ?_
    exact q_zret (v := nI 0) hx hb hr hlocks dX2_stands_12 (by decide) (Or.inr ⟨rfl, by omega⟩)
  · refine lv_iconst (v := nI 1) hx hb dX2_stands_7 (by decide) ?_
    refine lv_goto (tgt := 12) hx hb dX2_stands_8 (by decide) ?_
    exact q_zret (v := nI 1) hx hb hr hlocks dX2_stands_12 (by decide) (Or.inl ⟨rfl, by omega⟩)
theorem nX2_has_0 : ∀ w ∈ wsX20, w ∈ wsX2_has := by decide +kernel
theorem mX2_has_1 : Cond.fieldLink RX2 28 "ClueLeave$City" "clues" "I" ∈ wsX2_has := by decide +kernel
set_option maxHeartbeats 4000000 in
set_option maxRecDepth 100000 in
theorem c_X2_has (l : Launch) (D : va_G) (cy : Nat → ClassId) (h kA tA eA oA : Nat) (w : Nat → Nat) (fk ft fe fo : Nat → Int32) (hw : ctIs w fk ft fe fo) (hv : ctOk w) (x : Int32) : q_Rd l yX2_has wsX2_has 1 D cy [(h, .inr (2, [.int (nI (w 0)), .int (nI (w 1)), .int (nI (w 2)), .int (nI (w 4)), .int (nI (w 3)), .ref kA, .ref tA, .ref eA, .ref oA])), (kA, .inl (cy 0, 6, .inl fk)), (tA, .inl (cy 0, 6, .inl ft)), (eA, .inl (cy 0, 6, .inl fe)), (oA, .inl (cy 0, 6, .inl fo))] [.ref h, .int (x)] (fun r => r = nI 1 ∧ (∃ c : Nat, c < w 4 ∧ x = nI c) ∨ r = nI 0 ∧ ¬ (∃ c : Nat, c < w 4 ∧ x = nI c)) := by
  refine q_rd_of (cc := cX2_has) (maxL := 2) (ret := (some .boolean)) (by decide) rfl (Nat.le_of_ble_eq_true rfl) ?_
  intro pg en s mi args below meth cd hC hP hK ls hl
  obtain ⟨hx, hb, hr, hml, hown, hts, hlocks⟩ := hC
  have hl : lv_has ls 2 [(0, .ref h), (1, .int (x))] := hl
  obtain ⟨hv0, hv1, hv2, hv3, hv4, hvc⟩ := id hv
  refine lv_iload_n hx hb dX2_has_0 rfl (lv_at hl 1 rfl) ?_
  refine lv_if_lt (tgt := 16) hx hb dX2_has_1 (by decide) (fun c1 => ?_) (fun c1 => ?_)
  · refine lv_iconst (v := nI 0) hx hb dX2_has_16 (by decide) ?_
    exact q_zret (v := nI 0) hx hb hr hlocks dX2_has_17 (by decide) (Or.inr ⟨rfl, q_has2 c1 (by omega)⟩)
  · refine lv_iload_n hx hb dX2_has_4 rfl (lv_at hl 1 rfl) ?_
    refine lv_aload_n hx hb dX2_has_5 rfl (lv_at hl 0 rfl) ?_
    refine va_get (D := D) (ci := 2) (v := .int (nI (w 4))) (C := RX2) (T := TX2) (N := 9) hx hb hts nX2_has_0 hown hK.1 hP 0 rfl rfl 3 (by decide) (hts _ mX2_has_1) (fun _ h9 => h9) rfl dX2_has_6 ?_
    refine lv_icmp_ge (tgt := 16) hx hb dX2_has_9 (by decide) (fun c2 => ?_) (fun c2 => ?_)
    · refine lv_iconst (v := nI 0) hx hb dX2_has_16 (by decide) ?_
      exact q_zret (v := nI 0) hx hb hr hlocks dX2_has_17 (by decide) (Or.inr ⟨rfl, q_has3 c2 (by omega)⟩)
    · refine lv_iconst (v := nI 1) hx hb dX2_has_12 (by decide) ?_
      refine lv_goto (tgt := 17) hx hb dX2_has_13 (by decide) ?_
      exact q_zret (v := nI 1) hx hb hr hlocks dX2_has_17 (by decide) (Or.inl ⟨rfl, q_has1 c1 c2 (by omega)⟩)
theorem nX2_everyone_0 : ∀ w ∈ wsX20, w ∈ wsX2_everyone := by decide +kernel
theorem mX2_everyone_1 : Cond.fieldLink RX2 24 "ClueLeave$City" "suspects" "I" ∈ wsX2_everyone := by decide +kernel
set_option maxHeartbeats 4000000 in
set_option maxRecDepth 100000 in
theorem c_X2_everyone (l : Launch) (D : va_G) (cy : Nat → ClassId) (h kA tA eA oA : Nat) (w : Nat → Nat) (fk ft fe fo : Nat → Int32) (hw : ctIs w fk ft fe fo) (hv : ctOk w) : q_Rd l yX2_everyone wsX2_everyone 1 D cy [(h, .inr (2, [.int (nI (w 0)), .int (nI (w 1)), .int (nI (w 2)), .int (nI (w 4)), .int (nI (w 3)), .ref kA, .ref tA, .ref eA, .ref oA])), (kA, .inl (cy 0, 6, .inl fk)), (tA, .inl (cy 0, 6, .inl ft)), (eA, .inl (cy 0, 6, .inl fe)), (oA, .inl (cy 0, 6, .inl fo))] [.ref h] (fun r => r = nI (ctAll w)) := by
  refine q_rd_of (cc := cX2_everyone) (maxL := 1) (ret := (some .int)) (by decide) rfl (Nat.le_of_ble_eq_true rfl) ?_
  intro pg en s mi args below meth cd hC hP hK ls hl
  obtain ⟨hx, hb, hr, hml, hown, hts, hlocks⟩ := hC
  have hl : lv_has ls 1 [(0, .ref h)] := hl
  obtain ⟨hv0, hv1, hv2, hv3, hv4, hvc⟩ := id hv
  refine lv_iconst (v := nI 1) hx hb dX2_everyone_0 (by decide) ?_
  refine lv_aload_n hx hb dX2_everyone_1 rfl (lv_at hl 0 rfl) ?_
  refine va_get (D := D) (ci := 2) (v := .int (nI (w 0))) (C := RX2) (T := TX2) (N := 9) hx hb hts nX2_everyone_0 hown hK.1 hP 0 rfl rfl 0 (by decide) (hts _ mX2_everyone_1) (fun _ h9 => h9) rfl dX2_everyone_2 ?_
  have hpw := q_pw (w 0) hv0
  refine lv_ishl hx hb dX2_everyone_5 ?_
  refine q_top (y := nI (1 * 2 ^ (w 0))) (q_shl (by omega) (by omega)) ?_
  refine lv_iconst (v := nI 1) hx hb dX2_everyone_6 (by decide) ?_
  refine lv_isub hx hb dX2_everyone_7 ?_
  refine q_top (y := nI (ctAll w)) (by rw [Nat.one_mul]; exact pk_sub (a := 2 ^ w 0) (b := 1) hpw.1) ?_
  exact q_iret (v := nI (ctAll w)) hx hb hr hlocks dX2_everyone_8 (rfl)
theorem nX2_isBribed_0 : ∀ w ∈ wsX20, w ∈ wsX2_isBribed := by decide +kernel
theorem mX2_isBribed_1 : Cond.fieldLink RX2 37 "ClueLeave$City" "bribed" "I" ∈ wsX2_isBribed := by decide +kernel
theorem mX2_isBribed_2 : Cond.initialized RX6 ∈ wsX2_isBribed := by decide +kernel
theorem mX2_isBribed_3 : Cond.static yX6_isIn ∈ wsX2_isBribed := by decide +kernel
set_option maxHeartbeats 4000000 in
set_option maxRecDepth 100000 in
theorem c_X2_isBribed (l : Launch) (D : va_G) (cy : Nat → ClassId) (h kA tA eA oA : Nat) (w : Nat → Nat) (fk ft fe fo : Nat → Int32) (hw : ctIs w fk ft fe fo) (hv : ctOk w) (c : Nat) (hc : c < 32) : q_Rd l yX2_isBribed wsX2_isBribed 2 D cy [(h, .inr (2, [.int (nI (w 0)), .int (nI (w 1)), .int (nI (w 2)), .int (nI (w 4)), .int (nI (w 3)), .ref kA, .ref tA, .ref eA, .ref oA])), (kA, .inl (cy 0, 6, .inl fk)), (tA, .inl (cy 0, 6, .inl ft)), (eA, .inl (cy 0, 6, .inl fe)), (oA, .inl (cy 0, 6, .inl fo))] [.ref h, .int (nI c)] (fun r => r = nI 1 ∧ (w 3).testBit c = true ∨ r = nI 0 ∧ ¬ (w 3).testBit c = true) := by
  refine q_rd_of (cc := cX2_isBribed) (maxL := 2) (ret := (some .boolean)) (by decide) rfl (Nat.le_of_ble_eq_true rfl) ?_
  intro pg en s mi args below meth cd hC hP hK ls hl
  obtain ⟨hx, hb, hr, hml, hown, hts, hlocks⟩ := hC
  have hl : lv_has ls 2 [(0, .ref h), (1, .int (nI c))] := hl
  obtain ⟨hv0, hv1, hv2, hv3, hv4, hvc⟩ := id hv
  refine lv_aload_n hx hb dX2_isBribed_0 rfl (lv_at hl 0 rfl) ?_
  refine va_get (D := D) (ci := 2) (v := .int (nI (w 3))) (C := RX2) (T := TX2) (N := 9) hx hb hts nX2_isBribed_0 hown hK.1 hP 0 rfl rfl 4 (by decide) (hts _ mX2_isBribed_1) (fun _ h9 => h9) rfl dX2_isBribed_1 ?_
  refine lv_iload_n hx hb dX2_isBribed_4 rfl (lv_at hl 1 rfl) ?_
  refine q_rN (As := [.int (nI (w 3)), .int (nI c)]) (rest := []) ⟨hx, hb, hml, hown, hts⟩ (c_X6_isIn l D cy (w 3) c (by omega) (by omega)) ⟨va_cnB (host := "ClueLeave") 2 hts gX2_isBribed_X6_isIn_n46 rfl rfl rfl (hK.2 _ (by decide +kernel)) (hts _ mX2_isBribed_2) (by decide +kernel) ⟨Nat.le_of_ble_eq_true rfl, Nat.le_of_ble_eq_true rfl⟩, hts _ mX2_isBribed_3, trivial⟩ hP hK [] rfl rfl hl.1 rfl (Nat.le_of_ble_eq_true rfl) dX2_isBribed_5 ⟨Nat.zero_le _, Nat.zero_le _⟩ (fun r1 hr1 => ?_)
  rcases hr1 with ⟨rfl, b2⟩ | ⟨rfl, b2⟩
  · exact q_zret (v := nI 1) hx hb hr hlocks dX2_isBribed_8 (by decide) (Or.inl ⟨rfl, b2⟩)
  · exact q_zret (v := nI 0) hx hb hr hlocks dX2_isBribed_8 (by decide) (Or.inr ⟨rfl, b2⟩)
theorem nX2_worksOn_0 : ∀ w ∈ wsX20, w ∈ wsX2_worksOn := by decide +kernel
theorem mX2_worksOn_1 : Cond.fieldLink RX2 9 "ClueLeave$City" "kinds" "[I" ∈ wsX2_worksOn := by decide +kernel
theorem mX2_worksOn_2 : Cond.fieldLink RX2 18 "ClueLeave$City" "every" "[I" ∈ wsX2_worksOn := by decide +kernel
theorem mX2_worksOn_3 : Cond.fieldLink RX2 21 "ClueLeave$City" "off" "[I" ∈ wsX2_worksOn := by decide +kernel
theorem mX2_worksOn_4 : Cond.fieldLink RX2 31 "ClueLeave$City" "sunday" "I" ∈ wsX2_worksOn := by decide +kernel
set_option maxHeartbeats 4000000 in
set_option maxRecDepth 100000 in
theorem c_X2_worksOn (l : Launch) (D : va_G) (cy : Nat → ClassId) (h kA tA eA oA : Nat) (w : Nat → Nat) (fk ft fe fo : Nat → Int32) (hw : ctIs w fk ft fe fo) (hv : ctOk w) (c d : Nat) (hc : c < w 4) (hd : d < 2 ^ 31) : q_Rd l yX2_worksOn wsX2_worksOn 1 D cy [(h, .inr (2, [.int (nI (w 0)), .int (nI (w 1)), .int (nI (w 2)), .int (nI (w 4)), .int (nI (w 3)), .ref kA, .ref tA, .ref eA, .ref oA])), (kA, .inl (cy 0, 6, .inl fk)), (tA, .inl (cy 0, 6, .inl ft)), (eA, .inl (cy 0, 6, .inl fe)), (oA, .inl (cy 0, 6, .inl fo))] [.ref h, .int (nI c), .int (nI d)] (fun r => r = nI 1 ∧ ctWk w c d = true ∨ r = nI 0 ∧ ¬ ctWk w c d = true) := by
  refine q_rd_of (cc := cX2_worksOn) (maxL := 3) (ret := (some .boolean)) (by decide) rfl (Nat.le_of_ble_eq_true rfl) ?_
  intro pg en s mi args below meth cd hC hP hK ls hl
  obtain ⟨hx, hb, hr, hml, hown, hts, hlocks⟩ := hC
  have hl : lv_has ls 3 [(0, .ref h), (1, .int (nI c)), (2, .int (nI d))] := hl
  obtain ⟨hv0, hv1, hv2, hv3, hv4, hvc⟩ := id hv
  obtain ⟨hk1, hk5, ht1, ht2, he2, he4, ho1⟩ := hvc c hc
  have hdm := Nat.mod_le d (ctE w c)
  refine lv_aload_n hx hb dX2_worksOn_0 rfl (lv_at hl 0 rfl) ?_
  refine va_get (D := D) (ci := 2) (v := .ref kA) (C := RX2) (T := TX2) (N := 9) hx hb hts nX2_worksOn_0 hown hK.1 hP 0 rfl rfl 5 (by decide) (hts _ mX2_worksOn_1) (fun _ h9 => h9) rfl dX2_worksOn_1 ?_
  refine lv_iload_n hx hb dX2_worksOn_4 rfl (lv_at hl 1 rfl) ?_
  refine q_iald (j := c) (v := nI (ctK w c)) hx hb hK hP 1 rfl (by omega) (by decide) (ctIs_0 hw (by omega)) dX2_worksOn_5 ?_
  refine lv_iconst (v := nI 5) hx hb dX2_worksOn_6 (by decide) ?_
  refine q_icmp_ne (tgt := 12) hx hb dX2_worksOn_7 (by decide) (by omega) (by decide) (fun c1 => ?_) (fun c1 => ?_)
  · refine lv_aload_n hx hb dX2_worksOn_12 rfl (lv_at hl 0 rfl) ?_
    refine va_get (D := D) (ci := 2) (v := .ref kA) (C := RX2) (T := TX2) (N := 9) hx hb hts nX2_worksOn_0 hown hK.1 hP 0 rfl rfl 5 (by decide) (hts _ mX2_worksOn_1) (fun _ h9 => h9) rfl dX2_worksOn_13 ?_
    refine lv_iload_n hx hb dX2_worksOn_16 rfl (lv_at hl 1 rfl) ?_
    refine q_iald (j := c) (v := nI (ctK w c)) hx hb hK hP 1 rfl (by omega) (by decide) (ctIs_0 hw (by omega)) dX2_worksOn_17 ?_
    refine lv_iconst (v := nI 2) hx hb dX2_worksOn_18 (by decide) ?_
    refine q_icmp_ne (tgt := 35) hx hb dX2_worksOn_19 (by decide) (by omega) (by decide) (fun c2 => ?_) (fun c2 => ?_)
    · refine lv_aload_n hx hb dX2_worksOn_35 rfl (lv_at hl 0 rfl) ?_
      refine va_get (D := D) (ci := 2) (v := .ref eA) (C := RX2) (T := TX2) (N := 9) hx hb hts nX2_worksOn_0 hown hK.1 hP 0 rfl rfl 7 (by decide) (hts _ mX2_worksOn_2) (fun _ h9 => h9) rfl dX2_worksOn_36 ?_
      refine lv_iload_n hx hb dX2_worksOn_39 rfl (lv_at hl 1 rfl) ?_
      refine q_iald (j := c) (v := nI (ctE w c)) hx hb hK hP 3 rfl (by omega) (by decide) (ctIs_2 hw (by omega)) dX2_worksOn_40 ?_
      refine q_if_le (tgt := 61) hx hb dX2_worksOn_41 (by decide) (by omega) (fun c3 => absurd c3 (by omega)) (fun c3 => ?_)
      refine lv_iload_n hx hb dX2_worksOn_44 rfl (lv_at hl 2 rfl) ?_
      refine lv_aload_n hx hb dX2_worksOn_45 rfl (lv_at hl 0 rfl) ?_
      refine va_get (D := D) (ci := 2) (v := .ref eA) (C := RX2) (T := TX2) (N := 9) hx hb hts nX2_worksOn_0 hown hK.1 hP 0 rfl rfl 7 (by decide) (hts _ mX2_worksOn_2) (fun _ h9 => h9) rfl dX2_worksOn_46 ?_
      refine lv_iload_n hx hb dX2_worksOn_49 rfl (lv_at hl 1 rfl) ?_
      refine q_iald (j := c) (v := nI (ctE w c)) hx hb hK hP 3 rfl (by omega) (by decide) (ctIs_2 hw (by omega)) dX2_worksOn_50 ?_
      refine lv_irem hx hb dX2_worksOn_51 (q_ne0 (by omega) (by omega)) ?_
      refine q_top (y := nI (d % (ctE w c))) (pk_rem (a := d) (d := (ctE w c)) (by omega) (by omega) (by omega)) ?_
      refine lv_aload_n hx hb dX2_worksOn_52 rfl (lv_at hl 0 rfl) ?_
      refine va_get (D := D) (ci := 2) (v := .ref oA) (C := RX2) (T := TX2) (N := 9) hx hb hts nX2_worksOn_0 hown hK.1 hP 0 rfl rfl 8 (by decide) (hts _ mX2_worksOn_3) (fun _ h9 => h9) rfl dX2_worksOn_53 ?_
      refine lv_iload_n hx hb dX2_worksOn_56 rfl (lv_at hl 1 rfl) ?_
      refine q_iald (j := c) (v := nI (ctO w c)) hx hb hK hP 4 rfl (by omega) (by decide) (ctIs_3 hw (by omega)) dX2_worksOn_57 ?_
      refine q_icmp_eq (tgt := 65) hx hb dX2_worksOn_58 (by decide) (by omega) (by omega) (fun c4 => ?_) (fun c4 => ?_)
      · refine lv_iconst (v := nI 0) hx hb dX2_worksOn_65 (by decide) ?_
        exact q_zret (v := nI 0) hx hb hr hlocks dX2_worksOn_66 (by decide) (Or.inr ⟨rfl, by unfold ctWk; simp_all⟩)
      · refine lv_iconst (v := nI 1) hx hb dX2_worksOn_61 (by decide) ?_
        refine lv_goto (tgt := 66) hx hb dX2_worksOn_62 (by decide) ?_
        exact q_zret (v := nI 1) hx hb hr hlocks dX2_worksOn_66 (by decide) (Or.inl ⟨rfl, by unfold ctWk; simp_all⟩)
    · refine lv_iload_n hx hb dX2_worksOn_22 rfl (lv_at hl 2 rfl) ?_
      refine lv_bipush (v := nI 7) hx hb dX2_worksOn_23 (by decide) ?_
      refine lv_irem hx hb dX2_worksOn_25 (by decide) ?_
      refine q_top (y := nI (d % 7)) (pk_rem (a := d) (d := 7) (by omega) (by omega) (by decide)) ?_
      refine lv_aload_n hx hb dX2_worksOn_26 rfl (lv_at hl 0 rfl) ?_
      refine va_get (D := D) (ci := 2) (v := .int (nI (w 1))) (C := RX2) (T := TX2) (N := 9) hx hb hts nX2_worksOn_0 hown hK.1 hP 0 rfl rfl 1 (by decide) (hts _ mX2_worksOn_4) (fun _ h9 => h9) rfl dX2_worksOn_27 ?_
      refine q_icmp_ne (tgt := 35) hx hb dX2_worksOn_30 (by decide) (by omega) (by omega) (fun c5 => ?_) (fun c5 => ?_)
      · refine lv_aload_n hx hb dX2_worksOn_35 rfl (lv_at hl 0 rfl) ?_
        refine va_get (D := D) (ci := 2) (v := .ref eA) (C := RX2) (T := TX2) (N := 9) hx hb hts nX2_worksOn_0 hown hK.1 hP 0 rfl rfl 7 (by decide) (hts _ mX2_worksOn_2) (fun _ h9 => h9) rfl dX2_worksOn_36 ?_
        refine lv_iload_n hx hb dX2_worksOn_39 rfl (lv_at hl 1 rfl) ?_
        refine q_iald (j := c) (v := nI (ctE w c)) hx hb hK hP 3 rfl (by omega) (by decide) (ctIs_2 hw (by omega)) dX2_worksOn_40 ?_
        refine q_if_le (tgt := 61) hx hb dX2_worksOn_41 (by decide) (by omega) (fun c6 => absurd c6 (by omega)) (fun c6 => ?_)
        refine lv_iload_n hx hb dX2_worksOn_44 rfl (lv_at hl 2 rfl) ?_
        refine lv_aload_n hx hb dX2_worksOn_45 rfl (lv_at hl 0 rfl) ?_
        refine va_get (D := D) (ci := 2) (v := .ref eA) (C := RX2) (T := TX2) (N := 9) hx hb hts nX2_worksOn_0 hown hK.1 hP 0 rfl rfl 7 (by decide) (hts _ mX2_worksOn_2) (fun _ h9 => h9) rfl dX2_worksOn_46 ?_
        refine lv_iload_n hx hb dX2_worksOn_49 rfl (lv_at hl 1 rfl) ?_
        refine q_iald (j := c) (v := nI (ctE w c)) hx hb hK hP 3 rfl (by omega) (by decide) (ctIs_2 hw (by omega)) dX2_worksOn_50 ?_
        refine lv_irem hx hb dX2_worksOn_51 (q_ne0 (by omega) (by omega)) ?_
        refine q_top (y := nI (d % (ctE w c))) (pk_rem (a := d) (d := (ctE w c)) (by omega) (by omega) (by omega)) ?_
        refine lv_aload_n hx hb dX2_worksOn_52 rfl (lv_at hl 0 rfl) ?_
        refine va_get (D := D) (ci := 2) (v := .ref oA) (C := RX2) (T := TX2) (N := 9) hx hb hts nX2_worksOn_0 hown hK.1 hP 0 rfl rfl 8 (by decide) (hts _ mX2_worksOn_3) (fun _ h9 => h9) rfl dX2_worksOn_53 ?_
        refine lv_iload_n hx hb dX2_worksOn_56 rfl (lv_at hl 1 rfl) ?_
        refine q_iald (j := c) (v := nI (ctO w c)) hx hb hK hP 4 rfl (by omega) (by decide) (ctIs_3 hw (by omega)) dX2_worksOn_57 ?_
        refine q_icmp_eq (tgt := 65) hx hb dX2_worksOn_58 (by decide) (by omega) (by omega) (fun c7 => ?_) (fun c7 => ?_)
        · refine lv_iconst (v := nI 0) hx hb dX2_worksOn_65 (by decide) ?_
          exact q_zret (v := nI 0) hx hb hr hlocks dX2_worksOn_66 (by decide) (Or.inr ⟨rfl, by unfold ctWk; simp_all⟩)
        · refine lv_iconst (v := nI 1) hx hb dX2_worksOn_61 (by decide) ?_
          refine lv_goto (tgt := 66) hx hb dX2_worksOn_62 (by decide) ?_
          exact q_zret (v := nI 1) hx hb hr hlocks dX2_worksOn_66 (by decide) (Or.inl ⟨rfl, by unfold ctWk; simp_all⟩)
      · refine lv_iconst (v := nI 0) hx hb dX2_worksOn_33 (by decide) ?_
        exact q_zret (v := nI 0) hx hb hr hlocks dX2_worksOn_34 (by decide) (Or.inr ⟨rfl, by unfold ctWk; simp_all⟩)
  · refine lv_iconst (v := nI 1) hx hb dX2_worksOn_10 (by decide) ?_
    exact q_zret (v := nI 1) hx hb hr hlocks dX2_worksOn_11 (by decide) (Or.inl ⟨rfl, by unfold ctWk; simp_all⟩)
theorem nX2_workersOn_0 : ∀ w ∈ wsX20, w ∈ wsX2_workersOn := by decide +kernel
theorem mX2_workersOn_1 : Cond.fieldLink RX2 28 "ClueLeave$City" "clues" "I" ∈ wsX2_workersOn := by decide +kernel
set_option maxHeartbeats 4000000 in
set_option maxRecDepth 100000 in
theorem c_X2_workersOn (l : Launch) (D : va_G) (cy : Nat → ClassId) (h kA tA eA oA : Nat) (w : Nat → Nat) (fk ft fe fo : Nat → Int32) (hw : ctIs w fk ft fe fo) (hv : ctOk w) (d : Nat) (hd : d < 2 ^ 31) : q_Rd l yX2_workersOn wsX2_workersOn 2 D cy [(h, .inr (2, [.int (nI (w 0)), .int (nI (w 1)), .int (nI (w 2)), .int (nI (w 4)), .int (nI (w 3)), .ref kA, .ref tA, .ref eA, .ref oA])), (kA, .inl (cy 0, 6, .inl fk)), (tA, .inl (cy 0, 6, .inl ft)), (eA, .inl (cy 0, 6, .inl fe)), (oA, .inl (cy 0, 6, .inl fo))] [.ref h, .int (nI d)] (fun r => r = nI (ctWks w d (w 4))) := by
  refine q_rd_of (cc := cX2_workersOn) (maxL := 4) (ret := (some .int)) (by decide) rfl (Nat.le_of_ble_eq_true rfl) ?_
  intro pg en s mi args below meth cd hC hP hK ls hl
  obtain ⟨hx, hb, hr, hml, hown, hts, hlocks⟩ := hC
  have hl : lv_has ls 4 [(0, .ref h), (1, .int (nI d))] := hl
  obtain ⟨hv0, hv1, hv2, hv3, hv4, hvc⟩ := id hv
  refine lv_iconst (v := nI 0) hx hb dX2_workersOn_0 (by decide) ?_
  refine lv_istore_n (lv' := [(2, .int (nI 0)), (0, .ref h), (1, .int (nI d))]) hx hb dX2_workersOn_1 rfl hl (by decide) rfl (fun ls hl => ?_)
  refine lv_iconst (v := nI 0) hx hb dX2_workersOn_2 (by decide) ?_
  refine lv_istore_n (lv' := [(3, .int (nI 0)), (2, .int (nI 0)), (0, .ref h), (1, .int (nI d))]) hx hb dX2_workersOn_3 rfl hl (by decide) rfl (fun ls hl => ?_)
  have L4_7 : ∀ (fu i : Nat), i ≤ w 4 → w 4 < i + fu → ∀ ls : Array Slot, lv_has ls 4 [(0, .ref h), (1, .int (nI d)), (2, .int (nI (ctWks w d i))), (3, .int (nI i))] → W pg l en (q_rm 2) s mi args below meth cd s.heap [] 0 0 (MQ below (vp_Si (fun r => r = nI (ctWks w d (w 4)))) args s 0 0 (fun _ => False)) (F0 mi 4 ls []) := by
    intro fu
    induction fu with
    | zero =>
      intro i h1 h2
      exact absurd h2 (by omega)
    | succ fu ih4 =>
      intro i h1_4 h2_4 ls hl
      refine lv_iload_n hx hb dX2_workersOn_4 rfl (lv_at hl 3 rfl) ?_
      refine lv_aload_n hx hb dX2_workersOn_5 rfl (lv_at hl 0 rfl) ?_
      refine va_get (D := D) (ci := 2) (v := .int (nI (w 4))) (C := RX2) (T := TX2) (N := 9) hx hb hts nX2_workersOn_0 hown hK.1 hP 0 rfl rfl 3 (by decide) (hts _ mX2_workersOn_1) (fun _ h9 => h9) rfl dX2_workersOn_6 ?_
      refine q_icmp_ge (tgt := 33) hx hb dX2_workersOn_9 (by decide) (by omega) (by omega) (fun c1 => ?_) (fun c1 => ?_)
      · refine lv_iload_n hx hb dX2_workersOn_33 rfl (lv_at hl 2 rfl) ?_
        exact q_iret (v := nI (ctWks w d i)) hx hb hr hlocks dX2_workersOn_34 (by rw [show i = w 4 by omega])
      · refine lv_aload_n hx hb dX2_workersOn_12 rfl (lv_at hl 0 rfl) ?_
        refine lv_iload_n hx hb dX2_workersOn_13 rfl (lv_at hl 3 rfl) ?_
        refine lv_iload_n hx hb dX2_workersOn_14 rfl (lv_at hl 1 rfl) ?_
        refine q_rV (As := [.int (nI i), .int (nI d)]) (rest := []) ⟨hx, hb, hml, hown, hts⟩ (c_X2_worksOn l D cy h kA tA eA oA w fk ft fe fo hw hv i d (by omega) (by omega)) (cwV 2 hts gX2_workersOn_X2_worksOn rfl rfl rfl (by decide +kernel) ⟨Nat.le_of_ble_eq_true rfl, Nat.le_of_ble_eq_true rfl⟩) hP hK [0, 1, 2, 3, 4] rfl 0 rfl rfl rfl rfl hl.1 rfl (Nat.le_of_ble_eq_true rfl) dX2_workersOn_15 ⟨Nat.zero_le _, Nat.zero_le _⟩ (fun r2 hr2 => ?_)
        rcases hr2 with ⟨rfl, b3⟩ | ⟨rfl, b3⟩
        · refine lv_if_eq (tgt := 27) hx hb dX2_workersOn_18 (by decide) (fun c9 => absurd c9 (by decide)) (fun _ => ?_)
          refine lv_iload_n hx hb dX2_workersOn_21 rfl (lv_at hl 2 rfl) ?_
          refine lv_iconst (v := nI 1) hx hb dX2_workersOn_22 (by decide) ?_
          refine lv_iload_n hx hb dX2_workersOn_23 rfl (lv_at hl 3 rfl) ?_
          have hpw := q_pw6 i (by omega)
          refine lv_ishl hx hb dX2_workersOn_24 ?_
          refine q_top (y := nI (1 * 2 ^ i)) (q_shl (by omega) (by omega)) ?_
          refine lv_ior hx hb dX2_workersOn_25 ?_
          refine q_top (y := nI ((ctWks w d i) ||| (1 * 2 ^ i))) (q_or _ _) ?_
          refine lv_istore_n (lv' := [(2, .int (nI ((ctWks w d i) ||| (1 * 2 ^ i)))), (0, .ref h), (1, .int (nI d)), (3, .int (nI i))]) hx hb dX2_workersOn_26 rfl hl (by decide) rfl (fun ls hl => ?_)
          refine lv_iinc (v := nI (i + 1)) (lv' := [(3, .int (nI (i + 1))), (2, .int (nI ((ctWks w d i) ||| (1 * 2 ^ i)))), (0, .ref h), (1, .int (nI d))]) hx hb dX2_workersOn_27 hl (k := 3) rfl (q_inc i 1) (by decide) rfl (fun ls hl => ?_)
          refine lv_goto (tgt := 4) hx hb dX2_workersOn_30 (by decide) ?_
          exact ih4 (i + 1) (by omega) (by omega) ls (q_lset (lv_sub (l' := [(0, .ref h), (1, .int (nI d)), (2, .int (nI ((ctWks w d i) ||| (1 * 2 ^ i)))), (3, .int (nI (i + 1)))]) hl [2, 3, 1, 0] rfl) (q_c1 (f := fun z2 => ([(0, .ref h), (1, .int (nI d)), (2, .int (z2)), (3, .int (nI (i + 1)))] : List (Nat × Value))) (show (nI ((ctWks w d i) ||| (1 * 2 ^ i)) : Int32) = nI (ctWks w d (i + 1)) from by simp [ctWks, b3])))
        · refine lv_if_eq (tgt := 27) hx hb dX2_workersOn_18 (by decide) (fun _ => ?_) (fun c9 => absurd (by decide) c9)
          refine lv_iinc (v := nI (i + 1)) (lv' := [(3, .int (nI (i + 1))), (0, .ref h), (1, .int (nI d)), (2, .int (nI (ctWks w d i)))]) hx hb dX2_workersOn_27 hl (k := 3) rfl (q_inc i 1) (by decide) rfl (fun ls hl => ?_)
          refine lv_goto (tgt := 4) hx hb dX2_workersOn_30 (by decide) ?_
          exact ih4 (i + 1) (by omega) (by omega) ls (q_lset (lv_sub (l' := [(0, .ref h), (1, .int (nI d)), (2, .int (nI (ctWks w d i))), (3, .int (nI (i + 1)))]) hl [1, 2, 3, 0] rfl) (q_c1 (f := fun z2 => ([(0, .ref h), (1, .int (nI d)), (2, .int (z2)), (3, .int (nI (i + 1)))] : List (Nat × Value))) (show (nI (ctWks w d i) : Int32) = nI (ctWks w d (i + 1)) from by simp [ctWks, b3])))
  exact L4_7 ((w 4) + 1) 0 (by omega) (by omega) ls (q_lset (lv_sub (l' := [(0, .ref h), (1, .int (nI d)), (2, .int (nI 0)), (3, .int (nI 0))]) hl [2, 3, 1, 0] rfl) (q_c1 (f := fun z2 => ([(0, .ref h), (1, .int (nI d)), (2, .int (z2)), (3, .int (nI 0))] : List (Nat × Value))) (show (nI 0 : Int32) = nI (ctWks w d 0) from rfl)))
theorem nX2_leftByOne_0 : ∀ w ∈ wsX20, w ∈ wsX2_leftByOne := by decide +kernel
theorem mX2_leftByOne_1 : Cond.fieldLink RX2 15 "ClueLeave$City" "tells" "[I" ∈ wsX2_leftByOne := by decide +kernel
theorem mX2_leftByOne_2 : Cond.fieldLink RX2 9 "ClueLeave$City" "kinds" "[I" ∈ wsX2_leftByOne := by decide +kernel
set_option maxHeartbeats 4000000 in
set_option maxRecDepth 100000 in
theorem c_X2_leftByOne (l : Launch) (D : va_G) (cy : Nat → ClassId) (h kA tA eA oA : Nat) (w : Nat → Nat) (fk ft fe fo : Nat → Int32) (hw : ctIs w fk ft fe fo) (hv : ctOk w) (c : Nat) (hc : c < w 4) : q_Rd l yX2_leftByOne wsX2_leftByOne 3 D cy [(h, .inr (2, [.int (nI (w 0)), .int (nI (w 1)), .int (nI (w 2)), .int (nI (w 4)), .int (nI (w 3)), .ref kA, .ref tA, .ref eA, .ref oA])), (kA, .inl (cy 0, 6, .inl fk)), (tA, .inl (cy 0, 6, .inl ft)), (eA, .inl (cy 0, 6, .inl fe)), (oA, .inl (cy 0, 6, .inl fo))] [.ref h, .int (nI c)] (fun r => r = nI (ctLv w c)) := by
  refine q_rd_of (cc := cX2_leftByOne) (maxL := 4) (ret := (some .int)) (by decide) rfl (Nat.le_of_ble_eq_true rfl) ?_
  intro pg en s mi args below meth cd hC hP hK ls hl
  obtain ⟨hx, hb, hr, hml, hown, hts, hlocks⟩ := hC
  have hl : lv_has ls 4 [(0, .ref h), (1, .int (nI c))] := hl
  obtain ⟨hv0, hv1, hv2, hv3, hv4, hvc⟩ := id hv
  obtain ⟨hk1, hk5, ht1, ht2, he2, he4, ho1⟩ := hvc c hc
  refine lv_aload_n hx hb dX2_leftByOne_0 rfl (lv_at hl 0 rfl) ?_
  refine lv_iload_n hx hb dX2_leftByOne_1 rfl (lv_at hl 1 rfl) ?_
  refine q_rV (As := [.int (nI c)]) (rest := []) ⟨hx, hb, hml, hown, hts⟩ (c_X2_isBribed l D cy h kA tA eA oA w fk ft fe fo hw hv c (by omega)) (cwV 1 hts gX2_leftByOne_X2_isBribed rfl rfl rfl (by decide +kernel) ⟨Nat.le_of_ble_eq_true rfl, Nat.le_of_ble_eq_true rfl⟩) hP hK [0, 1, 2, 3, 4] rfl 0 rfl rfl rfl rfl hl.1 rfl (Nat.le_of_ble_eq_true rfl) dX2_leftByOne_2 ⟨Nat.zero_le _, Nat.zero_le _⟩ (fun r1 hr1 => ?_)
  rcases hr1 with ⟨rfl, b2⟩ | ⟨rfl, b2⟩
  · refine lv_istore_n (lv' := [(2, .int (nI 1)), (0, .ref h), (1, .int (nI c))]) hx hb dX2_leftByOne_5 rfl hl (by decide) rfl (fun ls hl => ?_)
    refine lv_aload_n hx hb dX2_leftByOne_6 rfl (lv_at hl 1 rfl) ?_
    refine q_rV (As := []) (rest := []) ⟨hx, hb, hml, hown, hts⟩ (c_X2_everyone l D cy h kA tA eA oA w fk ft fe fo hw hv) (cwV 0 hts gX2_leftByOne_X2_everyone rfl rfl rfl (by decide +kernel) ⟨Nat.le_of_ble_eq_true rfl, Nat.le_of_ble_eq_true rfl⟩) hP hK [0, 1, 2, 3, 4] rfl 0 rfl rfl rfl rfl hl.1 rfl (Nat.le_of_ble_eq_true rfl) dX2_leftByOne_7 ⟨Nat.zero_le _, Nat.zero_le _⟩ (fun r3 hr3 => ?_)
    obtain rfl := hr3
    refine lv_aload_n hx hb dX2_leftByOne_10 rfl (lv_at hl 1 rfl) ?_
    refine va_get (D := D) (ci := 2) (v := .ref tA) (C := RX2) (T := TX2) (N := 9) hx hb hts nX2_leftByOne_0 hown hK.1 hP 0 rfl rfl 6 (by decide) (hts _ mX2_leftByOne_1) (fun _ h9 => h9) rfl dX2_leftByOne_11 ?_
    refine lv_iload_n hx hb dX2_leftByOne_14 rfl (lv_at hl 2 rfl) ?_
    refine q_iald (j := c) (v := nI (ctT w c)) hx hb hK hP 2 rfl (by omega) (by decide) (ctIs_1 hw (by omega)) dX2_leftByOne_15 ?_
    refine lv_iconst (v := (-1)) hx hb dX2_leftByOne_16 (by decide) ?_
    refine lv_ixor hx hb dX2_leftByOne_17 ?_
    refine lv_iand hx hb dX2_leftByOne_18 ?_
    refine q_top (y := nI (ctOth w c)) (ctOth_e w c hv0 ht2) ?_
    refine lv_istore_n (lv' := [(3, .int (nI (ctOth w c))), (2, .int (nI 1)), (0, .ref h), (1, .int (nI c))]) hx hb dX2_leftByOne_19 rfl hl (by decide) rfl (fun ls hl => ?_)
    refine lv_aload_n hx hb dX2_leftByOne_20 rfl (lv_at hl 2 rfl) ?_
    refine va_get (D := D) (ci := 2) (v := .ref kA) (C := RX2) (T := TX2) (N := 9) hx hb hts nX2_leftByOne_0 hown hK.1 hP 0 rfl rfl 5 (by decide) (hts _ mX2_leftByOne_2) (fun _ h9 => h9) rfl dX2_leftByOne_21 ?_
    refine lv_iload_n hx hb dX2_leftByOne_24 rfl (lv_at hl 3 rfl) ?_
    refine q_iald (j := c) (v := nI (ctK w c)) hx hb hK hP 1 rfl (by omega) (by decide) (ctIs_0 hw (by omega)) dX2_leftByOne_25 ?_
    rcases q_15 hk1 hk5 with h5 | h5 | h5 | h5 | h5
    · refine q_top (y := nI 1) (by rw [h5]) ?_
      refine lv_tableOut (tgt := 80) hx hb dX2_leftByOne_26 (by decide) (by decide) ?_
      refine lv_iload_n hx hb dX2_leftByOne_80 rfl (lv_at hl 1 rfl) ?_
      refine lv_if_eq (tgt := 91) hx hb dX2_leftByOne_81 (by decide) (fun c9 => absurd c9 (by decide)) (fun _ => ?_)
      refine lv_aload_n hx hb dX2_leftByOne_84 rfl (lv_at hl 2 rfl) ?_
      refine q_rV (As := []) (rest := []) ⟨hx, hb, hml, hown, hts⟩ (c_X2_everyone l D cy h kA tA eA oA w fk ft fe fo hw hv) (cwV 0 hts gX2_leftByOne_X2_everyone rfl rfl rfl (by decide +kernel) ⟨Nat.le_of_ble_eq_true rfl, Nat.le_of_ble_eq_true rfl⟩) hP hK [0, 1, 2, 3, 4] rfl 0 rfl rfl rfl rfl hl.1 rfl (Nat.le_of_ble_eq_true rfl) dX2_leftByOne_85 ⟨Nat.zero_le _, Nat.zero_le _⟩ (fun r4 hr4 => ?_)
      obtain rfl := hr4
      refine lv_goto (tgt := 97) hx hb dX2_leftByOne_88 (by decide) ?_
      exact q_iret (v := nI (ctAll w)) hx hb hr hlocks dX2_leftByOne_97 (by unfold ctLv; simp_all)
    · refine q_top (y := nI 2) (by rw [h5]) ?_
      refine lv_tableOut (tgt := 80) hx hb dX2_leftByOne_26 (by decide) (by decide) ?_
      refine lv_iload_n hx hb dX2_leftByOne_80 rfl (lv_at hl 1 rfl) ?_
      refine lv_if_eq (tgt := 91) hx hb dX2_leftByOne_81 (by decide) (fun c9 => absurd c9 (by decide)) (fun _ => ?_)
      refine lv_aload_n hx hb dX2_leftByOne_84 rfl (lv_at hl 2 rfl) ?_
      refine q_rV (As := []) (rest := []) ⟨hx, hb, hml, hown, hts⟩ (c_X2_everyone l D cy h kA tA eA oA w fk ft fe fo hw hv) (cwV 0 hts gX2_leftByOne_X2_everyone rfl rfl rfl (by decide +kernel) ⟨Nat.le_of_ble_eq_true rfl, Nat.le_of_ble_eq_true rfl⟩) hP hK [0, 1, 2, 3, 4] rfl 0 rfl rfl rfl rfl hl.1 rfl (Nat.le_of_ble_eq_true rfl) dX2_leftByOne_85 ⟨Nat.zero_le _, Nat.zero_le _⟩ (fun r5 hr5 => ?_)
      obtain rfl := hr5
      refine lv_goto (tgt := 97) hx hb dX2_leftByOne_88 (by decide) ?_
      exact q_iret (v := nI (ctAll w)) hx hb hr hlocks dX2_leftByOne_97 (by unfold ctLv; simp_all)
    · refine q_top (y := nI 3) (by rw [h5]) ?_
      refine lv_tableIn (off := 26) (tgt := 52) hx hb dX2_leftByOne_26 (by decide) (by decide) (by decide) (by decide) ?_
      refine lv_iload_n hx hb dX2_leftByOne_52 rfl (lv_at hl 1 rfl) ?_
      refine lv_if_eq (tgt := 60) hx hb dX2_leftByOne_53 (by decide) (fun c9 => absurd c9 (by decide)) (fun _ => ?_)
      refine lv_iload_n hx hb dX2_leftByOne_56 rfl (lv_at hl 0 rfl) ?_
      refine lv_goto (tgt := 66) hx hb dX2_leftByOne_57 (by decide) ?_
      exact q_iret (v := nI (ctOth w c)) hx hb hr hlocks dX2_leftByOne_66 (by unfold ctLv; simp_all)
    · refine q_top (y := nI 4) (by rw [h5]) ?_
      refine lv_tableIn (off := 41) (tgt := 67) hx hb dX2_leftByOne_26 (by decide) (by decide) (by decide) (by decide) ?_
      refine lv_iload_n hx hb dX2_leftByOne_67 rfl (lv_at hl 1 rfl) ?_
      refine lv_if_eq (tgt := 78) hx hb dX2_leftByOne_68 (by decide) (fun c9 => absurd c9 (by decide)) (fun _ => ?_)
      refine lv_aload_n hx hb dX2_leftByOne_71 rfl (lv_at hl 2 rfl) ?_
      refine q_rV (As := []) (rest := []) ⟨hx, hb, hml, hown, hts⟩ (c_X2_everyone l D cy h kA tA eA oA w fk ft fe fo hw hv) (cwV 0 hts gX2_leftByOne_X2_everyone rfl rfl rfl (by decide +kernel) ⟨Nat.le_of_ble_eq_true rfl, Nat.le_of_ble_eq_true rfl⟩) hP hK [0, 1, 2, 3, 4] rfl 0 rfl rfl rfl rfl hl.1 rfl (Nat.le_of_ble_eq_true rfl) dX2_leftByOne_72 ⟨Nat.zero_le _, Nat.zero_le _⟩ (fun r6 hr6 => ?_)
      obtain rfl := hr6
      refine lv_goto (tgt := 79) hx hb dX2_leftByOne_75 (by decide) ?_
      exact q_iret (v := nI (ctAll w)) hx hb hr hlocks dX2_leftByOne_79 (by unfold ctLv; simp_all)
    · refine q_top (y := nI 5) (by rw [h5]) ?_
      refine lv_tableIn (off := 41) (tgt := 67) hx hb dX2_leftByOne_26 (by decide) (by decide) (by decide) (by decide) ?_
      refine lv_iload_n hx hb dX2_leftByOne_67 rfl (lv_at hl 1 rfl) ?_
      refine lv_if_eq (tgt := 78) hx hb dX2_leftByOne_68 (by decide) (fun c9 => absurd c9 (by decide)) (fun _ => ?_)
      refine lv_aload_n hx hb dX2_leftByOne_71 rfl (lv_at hl 2 rfl) ?_
      refine q_rV (As := []) (rest := []) ⟨hx, hb, hml, hown, hts⟩ (c_X2_everyone l D cy h kA tA eA oA w fk ft fe fo hw hv) (cwV 0 hts gX2_leftByOne_X2_everyone rfl rfl rfl (by decide +kernel) ⟨Nat.le_of_ble_eq_true rfl, Nat.le_of_ble_eq_true rfl⟩) hP hK [0, 1, 2, 3, 4] rfl 0 rfl rfl rfl rfl hl.1 rfl (Nat.le_of_ble_eq_true rfl) dX2_leftByOne_72 ⟨Nat.zero_le _, Nat.zero_le _⟩ (fun r7 hr7 => ?_)
      obtain rfl := hr7
      refine lv_goto (tgt := 79) hx hb dX2_leftByOne_75 (by decide) ?_
      exact q_iret (v := nI (ctAll w)) hx hb hr hlocks dX2_leftByOne_79 (by unfold ctLv; simp_all)
  · refine lv_istore_n (lv' := [(2, .int (nI 0)), (0, .ref h), (1, .int (nI c))]) hx hb dX2_leftByOne_5 rfl hl (by decide) rfl (fun ls hl => ?_)
    refine lv_aload_n hx hb dX2_leftByOne_6 rfl (lv_at hl 1 rfl) ?_
    refine q_rV (As := []) (rest := []) ⟨hx, hb, hml, hown, hts⟩ (c_X2_everyone l D cy h kA tA eA oA w fk ft fe fo hw hv) (cwV 0 hts gX2_leftByOne_X2_everyone rfl rfl rfl (by decide +kernel) ⟨Nat.le_of_ble_eq_true rfl, Nat.le_of_ble_eq_true rfl⟩) hP hK [0, 1, 2, 3, 4] rfl 0 rfl rfl rfl rfl hl.1 rfl (Nat.le_of_ble_eq_true rfl) dX2_leftByOne_7 ⟨Nat.zero_le _, Nat.zero_le _⟩ (fun r8 hr8 => ?_)
    obtain rfl := hr8
    refine lv_aload_n hx hb dX2_leftByOne_10 rfl (lv_at hl 1 rfl) ?_
    refine va_get (D := D) (ci := 2) (v := .ref tA) (C := RX2) (T := TX2) (N := 9) hx hb hts nX2_leftByOne_0 hown hK.1 hP 0 rfl rfl 6 (by decide) (hts _ mX2_leftByOne_1) (fun _ h9 => h9) rfl dX2_leftByOne_11 ?_
    refine lv_iload_n hx hb dX2_leftByOne_14 rfl (lv_at hl 2 rfl) ?_
    refine q_iald (j := c) (v := nI (ctT w c)) hx hb hK hP 2 rfl (by omega) (by decide) (ctIs_1 hw (by omega)) dX2_leftByOne_15 ?_
    refine lv_iconst (v := (-1)) hx hb dX2_leftByOne_16 (by decide) ?_
    refine lv_ixor hx hb dX2_leftByOne_17 ?_
    refine lv_iand hx hb dX2_leftByOne_18 ?_
    refine q_top (y := nI (ctOth w c)) (ctOth_e w c hv0 ht2) ?_
    refine lv_istore_n (lv' := [(3, .int (nI (ctOth w c))), (2, .int (nI 0)), (0, .ref h), (1, .int (nI c))]) hx hb dX2_leftByOne_19 rfl hl (by decide) rfl (fun ls hl => ?_)
    refine lv_aload_n hx hb dX2_leftByOne_20 rfl (lv_at hl 2 rfl) ?_
    refine va_get (D := D) (ci := 2) (v := .ref kA) (C := RX2) (T := TX2) (N := 9) hx hb hts nX2_leftByOne_0 hown hK.1 hP 0 rfl rfl 5 (by decide) (hts _ mX2_leftByOne_2) (fun _ h9 => h9) rfl dX2_leftByOne_21 ?_
    refine lv_iload_n hx hb dX2_leftByOne_24 rfl (lv_at hl 3 rfl) ?_
    refine q_iald (j := c) (v := nI (ctK w c)) hx hb hK hP 1 rfl (by omega) (by decide) (ctIs_0 hw (by omega)) dX2_leftByOne_25 ?_
    rcases q_15 hk1 hk5 with h5 | h5 | h5 | h5 | h5
    · refine q_top (y := nI 1) (by rw [h5]) ?_
      refine lv_tableOut (tgt := 80) hx hb dX2_leftByOne_26 (by decide) (by decide) ?_
      refine lv_iload_n hx hb dX2_leftByOne_80 rfl (lv_at hl 1 rfl) ?_
      refine lv_if_eq (tgt := 91) hx hb dX2_leftByOne_81 (by decide) (fun _ => ?_) (fun c9 => absurd (by decide) c9)
      refine lv_aload_n hx hb dX2_leftByOne_91 rfl (lv_at hl 2 rfl) ?_
      refine va_get (D := D) (ci := 2) (v := .ref tA) (C := RX2) (T := TX2) (N := 9) hx hb hts nX2_leftByOne_0 hown hK.1 hP 0 rfl rfl 6 (by decide) (hts _ mX2_leftByOne_1) (fun _ h9 => h9) rfl dX2_leftByOne_92 ?_
      refine lv_iload_n hx hb dX2_leftByOne_95 rfl (lv_at hl 3 rfl) ?_
      refine q_iald (j := c) (v := nI (ctT w c)) hx hb hK hP 2 rfl (by omega) (by decide) (ctIs_1 hw (by omega)) dX2_leftByOne_96 ?_
      exact q_iret (v := nI (ctT w c)) hx hb hr hlocks dX2_leftByOne_97 (by unfold ctLv; simp_all)
    · refine q_top (y := nI 2) (by rw [h5]) ?_
      refine lv_tableOut (tgt := 80) hx hb dX2_leftByOne_26 (by decide) (by decide) ?_
      refine lv_iload_n hx hb dX2_leftByOne_80 rfl (lv_at hl 1 rfl) ?_
      refine lv_if_eq (tgt := 91) hx hb dX2_leftByOne_81 (by decide) (fun _ => ?_) (fun c9 => absurd (by decide) c9)
      refine lv_aload_n hx hb dX2_leftByOne_91 rfl (lv_at hl 2 rfl) ?_
      refine va_get (D := D) (ci := 2) (v := .ref tA) (C := RX2) (T := TX2) (N := 9) hx hb hts nX2_leftByOne_0 hown hK.1 hP 0 rfl rfl 6 (by decide) (hts _ mX2_leftByOne_1) (fun _ h9 => h9) rfl dX2_leftByOne_92 ?_
      refine lv_iload_n hx hb dX2_leftByOne_95 rfl (lv_at hl 3 rfl) ?_
      refine q_iald (j := c) (v := nI (ctT w c)) hx hb hK hP 2 rfl (by omega) (by decide) (ctIs_1 hw (by omega)) dX2_leftByOne_96 ?_
      exact q_iret (v := nI (ctT w c)) hx hb hr hlocks dX2_leftByOne_97 (by unfold ctLv; simp_all)
    · refine q_top (y := nI 3) (by rw [h5]) ?_
      refine lv_tableIn (off := 26) (tgt := 52) hx hb dX2_leftByOne_26 (by decide) (by decide) (by decide) (by decide) ?_
      refine lv_iload_n hx hb dX2_leftByOne_52 rfl (lv_at hl 1 rfl) ?_
      refine lv_if_eq (tgt := 60) hx hb dX2_leftByOne_53 (by decide) (fun _ => ?_) (fun c9 => absurd (by decide) c9)
      refine lv_aload_n hx hb dX2_leftByOne_60 rfl (lv_at hl 2 rfl) ?_
      refine va_get (D := D) (ci := 2) (v := .ref tA) (C := RX2) (T := TX2) (N := 9) hx hb hts nX2_leftByOne_0 hown hK.1 hP 0 rfl rfl 6 (by decide) (hts _ mX2_leftByOne_1) (fun _ h9 => h9) rfl dX2_leftByOne_61 ?_
      refine lv_iload_n hx hb dX2_leftByOne_64 rfl (lv_at hl 3 rfl) ?_
      refine q_iald (j := c) (v := nI (ctT w c)) hx hb hK hP 2 rfl (by omega) (by decide) (ctIs_1 hw (by omega)) dX2_leftByOne_65 ?_
      exact q_iret (v := nI (ctT w c)) hx hb hr hlocks dX2_leftByOne_66 (by unfold ctLv; simp_all)
    · refine q_top (y := nI 4) (by rw [h5]) ?_
      refine lv_tableIn (off := 41) (tgt := 67) hx hb dX2_leftByOne_26 (by decide) (by decide) (by decide) (by decide) ?_
      refine lv_iload_n hx hb dX2_leftByOne_67 rfl (lv_at hl 1 rfl) ?_
      refine lv_if_eq (tgt := 78) hx hb dX2_leftByOne_68 (by decide) (fun _ => ?_) (fun c9 => absurd (by decide) c9)
      refine lv_iload_n hx hb dX2_leftByOne_78 rfl (lv_at hl 0 rfl) ?_
      exact q_iret (v := nI (ctOth w c)) hx hb hr hlocks dX2_leftByOne_79 (by unfold ctLv; simp_all)
    · refine q_top (y := nI 5) (by rw [h5]) ?_
      refine lv_tableIn (off := 41) (tgt := 67) hx hb dX2_leftByOne_26 (by decide) (by decide) (by decide) (by decide) ?_
      refine lv_iload_n hx hb dX2_leftByOne_67 rfl (lv_at hl 1 rfl) ?_
      refine lv_if_eq (tgt := 78) hx hb dX2_leftByOne_68 (by decide) (fun _ => ?_) (fun c9 => absurd (by decide) c9)
      refine lv_iload_n hx hb dX2_leftByOne_78 rfl (lv_at hl 0 rfl) ?_
      exact q_iret (v := nI (ctOth w c)) hx hb hr hlocks dX2_leftByOne_79 (by unfold ctLv; simp_all)
theorem nX2_leftBy_0 : ∀ w ∈ wsX20, w ∈ wsX2_leftBy := by decide +kernel
theorem mX2_leftBy_1 : Cond.fieldLink RX2 28 "ClueLeave$City" "clues" "I" ∈ wsX2_leftBy := by decide +kernel
theorem mX2_leftBy_2 : Cond.initialized RX6 ∈ wsX2_leftBy := by decide +kernel
theorem mX2_leftBy_3 : Cond.static yX6_isIn ∈ wsX2_leftBy := by decide +kernel
set_option maxHeartbeats 4000000 in
set_option maxRecDepth 100000 in
theorem c_X2_leftBy (l : Launch) (D : va_G) (cy : Nat → ClassId) (h kA tA eA oA : Nat) (w : Nat → Nat) (fk ft fe fo : Nat → Int32) (hw : ctIs w fk ft fe fo) (hv : ctOk w) (b : Nat) (hb2 : b < 2 ^ 31) : q_Rd l yX2_leftBy wsX2_leftBy 4 D cy [(h, .inr (2, [.int (nI (w 0)), .int (nI (w 1)), .int (nI (w 2)), .int (nI (w 4)), .int (nI (w 3)), .ref kA, .ref tA, .ref eA, .ref oA])), (kA, .inl (cy 0, 6, .inl fk)), (tA, .inl (cy 0, 6, .inl ft)), (eA, .inl (cy 0, 6, .inl fe)), (oA, .inl (cy 0, 6, .inl fo))] [.ref h, .int (nI b)] (fun r => r = nI (ctLb w b (w 4))) := by
  refine q_rd_of (cc := cX2_leftBy) (maxL := 4) (ret := (some .int)) (by decide) rfl (Nat.le_of_ble_eq_true rfl) ?_
  intro pg en s mi args below meth cd hC hP hK ls hl
  obtain ⟨hx, hb, hr, hml, hown, hts, hlocks⟩ := hC
  have hl : lv_has ls 4 [(0, .ref h), (1, .int (nI b))] := hl
  obtain ⟨hv0, hv1, hv2, hv3, hv4, hvc⟩ := id hv
  refine lv_aload_n hx hb dX2_leftBy_0 rfl (lv_at hl 0 rfl) ?_
  refine q_rV (As := []) (rest := []) ⟨hx, hb, hml, hown, hts⟩ (c_X2_everyone l D cy h kA tA eA oA w fk ft fe fo hw hv) (cwV 0 hts gX2_leftBy_X2_everyone rfl rfl rfl (by decide +kernel) ⟨Nat.le_of_ble_eq_true rfl, Nat.le_of_ble_eq_true rfl⟩) hP hK [0, 1, 2, 3, 4] rfl 0 rfl rfl rfl rfl hl.1 rfl (Nat.le_of_ble_eq_true rfl) dX2_leftBy_1 ⟨Nat.zero_le _, Nat.zero_le _⟩ (fun r1 hr1 => ?_)
  obtain rfl := hr1
  refine lv_istore_n (lv' := [(2, .int (nI (ctAll w))), (0, .ref h), (1, .int (nI b))]) hx hb dX2_leftBy_4 rfl hl (by decide) rfl (fun ls hl => ?_)
  refine lv_iconst (v := nI 0) hx hb dX2_leftBy_5 (by decide) ?_
  refine lv_istore_n (lv' := [(3, .int (nI 0)), (2, .int (nI (ctAll w))), (0, .ref h), (1, .int (nI b))]) hx hb dX2_leftBy_6 rfl hl (by decide) rfl (fun ls hl => ?_)
  have L7_9 : ∀ (fu i : Nat), i ≤ w 4 → w 4 < i + fu → ∀ ls : Array Slot, lv_has ls 4 [(0, .ref h), (1, .int (nI b)), (2, .int (nI (ctLb w b i))), (3, .int (nI i))] → W pg l en (q_rm 4) s mi args below meth cd s.heap [] 0 0 (MQ below (vp_Si (fun r => r = nI (ctLb w b (w 4)))) args s 0 0 (fun _ => False)) (F0 mi 7 ls []) := by
    intro fu
    induction fu with
    | zero =>
      intro i h1 h2
      exact absurd h2 (by omega)
    | succ fu ih7 =>
      intro i h1_7 h2_7 ls hl
      refine lv_iload_n hx hb dX2_leftBy_7 rfl (lv_at hl 3 rfl) ?_
      refine lv_aload_n hx hb dX2_leftBy_8 rfl (lv_at hl 0 rfl) ?_
      refine va_get (D := D) (ci := 2) (v := .int (nI (w 4))) (C := RX2) (T := TX2) (N := 9) hx hb hts nX2_leftBy_0 hown hK.1 hP 0 rfl rfl 3 (by decide) (hts _ mX2_leftBy_1) (fun _ h9 => h9) rfl dX2_leftBy_9 ?_
      refine q_icmp_ge (tgt := 37) hx hb dX2_leftBy_12 (by decide) (by omega) (by omega) (fun c2 => ?_) (fun c2 => ?_)
      · refine lv_iload_n hx hb dX2_leftBy_37 rfl (lv_at hl 2 rfl) ?_
        exact q_iret (v := nI (ctLb w b i)) hx hb hr hlocks dX2_leftBy_38 (by rw [show i = w 4 by omega])
      · refine lv_iload_n hx hb dX2_leftBy_15 rfl (lv_at hl 1 rfl) ?_
        refine lv_iload_n hx hb dX2_leftBy_16 rfl (lv_at hl 3 rfl) ?_
        refine q_rN (As := [.int (nI b), .int (nI i)]) (rest := []) ⟨hx, hb, hml, hown, hts⟩ (c_X6_isIn l D cy b i (by omega) (by omega)) ⟨va_cnB (host := "ClueLeave") 2 hts gX2_leftBy_X6_isIn_n46 rfl rfl rfl (hK.2 _ (by decide +kernel)) (hts _ mX2_leftBy_2) (by decide +kernel) ⟨Nat.le_of_ble_eq_true rfl, Nat.le_of_ble_eq_true rfl⟩, hts _ mX2_leftBy_3, trivial⟩ hP hK [] rfl rfl hl.1 rfl (Nat.le_of_ble_eq_true rfl) dX2_leftBy_17 ⟨Nat.zero_le _, Nat.zero_le _⟩ (fun r3 hr3 => ?_)
        rcases hr3 with ⟨rfl, b4⟩ | ⟨rfl, b4⟩
        · refine lv_if_eq (tgt := 31) hx hb dX2_leftBy_20 (by decide) (fun c9 => absurd c9 (by decide)) (fun _ => ?_)
          refine lv_iload_n hx hb dX2_leftBy_23 rfl (lv_at hl 2 rfl) ?_
          refine lv_aload_n hx hb dX2_leftBy_24 rfl (lv_at hl 0 rfl) ?_
          refine lv_iload_n hx hb dX2_leftBy_25 rfl (lv_at hl 3 rfl) ?_
          refine q_rV (As := [.int (nI i)]) (rest := [.int (nI (ctLb w b i))]) ⟨hx, hb, hml, hown, hts⟩ (c_X2_leftByOne l D cy h kA tA eA oA w fk ft fe fo hw hv i (by omega)) (cwV 1 hts gX2_leftBy_X2_leftByOne rfl rfl rfl (by decide +kernel) ⟨Nat.le_of_ble_eq_true rfl, Nat.le_of_ble_eq_true rfl⟩) hP hK [0, 1, 2, 3, 4] rfl 0 rfl rfl rfl rfl hl.1 rfl (Nat.le_of_ble_eq_true rfl) dX2_leftBy_26 ⟨Nat.zero_le _, Nat.zero_le _⟩ (fun r5 hr5 => ?_)
          obtain rfl := hr5
          refine lv_iand hx hb dX2_leftBy_29 ?_
          refine q_top (y := nI ((ctLb w b i) &&& (ctLv w i))) (q_and _ _) ?_
          refine lv_istore_n (lv' := [(2, .int (nI ((ctLb w b i) &&& (ctLv w i)))), (0, .ref h), (1, .int (nI b)), (3, .int (nI i))]) hx hb dX2_leftBy_30 rfl hl (by decide) rfl (fun ls hl => ?_)
          refine lv_iinc (v := nI (i + 1)) (lv' := [(3, .int (nI (i + 1))), (2, .int (nI ((ctLb w b i) &&& (ctLv w i)))), (0, .ref h), (1, .int (nI b))]) hx hb dX2_leftBy_31 hl (k := 3) rfl (q_inc i 1) (by decide) rfl (fun ls hl => ?_)
          refine lv_goto (tgt := 7) hx hb dX2_leftBy_34 (by decide) ?_
          exact ih7 (i + 1) (by omega) (by omega) ls (q_lset (lv_sub (l' := [(0, .ref h), (1, .int (nI b)), (2, .int (nI ((ctLb w b i) &&& (ctLv w i)))), (3, .int (nI (i + 1)))]) hl [2, 3, 1, 0] rfl) (q_c1 (f := fun z2 => ([(0, .ref h), (1, .int (nI b)), (2, .int (z2)), (3, .int (nI (i + 1)))] : List (Nat × Value))) (show (nI ((ctLb w b i) &&& (ctLv w i)) : Int32) = nI (ctLb w b (i + 1)) from by simp [ctLb, b4])))
        · refine lv_if_eq (tgt := 31) hx hb dX2_leftBy_20 (by decide) (fun _ => ?_) (fun c9 => absurd (by decide) c9)
          refine lv_iinc (v := nI (i + 1)) (lv' := [(3, .int (nI (i + 1))), (0, .ref h), (1, .int (nI b)), (2, .int (nI (ctLb w b i)))]) hx hb dX2_leftBy_31 hl (k := 3) rfl (q_inc i 1) (by decide) rfl (fun ls hl => ?_)
          refine lv_goto (tgt := 7) hx hb dX2_leftBy_34 (by decide) ?_
          exact ih7 (i + 1) (by omega) (by omega) ls (q_lset (lv_sub (l' := [(0, .ref h), (1, .int (nI b)), (2, .int (nI (ctLb w b i))), (3, .int (nI (i + 1)))]) hl [1, 2, 3, 0] rfl) (q_c1 (f := fun z2 => ([(0, .ref h), (1, .int (nI b)), (2, .int (z2)), (3, .int (nI (i + 1)))] : List (Nat × Value))) (show (nI (ctLb w b i) : Int32) = nI (ctLb w b (i + 1)) from by simp [ctLb, b4])))
  exact L7_9 ((w 4) + 1) 0 (by omega) (by omega) ls (q_lset (lv_sub (l' := [(0, .ref h), (1, .int (nI b)), (2, .int (nI (ctAll w))), (3, .int (nI 0))]) hl [2, 3, 1, 0] rfl) (q_c1 (f := fun z2 => ([(0, .ref h), (1, .int (nI b)), (2, .int (z2)), (3, .int (nI 0))] : List (Nat × Value))) (show (nI (ctAll w) : Int32) = nI (ctLb w b 0) from rfl)))
set_option maxHeartbeats 4000000 in
set_option maxRecDepth 100000 in
theorem c_X2_leftOn (l : Launch) (D : va_G) (cy : Nat → ClassId) (h kA tA eA oA : Nat) (w : Nat → Nat) (fk ft fe fo : Nat → Int32) (hw : ctIs w fk ft fe fo) (hv : ctOk w) (d : Nat) (hd : d < 2 ^ 31) : q_Rd l yX2_leftOn wsX2_leftOn 5 D cy [(h, .inr (2, [.int (nI (w 0)), .int (nI (w 1)), .int (nI (w 2)), .int (nI (w 4)), .int (nI (w 3)), .ref kA, .ref tA, .ref eA, .ref oA])), (kA, .inl (cy 0, 6, .inl fk)), (tA, .inl (cy 0, 6, .inl ft)), (eA, .inl (cy 0, 6, .inl fe)), (oA, .inl (cy 0, 6, .inl fo))] [.ref h, .int (nI d)] (fun r => r = nI (ctLeft w d)) := by
  refine q_rd_of (cc := cX2_leftOn) (maxL := 2) (ret := (some .int)) (by decide) rfl (Nat.le_of_ble_eq_true rfl) ?_
  intro pg en s mi args below meth cd hC hP hK ls hl
  obtain ⟨hx, hb, hr, hml, hown, hts, hlocks⟩ := hC
  have hl : lv_has ls 2 [(0, .ref h), (1, .int (nI d))] := hl
  obtain ⟨hv0, hv1, hv2, hv3, hv4, hvc⟩ := id hv
  refine lv_aload_n hx hb dX2_leftOn_0 rfl (lv_at hl 0 rfl) ?_
  refine lv_aload_n hx hb dX2_leftOn_1 rfl (lv_at hl 0 rfl) ?_
  refine lv_iload_n hx hb dX2_leftOn_2 rfl (lv_at hl 1 rfl) ?_
  refine q_rV (As := [.int (nI d)]) (rest := [.ref h]) ⟨hx, hb, hml, hown, hts⟩ (c_X2_workersOn l D cy h kA tA eA oA w fk ft fe fo hw hv d (by omega)) (cwV 1 hts gX2_leftOn_X2_workersOn rfl rfl rfl (by decide +kernel) ⟨Nat.le_of_ble_eq_true rfl, Nat.le_of_ble_eq_true rfl⟩) hP hK [0, 1, 2, 3, 4] rfl 0 rfl rfl rfl rfl hl.1 rfl (Nat.le_of_ble_eq_true rfl) dX2_leftOn_3 ⟨Nat.zero_le _, Nat.zero_le _⟩ (fun r1 hr1 => ?_)
  obtain rfl := hr1
  have hwl := ctWks_lt w d (w 4) hv4
  refine q_rV (As := [.int (nI (ctWks w d (w 4)))]) (rest := []) ⟨hx, hb, hml, hown, hts⟩ (c_X2_leftBy l D cy h kA tA eA oA w fk ft fe fo hw hv (ctWks w d (w 4)) (by omega)) (cwV 1 hts gX2_leftOn_X2_leftBy rfl rfl rfl (by decide +kernel) ⟨Nat.le_of_ble_eq_true rfl, Nat.le_of_ble_eq_true rfl⟩) hP hK [0, 1, 2, 3, 4] rfl 0 rfl rfl rfl rfl hl.1 rfl (Nat.le_of_ble_eq_true rfl) dX2_leftOn_6 ⟨Nat.zero_le _, Nat.zero_le _⟩ (fun r2 hr2 => ?_)
  obtain rfl := hr2
  exact q_iret (v := nI (ctLb w (ctWks w d (w 4)) (w 4))) hx hb hr hlocks dX2_leftOn_9 (rfl)

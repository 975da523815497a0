/-! the tape's text, read: a place behind what was read, or a fault (place, number) -/
def tpIs (n : Nat) (tp : Nat → Nat) (fb : Nat → Int32) : Prop := ∀ j, j < n → fb j = nI (tp j) ∧ tp j < 256
theorem tpIs_0 {n : Nat} {tp : Nat → Nat} {fb : Nat → Int32} (h : tpIs n tp fb) {j : Nat} (hj : j < n) : fb j = nI (tp j) := (h j hj).1
theorem q_allS {P : Nat → Prop} {i : Nat} (h : ∀ j, j < i → P j) (hi : P i) : ∀ j, j < i + 1 → P j := fun j hj => by
  rcases Nat.lt_or_ge j i with q | q
  · exact h j q
  · rw [show j = i by omega]; exact hi
def pKind (x : Nat) : Nat := if x = 116 then 1 else if x = 103 then 2 else if x = 118 then 3 else if x = 115 then 4 else if x = 97 then 5 else 0
theorem pKind_c (x : Nat) : x = 97 ∨ x = 103 ∨ x = 115 ∨ x = 116 ∨ x = 118 ∨ (x ≠ 97 ∧ x ≠ 103 ∧ x ≠ 115 ∧ x ≠ 116 ∧ x ≠ 118) := by omega
theorem pKind_n {x : Nat} (h : x ≠ 97 ∧ x ≠ 103 ∧ x ≠ 115 ∧ x ≠ 116 ∧ x ≠ 118) : pKind x = 0 := by
  obtain ⟨h1, h2, h3, h4, h5⟩ := h
  simp [pKind, h1, h2, h3, h4, h5]
theorem pKind_fin : ∀ x, x < 256 → (x ≠ 97 ∧ x ≠ 103 ∧ x ≠ 115 ∧ x ≠ 116 ∧ x ≠ 118) → Op.lookupswitch.offset [(97, 59), (103, 53), (115, 57), (116, 51), (118, 55)] 61 (nI x).toInt = 61 := by decide +kernel
theorem pKind_o {x : Nat} (hx : x < 256) (h : x ≠ 97 ∧ x ≠ 103 ∧ x ≠ 115 ∧ x ≠ 116 ∧ x ≠ 118) : Op.lookupswitch.offset [(97, 59), (103, 53), (115, 57), (116, 51), (118, 55)] 61 (nI x).toInt = 61 := pKind_fin x hx h
def pTake (tp : Nat → Nat) (n c p : Nat) : Except (Nat × Nat) Nat := if p < n ∧ tp p = c then .ok (p + 1) else .error (p, 1)
def tkDig (tp : Nat → Nat) (n p : Nat) : Bool := decide (p < n) && (decide (48 ≤ tp p) && decide (tp p ≤ 57))
def tkRunF (tp : Nat → Nat) (n : Nat) : Nat → Nat → Nat
  | 0, _ => 0
  | k + 1, p => if tkDig tp n p then tkRunF tp n k (p + 1) + 1 else 0
def tkRun (tp : Nat → Nat) (n p : Nat) : Nat := tkRunF tp n (n - p) p
def tkNum (tp : Nat → Nat) (p r : Nat) : Nat := if r = 1 then tp p - 48 else 10 * (tp p - 48) + (tp (p + 1) - 48)
def pNum (tp : Nat → Nat) (n lo hi p : Nat) : Except (Nat × Nat) (Nat × Nat) :=
  if tkRun tp n p = 0 ∨ 2 < tkRun tp n p then .error (p, 1)
  else if lo ≤ tkNum tp p (tkRun tp n p) ∧ tkNum tp p (tkRun tp n p) ≤ hi then .ok (p + tkRun tp n p, tkNum tp p (tkRun tp n p)) else .error (p, 2)
theorem tkDig_end {tp : Nat → Nat} {n p : Nat} (h : n ≤ p) : ¬ tkDig tp n p = true := by
  simp [tkDig]; omega
theorem q_wn {a b x : Nat} (ha : a < 2 ^ 31) (hb : b < 2 ^ 31) (hx : x < 2 ^ 31) : (nI a ≤ nI x ∧ nI x ≤ nI b) ↔ (a ≤ x ∧ x ≤ b) := by
  rw [nI_leI ha hx, nI_leI hx hb]
theorem tkDig_no {tp : Nat → Nat} {n p : Nat} (h : ¬ (nI 48 ≤ nI (tp p) ∧ nI (tp p) ≤ nI 57)) (ht : tp p < 256) : ¬ tkDig tp n p = true := by
  rw [q_wn (by decide) (by decide) (by omega)] at h
  simp [tkDig]; omega
theorem tkDig_yes {tp : Nat → Nat} {n p : Nat} (hp : p < n) (h : nI 48 ≤ nI (tp p) ∧ nI (tp p) ≤ nI 57) (ht : tp p < 256) : tkDig tp n p = true := by
  rw [q_wn (by decide) (by decide) (by omega)] at h
  simp [tkDig]; omega
theorem tkRunF_u {tp : Nat → Nat} {n : Nat} : ∀ (k r p : Nat), n - p ≤ k → (∀ i, i < r → tkDig tp n (p + i) = true) → ¬ tkDig tp n (p + r) = true → tkRunF tp n k p = r
  | 0, r, p, hk, h1, h2 => by
    rcases Nat.eq_zero_or_pos r with h | h
    · rw [h]; rfl
    · exact absurd (h1 0 h) (tkDig_end (by omega))
  | k + 1, r, p, hk, h1, h2 => by
    rw [tkRunF]
    rcases Nat.eq_zero_or_pos r with h | h
    · subst h
      rw [Nat.add_zero] at h2
      rw [if_neg h2]
    · have h0 := h1 0 h
      rw [Nat.add_zero] at h0
      rw [if_pos h0, tkRunF_u k (r - 1) (p + 1) (by omega) (fun i hi => by rw [show p + 1 + i = p + (i + 1) by omega]; exact h1 _ (by omega)) (by rw [show p + 1 + (r - 1) = p + r by omega]; exact h2)]
      omega
theorem tkRun_u {tp : Nat → Nat} {n r p : Nat} (h1 : ∀ i, i < r → tkDig tp n (p + i) = true) (h2 : ¬ tkDig tp n (p + r) = true) : tkRun tp n p = r := tkRunF_u _ r p (Nat.le_refl _) h1 h2
/-- the number as it is read: of a long run it may have wrapped around -/
def tnv (tp : Nat → Nat) (p : Nat) : Nat → Int32
  | 0 => 0
  | j + 1 => tnv tp p j * nI 10 + nI (tp (p + j)) - nI 48
theorem tnv_s (tp : Nat → Nat) (p j : Nat) (h : True = True) : tnv tp p j * nI 10 + nI (tp (p + j)) - nI 48 = tnv tp p (j + 1) := rfl
theorem tkDig_r {tp : Nat → Nat} {n p : Nat} (h : tkDig tp n p = true) : 48 ≤ tp p ∧ tp p ≤ 57 := by
  simp [tkDig] at h
  exact ⟨h.2.1, h.2.2⟩
theorem tkRun_d {tp : Nat → Nat} {n p j : Nat} {fb : Nat → Int32} (h : ∀ i, i < j → tkDig tp n (p + i) = true) (htp : tpIs n tp fb) (hj : j ≤ 2) : ∀ i, i < j → 48 ≤ tp (p + i) ∧ tp (p + i) ≤ 57 := fun i hi => tkDig_r (h i hi)
theorem tkNum_lt {tp : Nat → Nat} {p r : Nat} (h : ∀ i, i < r → 48 ≤ tp (p + i) ∧ tp (p + i) ≤ 57) (hr : 1 ≤ r ∧ r ≤ 2) : tkNum tp p r < 100 := by
  have h0 := h 0 (by omega)
  rw [Nat.add_zero] at h0
  unfold tkNum
  split
  · omega
  · have h1 := h 1 (by omega)
    omega
theorem tnv_e {tp : Nat → Nat} {n p j : Nat} {fb : Nat → Int32} (h : ∀ i, i < j → tkDig tp n (p + i) = true) (htp : tpIs n tp fb) (h1 : 1 ≤ j) (h2 : j ≤ 2) : tnv tp p j = nI (tkNum tp p j) := by
  have h0 := tkDig_r (h 0 (by omega))
  rw [Nat.add_zero] at h0
  have e1 : tnv tp p 1 = nI (tp p - 48) := by
    show (0 : Int32) * nI 10 + nI (tp (p + 0)) - nI 48 = _
    rw [Int32.zero_mul, Int32.zero_add, Nat.add_zero]
    exact pk_sub h0.1
  rcases (show j = 1 ∨ j = 2 by omega) with rfl | rfl
  · rw [e1]; rfl
  · have h3 := tkDig_r (h 1 (by omega))
    show tnv tp p 1 * nI 10 + nI (tp (p + 1)) - nI 48 = _
    rw [e1, pk_mul, nI_add, pk_sub (by omega)]
    congr 1
    unfold tkNum
    rw [if_neg (by decide)]
    omega
theorem pNum_e1 {tp : Nat → Nat} {n lo hi p r : Nat} (h : tkRun tp n p = r) (hr : r = 0 ∨ 2 < r) : pNum tp n lo hi p = .error (p, 1) := by
  unfold pNum; rw [h, if_pos hr]
theorem pNum_e2 {tp : Nat → Nat} {n lo hi p r : Nat} (h : tkRun tp n p = r) (h1 : ¬ r = 0) (h2 : ¬ 2 < r) (hr : ¬ (lo ≤ tkNum tp p r ∧ tkNum tp p r ≤ hi)) : pNum tp n lo hi p = .error (p, 2) := by
  unfold pNum; rw [h, if_neg (by omega), if_neg hr]
theorem pNum_k {tp : Nat → Nat} {n lo hi p r : Nat} (h : tkRun tp n p = r) (h1 : ¬ r = 0) (h2 : ¬ 2 < r) (hr : lo ≤ tkNum tp p r ∧ tkNum tp p r ≤ hi) : pNum tp n lo hi p = .ok (p + r, tkNum tp p r) := by
  unfold pNum; rw [h, if_neg (by omega), if_pos hr]
theorem nX5_isFull_0 : ∀ w ∈ wsX50, w ∈ wsX5_isFull := by decide +kernel
theorem mX5_isFull_1 : Cond.fieldLink RX5 19 "ClueLeave$Tape" "size" "I" ∈ wsX5_isFull := by decide +kernel
set_option maxHeartbeats 4000000 in
set_option maxRecDepth 100000 in
theorem c_X5_isFull (l : Launch) (D : va_G) (cy : Nat → ClassId) (t0 tb : Nat) (fb : Nat → Int32) (tp : Nat → Nat) (n : Nat) (hn : n ≤ 100) (htp : tpIs n tp fb) (p : Nat) (z y : Int32) : q_Rd l yX5_isFull wsX5_isFull 1 D cy [(t0, .inr (5, [.ref tb, .int (nI n), .int (nI p), .int (z), .int (y)])), (tb, .inl (cy 0, 100, .inl fb))] [.ref t0] (fun r => r = nI 1 ∧ 100 ≤ n ∨ r = nI 0 ∧ ¬ 100 ≤ n) := by
  refine q_rd_of (cc := cX5_isFull) (maxL := 1) (ret := (some .boolean)) (by decide) rfl (Nat.le_of_ble_eq_true rfl) ?_
  intro pg en s mi args below meth cd hC hP hK ls hl
  obtain ⟨hx, hb, hr, hml, hown, hts, hlocks⟩ := hC
  have hl : lv_has ls 1 [(0, .ref t0)] := hl
  refine lv_aload_n hx hb dX5_isFull_0 rfl (lv_at hl 0 rfl) ?_
  refine va_get (D := D) (ci := 5) (v := .int (nI n)) (C := RX5) (T := TX5) (N := 5) hx hb hts nX5_isFull_0 hown hK.1 hP 0 rfl rfl 1 (by decide) (hts _ mX5_isFull_1) (fun _ h9 => h9) rfl dX5_isFull_1 ?_
  refine lv_bipush (v := nI 100) hx hb dX5_isFull_4 (by decide) ?_
  refine q_icmp_lt (tgt := 13) hx hb dX5_isFull_6 (by decide) (by omega) (by decide) (fun c1 => ?_) (fun c1 => ?_)
  · refine lv_iconst (v := nI 0) hx hb dX5_isFull_13 (by decide) ?_
    exact q_zret (v := nI 0) hx hb hr hlocks dX5_isFull_14 (by decide) (Or.inr ⟨rfl, by omega⟩)
  · refine lv_iconst (v := nI 1) hx hb dX5_isFull_9 (by decide) ?_
    refine lv_goto (tgt := 14) hx hb dX5_isFull_10 (by decide) ?_
    exact q_zret (v := nI 1) hx hb hr hlocks dX5_isFull_14 (by decide) (Or.inl ⟨rfl, by omega⟩)
theorem nX5_size_0 : ∀ w ∈ wsX50, w ∈ wsX5_size := by decide +kernel
theorem mX5_size_1 : Cond.fieldLink RX5 19 "ClueLeave$Tape" "size" "I" ∈ wsX5_size := by decide +kernel
set_option maxHeartbeats 4000000 in
set_option maxRecDepth 100000 in
theorem c_X5_size (l : Launch) (D : va_G) (cy : Nat → ClassId) (t0 tb : Nat) (fb : Nat → Int32) (tp : Nat → Nat) (n : Nat) (hn : n ≤ 100) (htp : tpIs n tp fb) (p : Nat) (z y : Int32) : q_Rd l yX5_size wsX5_size 1 D cy [(t0, .inr (5, [.ref tb, .int (nI n), .int (nI p), .int (z), .int (y)])), (tb, .inl (cy 0, 100, .inl fb))] [.ref t0] (fun r => r = nI n) := by
  refine q_rd_of (cc := cX5_size) (maxL := 1) (ret := (some .int)) (by decide) rfl (Nat.le_of_ble_eq_true rfl) ?_
  intro pg en s mi args below meth cd hC hP hK ls hl
  obtain ⟨hx, hb, hr, hml, hown, hts, hlocks⟩ := hC
  have hl : lv_has ls 1 [(0, .ref t0)] := hl
  refine lv_aload_n hx hb dX5_size_0 rfl (lv_at hl 0 rfl) ?_
  refine va_get (D := D) (ci := 5) (v := .int (nI n)) (C := RX5) (T := TX5) (N := 5) hx hb hts nX5_size_0 hown hK.1 hP 0 rfl rfl 1 (by decide) (hts _ mX5_size_1) (fun _ h9 => h9) rfl dX5_size_1 ?_
  exact q_iret (v := nI n) hx hb hr hlocks dX5_size_4 (rfl)
theorem nX5_latestFault_0 : ∀ w ∈ wsX50, w ∈ wsX5_latestFault := by decide +kernel
theorem mX5_latestFault_1 : Cond.fieldLink RX5 22 "ClueLeave$Tape" "fault" "I" ∈ wsX5_latestFault := by decide +kernel
set_option maxHeartbeats 4000000 in
set_option maxRecDepth 100000 in
theorem c_X5_latestFault (l : Launch) (D : va_G) (cy : Nat → ClassId) (t0 tb : Nat) (fb : Nat → Int32) (tp : Nat → Nat) (n : Nat) (hn : n ≤ 100) (htp : tpIs n tp fb) (p : Nat) (z y : Int32) : q_Rd l yX5_latestFault wsX5_latestFault 1 D cy [(t0, .inr (5, [.ref tb, .int (nI n), .int (nI p), .int (z), .int (y)])), (tb, .inl (cy 0, 100, .inl fb))] [.ref t0] (fun r => r = y) := by
  refine q_rd_of (cc := cX5_latestFault) (maxL := 1) (ret := (some .int)) (by decide) rfl (Nat.le_of_ble_eq_true rfl) ?_
  intro pg en s mi args below meth cd hC hP hK ls hl
  obtain ⟨hx, hb, hr, hml, hown, hts, hlocks⟩ := hC
  have hl : lv_has ls 1 [(0, .ref t0)] := hl
  refine lv_aload_n hx hb dX5_latestFault_0 rfl (lv_at hl 0 rfl) ?_
  refine va_get (D := D) (ci := 5) (v := .int (y)) (C := RX5) (T := TX5) (N := 5) hx hb hts nX5_latestFault_0 hown hK.1 hP 0 rfl rfl 4 (by decide) (hts _ mX5_latestFault_1) (fun _ h9 => h9) rfl dX5_latestFault_1 ?_
  exact q_iret (v := y) hx hb hr hlocks dX5_latestFault_4 (rfl)
theorem nX5_add_0 : ∀ w ∈ wsX50, w ∈ wsX5_add := by decide +kernel
theorem mX5_add_1 : Cond.fieldLink RX5 11 "ClueLeave$Tape" "bytes" "[I" ∈ wsX5_add := by decide +kernel
theorem mX5_add_2 : Cond.fieldLink RX5 19 "ClueLeave$Tape" "size" "I" ∈ wsX5_add := by decide +kernel
set_option maxHeartbeats 4000000 in
set_option maxRecDepth 100000 in
theorem c_X5_add (l : Launch) (D : va_G) (cy : Nat → ClassId) (t0 tb : Nat) (fb : Nat → Int32) (tp : Nat → Nat) (n : Nat) (hn : n ≤ 100) (htp : tpIs n tp fb) (p : Nat) (z y : Int32) (hn2 : n < 100) (v : Int32) : q_Wi l yX5_add wsX5_add 1 D cy [(t0, .inr (5, [.ref tb, .int (nI n), .int (nI p), .int (z), .int (y)])), (tb, .inl (cy 0, 100, .inl fb))] [.ref t0, .int (v)] (fun r u => r = nI (n + 1) ∧ u = [(t0, .inr (5, [.ref tb, .int (nI (n + 1)), .int (nI p), .int (z), .int (y)])), (tb, .inl (cy 0, 100, .inl (upd fb n v)))]) := by
  refine q_wi_of (cc := cX5_add) (maxL := 2) (ret := (some .int)) (by decide) rfl (Nat.le_of_ble_eq_true rfl) ?_
  intro pg en s mi args below meth cd A hC hA hK H locs hP hD hS ls hl
  obtain ⟨hx, hb, hr, hml, hown, hts, hlocks⟩ := hC
  have hl : lv_has ls 2 [(0, .ref t0), (1, .int (v))] := hl
  refine lv_aload_n hx hb dX5_add_0 rfl (lv_at hl 0 rfl) ?_
  refine va_get (D := D) (ci := 5) (v := .ref tb) (C := RX5) (T := TX5) (N := 5) hx hb hts nX5_add_0 hown hK.1 hP 0 rfl rfl 0 (by decide) (hts _ mX5_add_1) (fun _ h9 => h9) rfl dX5_add_1 ?_
  refine lv_aload_n hx hb dX5_add_4 rfl (lv_at hl 0 rfl) ?_
  refine va_get (D := D) (ci := 5) (v := .int (nI n)) (C := RX5) (T := TX5) (N := 5) hx hb hts nX5_add_0 hown hK.1 hP 0 rfl rfl 1 (by decide) (hts _ mX5_add_2) (fun _ h9 => h9) rfl dX5_add_5 ?_
  refine lv_iload_n hx hb dX5_add_8 rfl (lv_at hl 1 rfl) ?_
  refine q_iast (j := n) hx hb hK hP hD hS 1 rfl (by omega) (by decide) dX5_add_9 (fun H locs hP hD hS => ?_)
  have hP : va_P D vwCl [(t0, .inr (5, [.ref tb, .int (nI n), .int (nI p), .int (z), .int (y)])), (tb, .inl (cy 0, 100, .inl (upd fb n v)))] H := hP
  have hD : va_D A [(t0, .inr (5, [.ref tb, .int (nI n), .int (nI p), .int (z), .int (y)])), (tb, .inl (cy 0, 100, .inl (upd fb n v)))] := hD
  refine lv_aload_n hx hb dX5_add_10 rfl (lv_at hl 0 rfl) ?_
  refine lv_dup hx hb dX5_add_11 rfl ?_
  refine va_get (D := D) (ci := 5) (v := .int (nI n)) (C := RX5) (T := TX5) (N := 5) hx hb hts nX5_add_0 hown hK.1 hP 0 rfl rfl 1 (by decide) (hts _ mX5_add_2) (fun _ h9 => h9) rfl dX5_add_12 ?_
  refine lv_iconst (v := nI 1) hx hb dX5_add_15 (by decide) ?_
  refine lv_iadd hx hb dX5_add_16 ?_
  refine q_top (y := nI (n + 1)) (nI_add _ _) ?_
  refine va_put (D := D) (ci := 5) (v := .int (nI (n + 1))) (ty := .int) (C := RX5) (T := TX5) (N := 5) hx hb hts nX5_add_0 tyX5 tyX5_ok nmX5 hown hK.1 hP hD hS 0 rfl rfl 1 (by decide) (hts _ mX5_add_2) (fun _ h9 => h9) rfl (by decide +kernel) rfl rfl (Nat.le_of_ble_eq_true rfl) dX5_add_17 (fun H locs hP hD hS => ?_)
  have hP : va_P D vwCl [(t0, .inr (5, [.ref tb, .int (nI (n + 1)), .int (nI p), .int (z), .int (y)])), (tb, .inl (cy 0, 100, .inl (upd fb n v)))] H := hP
  have hD : va_D A [(t0, .inr (5, [.ref tb, .int (nI (n + 1)), .int (nI p), .int (z), .int (y)])), (tb, .inl (cy 0, 100, .inl (upd fb n v)))] := hD
  refine lv_aload_n hx hb dX5_add_20 rfl (lv_at hl 0 rfl) ?_
  refine va_get (D := D) (ci := 5) (v := .int (nI (n + 1))) (C := RX5) (T := TX5) (N := 5) hx hb hts nX5_add_0 hown hK.1 hP 0 rfl rfl 1 (by decide) (hts _ mX5_add_2) (fun _ h9 => h9) rfl dX5_add_21 ?_
  have hP9 := hP
  have hD9 := hD
  exact q_wiret (v := nI (n + 1)) hx hb hr hlocks dX5_add_24 hP9 hD9 hS (⟨rfl, rfl⟩)
theorem nX5_blame_0 : ∀ w ∈ wsX50, w ∈ wsX5_blame := by decide +kernel
theorem mX5_blame_1 : Cond.fieldLink RX5 22 "ClueLeave$Tape" "fault" "I" ∈ wsX5_blame := by decide +kernel
theorem mX5_blame_2 : Cond.fieldLink RX5 25 "ClueLeave$Tape" "at" "I" ∈ wsX5_blame := by decide +kernel
theorem mX5_blame_3 : Cond.fieldLink RX5 15 "ClueLeave$Tape" "faultPlace" "I" ∈ wsX5_blame := by decide +kernel
set_option maxHeartbeats 4000000 in
set_option maxRecDepth 100000 in
theorem c_X5_blame (l : Launch) (D : va_G) (cy : Nat → ClassId) (t0 tb : Nat) (fb : Nat → Int32) (tp : Nat → Nat) (n : Nat) (hn : n ≤ 100) (htp : tpIs n tp fb) (za z y x : Int32) : q_Wi l yX5_blame wsX5_blame 1 D cy [(t0, .inr (5, [.ref tb, .int (nI n), .int (za), .int (z), .int (y)])), (tb, .inl (cy 0, 100, .inl fb))] [.ref t0, .int (x)] (fun r u => r = nI 0 ∧ u = [(t0, .inr (5, [.ref tb, .int (nI n), .int (za), .int (za), .int (x)])), (tb, .inl (cy 0, 100, .inl fb))]) := by
  refine q_wi_of (cc := cX5_blame) (maxL := 2) (ret := (some .boolean)) (by decide) rfl (Nat.le_of_ble_eq_true rfl) ?_
  intro pg en s mi args below meth cd A hC hA hK H locs hP hD hS ls hl
  obtain ⟨hx, hb, hr, hml, hown, hts, hlocks⟩ := hC
  have hl : lv_has ls 2 [(0, .ref t0), (1, .int (x))] := hl
  refine lv_aload_n hx hb dX5_blame_0 rfl (lv_at hl 0 rfl) ?_
  refine lv_iload_n hx hb dX5_blame_1 rfl (lv_at hl 1 rfl) ?_
  refine va_put (D := D) (ci := 5) (v := .int (x)) (ty := .int) (C := RX5) (T := TX5) (N := 5) hx hb hts nX5_blame_0 tyX5 tyX5_ok nmX5 hown hK.1 hP hD hS 0 rfl rfl 4 (by decide) (hts _ mX5_blame_1) (fun _ h9 => h9) rfl (by decide +kernel) rfl rfl (Nat.le_of_ble_eq_true rfl) dX5_blame_2 (fun H locs hP hD hS => ?_)
  have hP : va_P D vwCl [(t0, .inr (5, [.ref tb, .int (nI n), .int (za), .int (z), .int (x)])), (tb, .inl (cy 0, 100, .inl fb))] H := hP
  have hD : va_D A [(t0, .inr (5, [.ref tb, .int (nI n), .int (za), .int (z), .int (x)])), (tb, .inl (cy 0, 100, .inl fb))] := hD
  refine lv_aload_n hx hb dX5_blame_5 rfl (lv_at hl 0 rfl) ?_
  refine lv_aload_n hx hb dX5_blame_6 rfl (lv_at hl 0 rfl) ?_
  refine va_get (D := D) (ci := 5) (v := .int (za)) (C := RX5) (T := TX5) (N := 5) hx hb hts nX5_blame_0 hown hK.1 hP 0 rfl rfl 2 (by decide) (hts _ mX5_blame_2) (fun _ h9 => h9) rfl dX5_blame_7 ?_
  refine va_put (D := D) (ci := 5) (v := .int (za)) (ty := .int) (C := RX5) (T := TX5) (N := 5) hx hb hts nX5_blame_0 tyX5 tyX5_ok nmX5 hown hK.1 hP hD hS 0 rfl rfl 3 (by decide) (hts _ mX5_blame_3) (fun _ h9 => h9) rfl (by decide +kernel) rfl rfl (Nat.le_of_ble_eq_true rfl) dX5_blame_10 (fun H locs hP hD hS => ?_)
  have hP : va_P D vwCl [(t0, .inr (5, [.ref tb, .int (nI n), .int (za), .int (za), .int (x)])), (tb, .inl (cy 0, 100, .inl fb))] H := hP
  have hD : va_D A [(t0, .inr (5, [.ref tb, .int (nI n), .int (za), .int (za), .int (x)])), (tb, .inl (cy 0, 100, .inl fb))] := hD
  refine lv_iconst (v := nI 0) hx hb dX5_blame_13 (by decide) ?_
  have hP9 := hP
  have hD9 := hD
  exact q_wzret (v := nI 0) hx hb hr hlocks dX5_blame_14 (by decide) hP9 hD9 hS (⟨rfl, rfl⟩)
set_option maxHeartbeats 4000000 in
set_option maxRecDepth 100000 in
theorem c_X5_kindBy (l : Launch) (D : va_G) (cy : Nat → ClassId) (x : Nat) (hx2 : x < 256) : q_Rd l yX5_kindBy wsX5_kindBy 1 D cy [] [.int (nI x)] (fun r => r = nI (pKind x)) := by
  refine q_rd_of (cc := cX5_kindBy) (maxL := 1) (ret := (some .int)) (by decide) rfl (Nat.le_of_ble_eq_true rfl) ?_
  intro pg en s mi args below meth cd hC hP hK ls hl
  obtain ⟨hx, hb, hr, hml, hown, hts, hlocks⟩ := hC
  have hl : lv_has ls 1 [(0, .int (nI x))] := hl
  refine lv_iload_n hx hb dX5_kindBy_0 rfl (lv_at hl 0 rfl) ?_
  rcases pKind_c x with hx3 | hx3 | hx3 | hx3 | hx3 | hx3
  · refine q_top (y := nI 97) (by rw [hx3]) ?_
    refine lv_lookup (off := 59) (tgt := 60) hx hb dX5_kindBy_1 (by decide) (by decide) (by decide) ?_
    refine lv_iconst (v := nI 5) hx hb dX5_kindBy_60 (by decide) ?_
    exact q_iret (v := nI 5) hx hb hr hlocks dX5_kindBy_61 (by rw [hx3]; rfl)
  · refine q_top (y := nI 103) (by rw [hx3]) ?_
    refine lv_lookup (off := 53) (tgt := 54) hx hb dX5_kindBy_1 (by decide) (by decide) (by decide) ?_
    refine lv_iconst (v := nI 2) hx hb dX5_kindBy_54 (by decide) ?_
    exact q_iret (v := nI 2) hx hb hr hlocks dX5_kindBy_55 (by rw [hx3]; rfl)
  · refine q_top (y := nI 115) (by rw [hx3]) ?_
    refine lv_lookup (off := 57) (tgt := 58) hx hb dX5_kindBy_1 (by decide) (by decide) (by decide) ?_
    refine lv_iconst (v := nI 4) hx hb dX5_kindBy_58 (by decide) ?_
    exact q_iret (v := nI 4) hx hb hr hlocks dX5_kindBy_59 (by rw [hx3]; rfl)
  · refine q_top (y := nI 116) (by rw [hx3]) ?_
    refine lv_lookup (off := 51) (tgt := 52) hx hb dX5_kindBy_1 (by decide) (by decide) (by decide) ?_
    refine lv_iconst (v := nI 1) hx hb dX5_kindBy_52 (by decide) ?_
    exact q_iret (v := nI 1) hx hb hr hlocks dX5_kindBy_53 (by rw [hx3]; rfl)
  · refine q_top (y := nI 118) (by rw [hx3]) ?_
    refine lv_lookup (off := 55) (tgt := 56) hx hb dX5_kindBy_1 (by decide) (by decide) (by decide) ?_
    refine lv_iconst (v := nI 3) hx hb dX5_kindBy_56 (by decide) ?_
    exact q_iret (v := nI 3) hx hb hr hlocks dX5_kindBy_57 (by rw [hx3]; rfl)
  · refine lv_lookup (off := 61) (tgt := 62) hx hb dX5_kindBy_1 (by decide) (pKind_o hx2 hx3) (by decide) ?_
    refine lv_iconst (v := nI 0) hx hb dX5_kindBy_62 (by decide) ?_
    exact q_iret (v := nI 0) hx hb hr hlocks dX5_kindBy_63 ((congrArg nI (pKind_n hx3)).symm)
theorem nX5_take_0 : ∀ w ∈ wsX50, w ∈ wsX5_take := by decide +kernel
theorem mX5_take_1 : Cond.fieldLink RX5 25 "ClueLeave$Tape" "at" "I" ∈ wsX5_take := by decide +kernel
theorem mX5_take_2 : Cond.fieldLink RX5 19 "ClueLeave$Tape" "size" "I" ∈ wsX5_take := by decide +kernel
theorem mX5_take_3 : Cond.fieldLink RX5 11 "ClueLeave$Tape" "bytes" "[I" ∈ wsX5_take := by decide +kernel
set_option maxHeartbeats 4000000 in
set_option maxRecDepth 100000 in
theorem c_X5_take (l : Launch) (D : va_G) (cy : Nat → ClassId) (t0 tb : Nat) (fb : Nat → Int32) (tp : Nat → Nat) (n : Nat) (hn : n ≤ 100) (htp : tpIs n tp fb) (p : Nat) (z y : Int32) (hp : p ≤ n) (c : Nat) (hc : c < 256) : q_Wi l yX5_take wsX5_take 2 D cy [(t0, .inr (5, [.ref tb, .int (nI n), .int (nI p), .int (z), .int (y)])), (tb, .inl (cy 0, 100, .inl fb))] [.ref t0, .int (nI c)] (fun r u => (p < n ∧ pTake tp n c p = .ok (p + 1) ∧ r = nI 1 ∧ u = [(t0, .inr (5, [.ref tb, .int (nI n), .int (nI (p + 1)), .int (z), .int (y)])), (tb, .inl (cy 0, 100, .inl fb))]) ∨ (pTake tp n c p = .error (p, 1) ∧ r = nI 0 ∧ u = [(t0, .inr (5, [.ref tb, .int (nI n), .int (nI p), .int (nI p), .int (nI 1)])), (tb, .inl (cy 0, 100, .inl fb))])) := by
  refine q_wi_of (cc := cX5_take) (maxL := 2) (ret := (some .boolean)) (by decide) rfl (Nat.le_of_ble_eq_true rfl) ?_
  intro pg en s mi args below meth cd A hC hA hK H locs hP hD hS ls hl
  obtain ⟨hx, hb, hr, hml, hown, hts, hlocks⟩ := hC
  have hl : lv_has ls 2 [(0, .ref t0), (1, .int (nI c))] := hl
  refine lv_aload_n hx hb dX5_take_0 rfl (lv_at hl 0 rfl) ?_
  refine va_get (D := D) (ci := 5) (v := .int (nI p)) (C := RX5) (T := TX5) (N := 5) hx hb hts nX5_take_0 hown hK.1 hP 0 rfl rfl 2 (by decide) (hts _ mX5_take_1) (fun _ h9 => h9) rfl dX5_take_1 ?_
  refine lv_aload_n hx hb dX5_take_4 rfl (lv_at hl 0 rfl) ?_
  refine va_get (D := D) (ci := 5) (v := .int (nI n)) (C := RX5) (T := TX5) (N := 5) hx hb hts nX5_take_0 hown hK.1 hP 0 rfl rfl 1 (by decide) (hts _ mX5_take_2) (fun _ h9 => h9) rfl dX5_take_5 ?_
  refine q_icmp_ge (tgt := 24) hx hb dX5_take_8 (by decide) (by omega) (by omega) (fun c1 => ?_) (fun c1 => ?_)
  · refine lv_aload_n hx hb dX5_take_24 rfl (lv_at hl 0 rfl) ?_
    refine lv_iconst (v := nI 1) hx hb dX5_take_25 (by decide) ?_
    refine q_wiV (As := [.int (nI 1)]) (rest := []) (wr := []) ⟨hx, hb, hml, hown, hts⟩ (c_X5_blame l D cy t0 tb fb tp n hn htp (nI p) z y (nI 1)) (cwV 1 hts gX5_take_X5_blame rfl rfl rfl (by decide +kernel) ⟨Nat.le_of_ble_eq_true rfl, Nat.le_of_ble_eq_true rfl⟩) hP hD hS hA hK [0, 1] [] rfl rfl (by decide) rfl (by decide) (by decide) 0 rfl rfl rfl rfl hl.1 rfl (Nat.le_of_ble_eq_true rfl) dX5_take_26 ⟨Nat.zero_le _, Nat.zero_le _⟩ (fun r2 u3 H locs hr2 hP hD hS => ?_)
    obtain ⟨rfl, rfl⟩ := hr2
    have hP : va_P D vwCl [(t0, .inr (5, [.ref tb, .int (nI n), .int (nI p), .int (nI p), .int (nI 1)])), (tb, .inl (cy 0, 100, .inl fb))] H := hP
    have hD : va_D A [(t0, .inr (5, [.ref tb, .int (nI n), .int (nI p), .int (nI p), .int (nI 1)])), (tb, .inl (cy 0, 100, .inl fb))] := hD
    have hP9 := hP
    have hD9 := hD
    exact q_wzret (v := nI 0) hx hb hr hlocks dX5_take_29 (by decide) hP9 hD9 hS (Or.inr ⟨if_neg (by omega), rfl, rfl⟩)
  · refine lv_aload_n hx hb dX5_take_11 rfl (lv_at hl 0 rfl) ?_
    refine va_get (D := D) (ci := 5) (v := .ref tb) (C := RX5) (T := TX5) (N := 5) hx hb hts nX5_take_0 hown hK.1 hP 0 rfl rfl 0 (by decide) (hts _ mX5_take_3) (fun _ h9 => h9) rfl dX5_take_12 ?_
    refine lv_aload_n hx hb dX5_take_15 rfl (lv_at hl 0 rfl) ?_
    refine va_get (D := D) (ci := 5) (v := .int (nI p)) (C := RX5) (T := TX5) (N := 5) hx hb hts nX5_take_0 hown hK.1 hP 0 rfl rfl 2 (by decide) (hts _ mX5_take_1) (fun _ h9 => h9) rfl dX5_take_16 ?_
    refine q_iald (j := p) (v := nI (tp p)) hx hb hK hP 1 rfl (by omega) (by decide) (tpIs_0 htp (by omega)) dX5_take_19 ?_
    have hb256 := (htp p (by omega)).2
    refine lv_iload_n hx hb dX5_take_20 rfl (lv_at hl 1 rfl) ?_
    refine q_icmp_eq (tgt := 30) hx hb dX5_take_21 (by decide) (by omega) (by omega) (fun c4 => ?_) (fun c4 => ?_)
    · refine lv_aload_n hx hb dX5_take_30 rfl (lv_at hl 0 rfl) ?_
      refine lv_dup hx hb dX5_take_31 rfl ?_
      refine va_get (D := D) (ci := 5) (v := .int (nI p)) (C := RX5) (T := TX5) (N := 5) hx hb hts nX5_take_0 hown hK.1 hP 0 rfl rfl 2 (by decide) (hts _ mX5_take_1) (fun _ h9 => h9) rfl dX5_take_32 ?_
      refine lv_iconst (v := nI 1) hx hb dX5_take_35 (by decide) ?_
      refine lv_iadd hx hb dX5_take_36 ?_
      refine q_top (y := nI (p + 1)) (nI_add _ _) ?_
      refine va_put (D := D) (ci := 5) (v := .int (nI (p + 1))) (ty := .int) (C := RX5) (T := TX5) (N := 5) hx hb hts nX5_take_0 tyX5 tyX5_ok nmX5 hown hK.1 hP hD hS 0 rfl rfl 2 (by decide) (hts _ mX5_take_1) (fun _ h9 => h9) rfl (by decide +kernel) rfl rfl (Nat.le_of_ble_eq_true rfl) dX5_take_37 (fun H locs hP hD hS => ?_)
      have hP : va_P D vwCl [(t0, .inr (5, [.ref tb, .int (nI n), .int (nI (p + 1)), .int (z), .int (y)])), (tb, .inl (cy 0, 100, .inl fb))] H := hP
      have hD : va_D A [(t0, .inr (5, [.ref tb, .int (nI n), .int (nI (p + 1)), .int (z), .int (y)])), (tb, .inl (cy 0, 100, .inl fb))] := hD
      refine lv_iconst (v := nI 1) hx hb dX5_take_40 (by decide) ?_
      have hP9 := hP
      have hD9 := hD
      exact q_wzret (v := nI 1) hx hb hr hlocks dX5_take_41 (by decide) hP9 hD9 hS (Or.inl ⟨by omega, if_pos ⟨by omega, by omega⟩, rfl, rfl⟩)
    · refine lv_aload_n hx hb dX5_take_24 rfl (lv_at hl 0 rfl) ?_
      refine lv_iconst (v := nI 1) hx hb dX5_take_25 (by decide) ?_
      refine q_wiV (As := [.int (nI 1)]) (rest := []) (wr := []) ⟨hx, hb, hml, hown, hts⟩ (c_X5_blame l D cy t0 tb fb tp n hn htp (nI p) z y (nI 1)) (cwV 1 hts gX5_take_X5_blame rfl rfl rfl (by decide +kernel) ⟨Nat.le_of_ble_eq_true rfl, Nat.le_of_ble_eq_true rfl⟩) hP hD hS hA hK [0, 1] [] rfl rfl (by decide) rfl (by decide) (by decide) 0 rfl rfl rfl rfl hl.1 rfl (Nat.le_of_ble_eq_true rfl) dX5_take_26 ⟨Nat.zero_le _, Nat.zero_le _⟩ (fun r5 u6 H locs hr5 hP hD hS => ?_)
      obtain ⟨rfl, rfl⟩ := hr5
      have hP : va_P D vwCl [(t0, .inr (5, [.ref tb, .int (nI n), .int (nI p), .int (nI p), .int (nI 1)])), (tb, .inl (cy 0, 100, .inl fb))] H := hP
      have hD : va_D A [(t0, .inr (5, [.ref tb, .int (nI n), .int (nI p), .int (nI p), .int (nI 1)])), (tb, .inl (cy 0, 100, .inl fb))] := hD
      have hP9 := hP
      have hD9 := hD
      exact q_wzret (v := nI 0) hx hb hr hlocks dX5_take_29 (by decide) hP9 hD9 hS (Or.inr ⟨if_neg (by omega), rfl, rfl⟩)
theorem nX5_takeNumber_0 : ∀ w ∈ wsX50, w ∈ wsX5_takeNumber := by decide +kernel
theorem mX5_takeNumber_1 : Cond.fieldLink RX5 25 "ClueLeave$Tape" "at" "I" ∈ wsX5_takeNumber := by decide +kernel
theorem mX5_takeNumber_2 : Cond.fieldLink RX5 19 "ClueLeave$Tape" "size" "I" ∈ wsX5_takeNumber := by decide +kernel
theorem mX5_takeNumber_3 : Cond.initialized RX6 ∈ wsX5_takeNumber := by decide +kernel
theorem mX5_takeNumber_4 : Cond.static yX6_isWithin ∈ wsX5_takeNumber := by decide +kernel
theorem mX5_takeNumber_5 : Cond.fieldLink RX5 11 "ClueLeave$Tape" "bytes" "[I" ∈ wsX5_takeNumber := by decide +kernel
set_option maxHeartbeats 4000000 in
set_option maxRecDepth 100000 in
theorem c_X5_takeNumber (l : Launch) (D : va_G) (cy : Nat → ClassId) (t0 tb : Nat) (fb : Nat → Int32) (tp : Nat → Nat) (n : Nat) (hn : n ≤ 100) (htp : tpIs n tp fb) (p : Nat) (z y : Int32) (hp : p ≤ n) (lo hi : Nat) (hlo : lo < 2 ^ 31) (hhi : hi < 2 ^ 31) : q_Wi l yX5_takeNumber wsX5_takeNumber 2 D cy [(t0, .inr (5, [.ref tb, .int (nI n), .int (nI p), .int (z), .int (y)])), (tb, .inl (cy 0, 100, .inl fb))] [.ref t0, .int (nI lo), .int (nI hi)] (fun r u => (∃ q v : Nat, pNum tp n lo hi p = .ok (q, v) ∧ p < q ∧ q ≤ n ∧ lo ≤ v ∧ v ≤ hi ∧ r = nI v ∧ u = [(t0, .inr (5, [.ref tb, .int (nI n), .int (nI q), .int (z), .int (y)])), (tb, .inl (cy 0, 100, .inl fb))]) ∨ (∃ k : Nat, pNum tp n lo hi p = .error (p, k) ∧ r = -1 ∧ u = [(t0, .inr (5, [.ref tb, .int (nI n), .int (nI p), .int (nI p), .int (nI k)])), (tb, .inl (cy 0, 100, .inl fb))])) := by
  refine q_wi_of (cc := cX5_takeNumber) (maxL := 5) (ret := (some .int)) (by decide) rfl (Nat.le_of_ble_eq_true rfl) ?_
  intro pg en s mi args below meth cd A hC hA hK H locs hP hD hS ls hl
  obtain ⟨hx, hb, hr, hml, hown, hts, hlocks⟩ := hC
  have hl : lv_has ls 5 [(0, .ref t0), (1, .int (nI lo)), (2, .int (nI hi))] := hl
  refine lv_aload_n hx hb dX5_takeNumber_0 rfl (lv_at hl 0 rfl) ?_
  refine va_get (D := D) (ci := 5) (v := .int (nI p)) (C := RX5) (T := TX5) (N := 5) hx hb hts nX5_takeNumber_0 hown hK.1 hP 0 rfl rfl 2 (by decide) (hts _ mX5_takeNumber_1) (fun _ h9 => h9) rfl dX5_takeNumber_1 ?_
  refine lv_istore_n (lv' := [(3, .int (nI p)), (0, .ref t0), (1, .int (nI lo)), (2, .int (nI hi))]) hx hb dX5_takeNumber_4 rfl hl (by decide) rfl (fun ls hl => ?_)
  refine lv_iconst (v := nI 0) hx hb dX5_takeNumber_5 (by decide) ?_
  refine lv_istore (lv' := [(4, .int (nI 0)), (3, .int (nI p)), (0, .ref t0), (1, .int (nI lo)), (2, .int (nI hi))]) hx hb dX5_takeNumber_6 hl (by decide) rfl (fun ls hl => ?_)
  have L8_7 : ∀ (fu j : Nat), j ≤ (n - p) → (n - p) < j + fu → (∀ i, i < j → tkDig tp n (p + i) = true) → ∀ (H : Heap) (locs : List Loc), va_P D vwCl [(t0, .inr (5, [.ref tb, .int (nI n), .int (nI p), .int (z), .int (y)])), (tb, .inl (cy 0, 100, .inl fb))] H → va_D A [(t0, .inr (5, [.ref tb, .int (nI n), .int (nI p), .int (z), .int (y)])), (tb, .inl (cy 0, 100, .inl fb))] → va_S A s.heap H locs → ∀ ls : Array Slot, lv_has ls 5 [(0, .ref t0), (1, .int (nI lo)), (2, .int (nI hi)), (3, .int (nI (p + j))), (4, .int (tnv tp p j))] → W pg l en (q_rm 2) s mi args below meth cd H locs 0 0 (MQ below (va_Qi (fun r u => (∃ q v : Nat, pNum tp n lo hi p = .ok (q, v) ∧ p < q ∧ q ≤ n ∧ lo ≤ v ∧ v ≤ hi ∧ r = nI v ∧ u = [(t0, .inr (5, [.ref tb, .int (nI n), .int (nI q), .int (z), .int (y)])), (tb, .inl (cy 0, 100, .inl fb))]) ∨ (∃ k : Nat, pNum tp n lo hi p = .error (p, k) ∧ r = -1 ∧ u = [(t0, .inr (5, [.ref tb, .int (nI n), .int (nI p), .int (nI p), .int (nI k)])), (tb, .inl (cy 0, 100, .inl fb))])) (fun (u : va_W) t => va_P D vwCl u t.heap ∧ va_D A u) A) args s 0 0 A) (F0 mi 8 ls []) := by
    intro fu
    induction fu with
    | zero =>
      intro j h1 h2
      exact absurd h2 (by omega)
    | succ fu ih8 =>
      intro j h1_8 h2_8 hf8_0 H locs hP hD hS ls hl
      refine lv_iload_n hx hb dX5_takeNumber_8 rfl (lv_at hl 3 rfl) ?_
      refine lv_aload_n hx hb dX5_takeNumber_9 rfl (lv_at hl 0 rfl) ?_
      refine va_get (D := D) (ci := 5) (v := .int (nI n)) (C := RX5) (T := TX5) (N := 5) hx hb hts nX5_takeNumber_0 hown hK.1 hP 0 rfl rfl 1 (by decide) (hts _ mX5_takeNumber_2) (fun _ h9 => h9) rfl dX5_takeNumber_10 ?_
      refine q_icmp_ge (tgt := 55) hx hb dX5_takeNumber_13 (by decide) (by omega) (by omega) (fun c1 => ?_) (fun c1 => ?_)
      · have run2 := tkRun_u (r := j) hf8_0 (tkDig_end (by omega))
        refine lv_iload_n hx hb dX5_takeNumber_55 rfl (lv_at hl 3 rfl) ?_
        refine lv_aload_n hx hb dX5_takeNumber_56 rfl (lv_at hl 0 rfl) ?_
        refine va_get (D := D) (ci := 5) (v := .int (nI p)) (C := RX5) (T := TX5) (N := 5) hx hb hts nX5_takeNumber_0 hown hK.1 hP 0 rfl rfl 2 (by decide) (hts _ mX5_takeNumber_1) (fun _ h9 => h9) rfl dX5_takeNumber_57 ?_
        refine q_icmp_eq (tgt := 73) hx hb dX5_takeNumber_60 (by decide) (by omega) (by omega) (fun c3 => ?_) (fun c3 => ?_)
        · refine lv_aload_n hx hb dX5_takeNumber_73 rfl (lv_at hl 0 rfl) ?_
          refine lv_iconst (v := nI 1) hx hb dX5_takeNumber_74 (by decide) ?_
          refine q_wiV (As := [.int (nI 1)]) (rest := []) (wr := []) ⟨hx, hb, hml, hown, hts⟩ (c_X5_blame l D cy t0 tb fb tp n hn htp (nI p) z y (nI 1)) (cwV 1 hts gX5_takeNumber_X5_blame rfl rfl rfl (by decide +kernel) ⟨Nat.le_of_ble_eq_true rfl, Nat.le_of_ble_eq_true rfl⟩) hP hD hS hA hK [0, 1] [] rfl rfl (by decide) rfl (by decide) (by decide) 0 rfl rfl rfl rfl hl.1 rfl (Nat.le_of_ble_eq_true rfl) dX5_takeNumber_75 ⟨Nat.zero_le _, Nat.zero_le _⟩ (fun r4 u5 H locs hr4 hP hD hS => ?_)
          obtain ⟨rfl, rfl⟩ := hr4
          have hP : va_P D vwCl [(t0, .inr (5, [.ref tb, .int (nI n), .int (nI p), .int (nI p), .int (nI 1)])), (tb, .inl (cy 0, 100, .inl fb))] H := hP
          have hD : va_D A [(t0, .inr (5, [.ref tb, .int (nI n), .int (nI p), .int (nI p), .int (nI 1)])), (tb, .inl (cy 0, 100, .inl fb))] := hD
          refine lv_pop hx hb dX5_takeNumber_78 rfl ?_
          refine lv_iconst (v := (-1)) hx hb dX5_takeNumber_79 (by decide) ?_
          have hP9 := hP
          have hD9 := hD
          exact q_wiret (v := (-1)) hx hb hr hlocks dX5_takeNumber_80 hP9 hD9 hS (Or.inr ⟨_, pNum_e1 run2 (by omega), rfl, rfl⟩)
        · refine lv_iload_n hx hb dX5_takeNumber_63 rfl (lv_at hl 3 rfl) ?_
          refine lv_aload_n hx hb dX5_takeNumber_64 rfl (lv_at hl 0 rfl) ?_
          refine va_get (D := D) (ci := 5) (v := .int (nI p)) (C := RX5) (T := TX5) (N := 5) hx hb hts nX5_takeNumber_0 hown hK.1 hP 0 rfl rfl 2 (by decide) (hts _ mX5_takeNumber_1) (fun _ h9 => h9) rfl dX5_takeNumber_65 ?_
          refine lv_isub hx hb dX5_takeNumber_68 ?_
          refine q_top (y := nI ((p + j) - p)) (pk_sub (by omega)) ?_
          refine lv_iconst (v := nI 2) hx hb dX5_takeNumber_69 (by decide) ?_
          refine q_icmp_le (tgt := 81) hx hb dX5_takeNumber_70 (by decide) (by omega) (by decide) (fun c6 => ?_) (fun c6 => ?_)
          · refine lv_iload hx hb dX5_takeNumber_81 (lv_at hl 4 rfl) ?_
            have hnum := tkNum_lt (tp := tp) (p := p) (r := j) (tkRun_d hf8_0 htp (by omega)) (by omega)
            refine q_top (y := nI (tkNum tp p j)) (tnv_e hf8_0 htp (by omega) (by omega)) ?_
            refine lv_iload_n hx hb dX5_takeNumber_83 rfl (lv_at hl 1 rfl) ?_
            refine lv_iload_n hx hb dX5_takeNumber_84 rfl (lv_at hl 2 rfl) ?_
            refine q_rN (As := [.int (nI (tkNum tp p j)), .int (nI lo), .int (nI hi)]) (rest := []) ⟨hx, hb, hml, hown, hts⟩ (c_X6_isWithin l D cy (nI (tkNum tp p j)) (nI lo) (nI hi)) ⟨va_cnB (host := "ClueLeave") 3 hts gX5_takeNumber_X6_isWithin_n76 rfl rfl rfl (hK.2 _ (by decide +kernel)) (hts _ mX5_takeNumber_3) (by decide +kernel) ⟨Nat.le_of_ble_eq_true rfl, Nat.le_of_ble_eq_true rfl⟩, hts _ mX5_takeNumber_4, trivial⟩ hP hK [] rfl rfl hl.1 rfl (Nat.le_of_ble_eq_true rfl) dX5_takeNumber_85 ⟨Nat.zero_le _, Nat.zero_le _⟩ (fun r7 hr7 => ?_)
            rcases hr7 with ⟨rfl, b8⟩ | ⟨rfl, b8⟩
            · refine lv_if_ne (tgt := 99) hx hb dX5_takeNumber_88 (by decide) (fun _ => ?_) (fun c9 => absurd c9 (by decide))
              have nb9 := (q_wn (by omega) (by omega) (by omega)).mp b8
              refine lv_aload_n hx hb dX5_takeNumber_99 rfl (lv_at hl 0 rfl) ?_
              refine lv_iload_n hx hb dX5_takeNumber_100 rfl (lv_at hl 3 rfl) ?_
              refine va_put (D := D) (ci := 5) (v := .int (nI (p + j))) (ty := .int) (C := RX5) (T := TX5) (N := 5) hx hb hts nX5_takeNumber_0 tyX5 tyX5_ok nmX5 hown hK.1 hP hD hS 0 rfl rfl 2 (by decide) (hts _ mX5_takeNumber_1) (fun _ h9 => h9) rfl (by decide +kernel) rfl rfl (Nat.le_of_ble_eq_true rfl) dX5_takeNumber_101 (fun H locs hP hD hS => ?_)
              have hP : va_P D vwCl [(t0, .inr (5, [.ref tb, .int (nI n), .int (nI (p + j)), .int (z), .int (y)])), (tb, .inl (cy 0, 100, .inl fb))] H := hP
              have hD : va_D A [(t0, .inr (5, [.ref tb, .int (nI n), .int (nI (p + j)), .int (z), .int (y)])), (tb, .inl (cy 0, 100, .inl fb))] := hD
              refine lv_iload hx hb dX5_takeNumber_104 (lv_at hl 4 rfl) ?_
              refine q_top (y := nI (tkNum tp p j)) (tnv_e hf8_0 htp (by omega) (by omega)) ?_
              have hP9 := hP
              have hD9 := hD
              exact q_wiret (v := nI (tkNum tp p j)) hx hb hr hlocks dX5_takeNumber_106 hP9 hD9 hS (Or.inl ⟨_, _, pNum_k run2 (by omega) (by omega) nb9, by omega, by omega, nb9.1, nb9.2, rfl, rfl⟩)
            · refine lv_if_ne (tgt := 99) hx hb dX5_takeNumber_88 (by decide) (fun c9 => absurd (by decide) c9) (fun _ => ?_)
              refine lv_aload_n hx hb dX5_takeNumber_91 rfl (lv_at hl 0 rfl) ?_
              have nb10 := fun q => b8 ((q_wn (by omega) (by omega) (by omega)).mpr q)
              refine lv_iconst (v := nI 2) hx hb dX5_takeNumber_92 (by decide) ?_
              refine q_wiV (As := [.int (nI 2)]) (rest := []) (wr := []) ⟨hx, hb, hml, hown, hts⟩ (c_X5_blame l D cy t0 tb fb tp n hn htp (nI p) z y (nI 2)) (cwV 1 hts gX5_takeNumber_X5_blame rfl rfl rfl (by decide +kernel) ⟨Nat.le_of_ble_eq_true rfl, Nat.le_of_ble_eq_true rfl⟩) hP hD hS hA hK [0, 1] [] rfl rfl (by decide) rfl (by decide) (by decide) 0 rfl rfl rfl rfl hl.1 rfl (Nat.le_of_ble_eq_true rfl) dX5_takeNumber_93 ⟨Nat.zero_le _, Nat.zero_le _⟩ (fun r11 u12 H locs hr11 hP hD hS => ?_)
              obtain ⟨rfl, rfl⟩ := hr11
              have hP : va_P D vwCl [(t0, .inr (5, [.ref tb, .int (nI n), .int (nI p), .int (nI p), .int (nI 2)])), (tb, .inl (cy 0, 100, .inl fb))] H := hP
              have hD : va_D A [(t0, .inr (5, [.ref tb, .int (nI n), .int (nI p), .int (nI p), .int (nI 2)])), (tb, .inl (cy 0, 100, .inl fb))] := hD
              refine lv_pop hx hb dX5_takeNumber_96 rfl ?_
              refine lv_iconst (v := (-1)) hx hb dX5_takeNumber_97 (by decide) ?_
              have hP9 := hP
              have hD9 := hD
              exact q_wiret (v := (-1)) hx hb hr hlocks dX5_takeNumber_98 hP9 hD9 hS (Or.inr ⟨_, pNum_e2 run2 (by omega) (by omega) nb10, rfl, rfl⟩)
          · refine lv_aload_n hx hb dX5_takeNumber_73 rfl (lv_at hl 0 rfl) ?_
            refine lv_iconst (v := nI 1) hx hb dX5_takeNumber_74 (by decide) ?_
            refine q_wiV (As := [.int (nI 1)]) (rest := []) (wr := []) ⟨hx, hb, hml, hown, hts⟩ (c_X5_blame l D cy t0 tb fb tp n hn htp (nI p) z y (nI 1)) (cwV 1 hts gX5_takeNumber_X5_blame rfl rfl rfl (by decide +kernel) ⟨Nat.le_of_ble_eq_true rfl, Nat.le_of_ble_eq_true rfl⟩) hP hD hS hA hK [0, 1] [] rfl rfl (by decide) rfl (by decide) (by decide) 0 rfl rfl rfl rfl hl.1 rfl (Nat.le_of_ble_eq_true rfl) dX5_takeNumber_75 ⟨Nat.zero_le _, Nat.zero_le _⟩ (fun r13 u14 H locs hr13 hP hD hS => ?_)
            obtain ⟨rfl, rfl⟩ := hr13
            have hP : va_P D vwCl [(t0, .inr (5, [.ref tb, .int (nI n), .int (nI p), .int (nI p), .int (nI 1)])), (tb, .inl (cy 0, 100, .inl fb))] H := hP
            have hD : va_D A [(t0, .inr (5, [.ref tb, .int (nI n), .int (nI p), .int (nI p), .int (nI 1)])), (tb, .inl (cy 0, 100, .inl fb))] := hD
            refine lv_pop hx hb dX5_takeNumber_78 rfl ?_
            refine lv_iconst (v := (-1)) hx hb dX5_takeNumber_79 (by decide) ?_
            have hP9 := hP
            have hD9 := hD
            exact q_wiret (v := (-1)) hx hb hr hlocks dX5_takeNumber_80 hP9 hD9 hS (Or.inr ⟨_, pNum_e1 run2 (by omega), rfl, rfl⟩)
      · refine lv_aload_n hx hb dX5_takeNumber_16 rfl (lv_at hl 0 rfl) ?_
        refine va_get (D := D) (ci := 5) (v := .ref tb) (C := RX5) (T := TX5) (N := 5) hx hb hts nX5_takeNumber_0 hown hK.1 hP 0 rfl rfl 0 (by decide) (hts _ mX5_takeNumber_5) (fun _ h9 => h9) rfl dX5_takeNumber_17 ?_
        refine lv_iload_n hx hb dX5_takeNumber_20 rfl (lv_at hl 3 rfl) ?_
        refine q_iald (j := (p + j)) (v := nI (tp (p + j))) hx hb hK hP 1 rfl (by omega) (by decide) (tpIs_0 htp (by omega)) dX5_takeNumber_21 ?_
        have hb256 := (htp (p + j) (by omega)).2
        refine lv_bipush (v := nI 48) hx hb dX5_takeNumber_22 (by decide) ?_
        refine lv_bipush (v := nI 57) hx hb dX5_takeNumber_24 (by decide) ?_
        refine q_rN (As := [.int (nI (tp (p + j))), .int (nI 48), .int (nI 57)]) (rest := []) ⟨hx, hb, hml, hown, hts⟩ (c_X6_isWithin l D cy (nI (tp (p + j))) (nI 48) (nI 57)) ⟨va_cnB (host := "ClueLeave") 3 hts gX5_takeNumber_X6_isWithin_n76 rfl rfl rfl (hK.2 _ (by decide +kernel)) (hts _ mX5_takeNumber_3) (by decide +kernel) ⟨Nat.le_of_ble_eq_true rfl, Nat.le_of_ble_eq_true rfl⟩, hts _ mX5_takeNumber_4, trivial⟩ hP hK [] rfl rfl hl.1 rfl (Nat.le_of_ble_eq_true rfl) dX5_takeNumber_26 ⟨Nat.zero_le _, Nat.zero_le _⟩ (fun r15 hr15 => ?_)
        rcases hr15 with ⟨rfl, b16⟩ | ⟨rfl, b16⟩
        · refine lv_if_eq (tgt := 55) hx hb dX5_takeNumber_29 (by decide) (fun c9 => absurd c9 (by decide)) (fun _ => ?_)
          refine lv_iload hx hb dX5_takeNumber_32 (lv_at hl 4 rfl) ?_
          refine lv_bipush (v := nI 10) hx hb dX5_takeNumber_34 (by decide) ?_
          refine lv_imul hx hb dX5_takeNumber_36 ?_
          refine lv_aload_n hx hb dX5_takeNumber_37 rfl (lv_at hl 0 rfl) ?_
          refine va_get (D := D) (ci := 5) (v := .ref tb) (C := RX5) (T := TX5) (N := 5) hx hb hts nX5_takeNumber_0 hown hK.1 hP 0 rfl rfl 0 (by decide) (hts _ mX5_takeNumber_5) (fun _ h9 => h9) rfl dX5_takeNumber_38 ?_
          refine lv_iload_n hx hb dX5_takeNumber_41 rfl (lv_at hl 3 rfl) ?_
          refine q_iald (j := (p + j)) (v := nI (tp (p + j))) hx hb hK hP 1 rfl (by omega) (by decide) (tpIs_0 htp (by omega)) dX5_takeNumber_42 ?_
          refine lv_iadd hx hb dX5_takeNumber_43 ?_
          refine lv_bipush (v := nI 48) hx hb dX5_takeNumber_44 (by decide) ?_
          refine lv_isub hx hb dX5_takeNumber_46 ?_
          refine lv_istore (lv' := [(4, .int ((((tnv tp p j) * (nI 10)) + (nI (tp (p + j)))) - (nI 48))), (0, .ref t0), (1, .int (nI lo)), (2, .int (nI hi)), (3, .int (nI (p + j)))]) hx hb dX5_takeNumber_47 hl (by decide) rfl (fun ls hl => ?_)
          refine lv_iinc (v := nI ((p + j) + 1)) (lv' := [(3, .int (nI ((p + j) + 1))), (4, .int ((((tnv tp p j) * (nI 10)) + (nI (tp (p + j)))) - (nI 48))), (0, .ref t0), (1, .int (nI lo)), (2, .int (nI hi))]) hx hb dX5_takeNumber_49 hl (k := 4) rfl (q_inc (p + j) 1) (by decide) rfl (fun ls hl => ?_)
          refine lv_goto (tgt := 8) hx hb dX5_takeNumber_52 (by decide) ?_
          exact ih8 (j + 1) (by omega) (by omega) (q_allS hf8_0 (tkDig_yes (by omega) b16 (htp _ (by omega)).2)) H locs hP hD hS ls (q_lset (lv_sub (l' := [(0, .ref t0), (1, .int (nI lo)), (2, .int (nI hi)), (3, .int (nI ((p + j) + 1))), (4, .int ((((tnv tp p j) * (nI 10)) + (nI (tp (p + j)))) - (nI 48)))]) hl [2, 3, 4, 0, 1] rfl) (q_c2 (f := fun z3 z4 => ([(0, .ref t0), (1, .int (nI lo)), (2, .int (nI hi)), (3, .int (z3)), (4, .int (z4))] : List (Nat × Value))) (show (nI ((p + j) + 1) : Int32) = nI (p + (j + 1)) from by rw [Nat.add_assoc]) (show ((((tnv tp p j) * (nI 10)) + (nI (tp (p + j)))) - (nI 48) : Int32) = tnv tp p (j + 1) from tnv_s tp p j (rfl))))
        · refine lv_if_eq (tgt := 55) hx hb dX5_takeNumber_29 (by decide) (fun _ => ?_) (fun c9 => absurd (by decide) c9)
          have run17 := tkRun_u (r := j) hf8_0 (tkDig_no b16 (htp _ (by omega)).2)
          refine lv_iload_n hx hb dX5_takeNumber_55 rfl (lv_at hl 3 rfl) ?_
          refine lv_aload_n hx hb dX5_takeNumber_56 rfl (lv_at hl 0 rfl) ?_
          refine va_get (D := D) (ci := 5) (v := .int (nI p)) (C := RX5) (T := TX5) (N := 5) hx hb hts nX5_takeNumber_0 hown hK.1 hP 0 rfl rfl 2 (by decide) (hts _ mX5_takeNumber_1) (fun _ h9 => h9) rfl dX5_takeNumber_57 ?_
          refine q_icmp_eq (tgt := 73) hx hb dX5_takeNumber_60 (by decide) (by omega) (by omega) (fun c18 => ?_) (fun c18 => ?_)
          · refine lv_aload_n hx hb dX5_takeNumber_73 rfl (lv_at hl 0 rfl) ?_
            refine lv_iconst (v := nI 1) hx hb dX5_takeNumber_74 (by decide) ?_
            refine q_wiV (As := [.int (nI 1)]) (rest := []) (wr := []) ⟨hx, hb, hml, hown, hts⟩ (c_X5_blame l D cy t0 tb fb tp n hn htp (nI p) z y (nI 1)) (cwV 1 hts gX5_takeNumber_X5_blame rfl rfl rfl (by decide +kernel) ⟨Nat.le_of_ble_eq_true rfl, Nat.le_of_ble_eq_true rfl⟩) hP hD hS hA hK [0, 1] [] rfl rfl (by decide) rfl (by decide) (by decide) 0 rfl rfl rfl rfl hl.1 rfl (Nat.le_of_ble_eq_true rfl) dX5_takeNumber_75 ⟨Nat.zero_le _, Nat.zero_le _⟩ (fun r19 u20 H locs hr19 hP hD hS => ?_)
            obtain ⟨rfl, rfl⟩ := hr19
            have hP : va_P D vwCl [(t0, .inr (5, [.ref tb, .int (nI n), .int (nI p), .int (nI p), .int (nI 1)])), (tb, .inl (cy 0, 100, .inl fb))] H := hP
            have hD : va_D A [(t0, .inr (5, [.ref tb, .int (nI n), .int (nI p), .int (nI p), .int (nI 1)])), (tb, .inl (cy 0, 100, .inl fb))] := hD
            refine lv_pop hx hb dX5_takeNumber_78 rfl ?_
            refine lv_iconst (v := (-1)) hx hb dX5_takeNumber_79 (by decide) ?_
            have hP9 := hP
            have hD9 := hD
            exact q_wiret (v := (-1)) hx hb hr hlocks dX5_takeNumber_80 hP9 hD9 hS (Or.inr ⟨_, pNum_e1 run17 (by omega), rfl, rfl⟩)
          · refine lv_iload_n hx hb dX5_takeNumber_63 rfl (lv_at hl 3 rfl) ?_
            refine lv_aload_n hx hb dX5_takeNumber_64 rfl (lv_at hl 0 rfl) ?_
            refine va_get (D := D) (ci := 5) (v := .int (nI p)) (C := RX5) (T := TX5) (N := 5) hx hb hts nX5_takeNumber_0 hown hK.1 hP 0 rfl rfl 2 (by decide) (hts _ mX5_takeNumber_1) (fun _ h9 => h9) rfl dX5_takeNumber_65 ?_
            refine lv_isub hx hb dX5_takeNumber_68 ?_
            refine q_top (y := nI ((p + j) - p)) (pk_sub (by omega)) ?_
            refine lv_iconst (v := nI 2) hx hb dX5_takeNumber_69 (by decide) ?_
            refine q_icmp_le (tgt := 81) hx hb dX5_takeNumber_70 (by decide) (by omega) (by decide) (fun c21 => ?_) (fun c21 => ?_)
            · refine lv_iload hx hb dX5_takeNumber_81 (lv_at hl 4 rfl) ?_
              have hnum := tkNum_lt (tp := tp) (p := p) (r := j) (tkRun_d hf8_0 htp (by omega)) (by omega)
              refine q_top (y := nI (tkNum tp p j)) (tnv_e hf8_0 htp (by omega) (by omega)) ?_
              refine lv_iload_n hx hb dX5_takeNumber_83 rfl (lv_at hl 1 rfl) ?_
              refine lv_iload_n hx hb dX5_takeNumber_84 rfl (lv_at hl 2 rfl) ?_
              refine q_rN (As := [.int (nI (tkNum tp p j)), .int (nI lo), .int (nI hi)]) (rest := []) ⟨hx, hb, hml, hown, hts⟩ (c_X6_isWithin l D cy (nI (tkNum tp p j)) (nI lo) (nI hi)) ⟨va_cnB (host := "ClueLeave") 3 hts gX5_takeNumber_X6_isWithin_n76 rfl rfl rfl (hK.2 _ (by decide +kernel)) (hts _ mX5_takeNumber_3) (by decide +kernel) ⟨Nat.le_of_ble_eq_true rfl, Nat.le_of_ble_eq_true rfl⟩, hts _ mX5_takeNumber_4, trivial⟩ hP hK [] rfl rfl hl.1 rfl (Nat.le_of_ble_eq_true rfl) dX5_takeNumber_85 ⟨Nat.zero_le _, Nat.zero_le _⟩ (fun r22 hr22 => ?_)
              rcases hr22 with ⟨rfl, b23⟩ | ⟨rfl, b23⟩
              · refine lv_if_ne (tgt := 99) hx hb dX5_takeNumber_88 (by decide) (fun _ => ?_) (fun c9 => absurd c9 (by decide))
                have nb24 := (q_wn (by omega) (by omega) (by omega)).mp b23
                refine lv_aload_n hx hb dX5_takeNumber_99 rfl (lv_at hl 0 rfl) ?_
                refine lv_iload_n hx hb dX5_takeNumber_100 rfl (lv_at hl 3 rfl) ?_
                refine va_put (D := D) (ci := 5) (v := .int (nI (p + j))) (ty := .int) (C := RX5) (T := TX5) (N := 5) hx hb hts nX5_takeNumber_0 tyX5 tyX5_ok nmX5 hown hK.1 hP hD hS 0 rfl rfl 2 (by decide) (hts _ mX5_takeNumber_1) (fun _ h9 => h9) rfl (by decide +kernel) rfl rfl (Nat.le_of_ble_eq_true rfl) dX5_takeNumber_101 (fun H locs hP hD hS => ?_)
                have hP : va_P D vwCl [(t0, .inr (5, [.ref tb, .int (nI n), .int (nI (p + j)), .int (z), .int (y)])), (tb, .inl (cy 0, 100, .inl fb))] H := hP
                have hD : va_D A [(t0, .inr (5, [.ref tb, .int (nI n), .int (nI (p + j)), .int (z), .int (y)])), (tb, .inl (cy 0, 100, .inl fb))] := hD
                refine lv_iload hx hb dX5_takeNumber_104 (lv_at hl 4 rfl) ?_
                refine q_top (y := nI (tkNum tp p j)) (tnv_e hf8_0 htp (by omega) (by omega)) ?_
                have hP9 := hP
                have hD9 := hD
                exact q_wiret (v := nI (tkNum tp p j)) hx hb hr hlocks dX5_takeNumber_106 hP9 hD9 hS (Or.inl ⟨_, _, pNum_k run17 (by omega) (by omega) nb24, by omega, by omega, nb24.1, nb24.2, rfl, rfl⟩)
              · refine lv_if_ne (tgt := 99) hx hb dX5_takeNumber_88 (by decide) (fun c9 => absurd (by decide) c9) (fun _ => ?_)
                refine lv_aload_n hx hb dX5_takeNumber_91 rfl (lv_at hl 0 rfl) ?_
                have nb25 := fun q => b23 ((q_wn (by omega) (by omega) (by omega)).mpr q)
                refine lv_iconst (v := nI 2) hx hb dX5_takeNumber_92 (by decide) ?_
                refine q_wiV (As := [.int (nI 2)]) (rest := []) (wr := []) ⟨hx, hb, hml, hown, hts⟩ (c_X5_blame l D cy t0 tb fb tp n hn htp (nI p) z y (nI 2)) (cwV 1 hts gX5_takeNumber_X5_blame rfl rfl rfl (by decide +kernel) ⟨Nat.le_of_ble_eq_true rfl, Nat.le_of_ble_eq_true rfl⟩) hP hD hS hA hK [0, 1] [] rfl rfl (by decide) rfl (by decide) (by decide) 0 rfl rfl rfl rfl hl.1 rfl (Nat.le_of_ble_eq_true rfl) dX5_takeNumber_93 ⟨Nat.zero_le _, Nat.zero_le _⟩ (fun r26 u27 H locs hr26 hP hD hS => ?_)
                obtain ⟨rfl, rfl⟩ := hr26
                have hP : va_P D vwCl [(t0, .inr (5, [.ref tb, .int (nI n), .int (nI p), .int (nI p), .int (nI 2)])), (tb, .inl (cy 0, 100, .inl fb))] H := hP
                have hD : va_D A [(t0, .inr (5, [.ref tb, .int (nI n), .int (nI p), .int (nI p), .int (nI 2)])), (tb, .inl (cy 0, 100, .inl fb))] := hD
                refine lv_pop hx hb dX5_takeNumber_96 rfl ?_
                refine lv_iconst (v := (-1)) hx hb dX5_takeNumber_97 (by decide) ?_
                have hP9 := hP
                have hD9 := hD
                exact q_wiret (v := (-1)) hx hb hr hlocks dX5_takeNumber_98 hP9 hD9 hS (Or.inr ⟨_, pNum_e2 run17 (by omega) (by omega) nb25, rfl, rfl⟩)
            · refine lv_aload_n hx hb dX5_takeNumber_73 rfl (lv_at hl 0 rfl) ?_
              refine lv_iconst (v := nI 1) hx hb dX5_takeNumber_74 (by decide) ?_
              refine q_wiV (As := [.int (nI 1)]) (rest := []) (wr := []) ⟨hx, hb, hml, hown, hts⟩ (c_X5_blame l D cy t0 tb fb tp n hn htp (nI p) z y (nI 1)) (cwV 1 hts gX5_takeNumber_X5_blame rfl rfl rfl (by decide +kernel) ⟨Nat.le_of_ble_eq_true rfl, Nat.le_of_ble_eq_true rfl⟩) hP hD hS hA hK [0, 1] [] rfl rfl (by decide) rfl (by decide) (by decide) 0 rfl rfl rfl rfl hl.1 rfl (Nat.le_of_ble_eq_true rfl) dX5_takeNumber_75 ⟨Nat.zero_le _, Nat.zero_le _⟩ (fun r28 u29 H locs hr28 hP hD hS => ?_)
              obtain ⟨rfl, rfl⟩ := hr28
              have hP : va_P D vwCl [(t0, .inr (5, [.ref tb, .int (nI n), .int (nI p), .int (nI p), .int (nI 1)])), (tb, .inl (cy 0, 100, .inl fb))] H := hP
              have hD : va_D A [(t0, .inr (5, [.ref tb, .int (nI n), .int (nI p), .int (nI p), .int (nI 1)])), (tb, .inl (cy 0, 100, .inl fb))] := hD
              refine lv_pop hx hb dX5_takeNumber_78 rfl ?_
              refine lv_iconst (v := (-1)) hx hb dX5_takeNumber_79 (by decide) ?_
              have hP9 := hP
              have hD9 := hD
              exact q_wiret (v := (-1)) hx hb hr hlocks dX5_takeNumber_80 hP9 hD9 hS (Or.inr ⟨_, pNum_e1 run17 (by omega), rfl, rfl⟩)
  exact L8_7 ((n - p) + 1) 0 (by omega) (by omega) (fun i hi2 => absurd hi2 (Nat.not_lt_zero i)) H locs hP hD hS ls (q_lset (lv_sub (l' := [(0, .ref t0), (1, .int (nI lo)), (2, .int (nI hi)), (3, .int (nI p)), (4, .int (nI 0))]) hl [2, 3, 4, 1, 0] rfl) (q_c2 (f := fun z3 z4 => ([(0, .ref t0), (1, .int (nI lo)), (2, .int (nI hi)), (3, .int (z3)), (4, .int (z4))] : List (Nat × Value))) (show (nI p : Int32) = nI (p + 0) from rfl) (show (nI 0 : Int32) = tnv tp p 0 from rfl)))

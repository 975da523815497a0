/-! acts: what the ring holds (sorts, clues, before; next, kept) -/
abbrev acS : Type := (Nat → Int32) × (Nat → Int32) × (Nat → Int32) × Nat × Nat
def acK (a : acS) (so cl be : Nat) : acS := (upd a.1 a.2.2.2.1 (nI so), upd a.2.1 a.2.2.2.1 (nI cl), upd a.2.2.1 a.2.2.2.1 (nI be), (a.2.2.2.1 + 1) % 24, min (a.2.2.2.2 + 1) 24)
/-- n days, an act each -/
def acD (a : acS) : Nat → acS
  | 0 => a
  | i + 1 => acK (acD a i) 0 0 0
theorem acL_x {a : acS} (i : Nat) (h : a.2.2.2.1 < 24) : (acD a i).2.2.2.1 < 24 := by
  cases i with
  | zero => exact h
  | succ i => exact Nat.mod_lt _ (by decide)
theorem acL_k {a : acS} (i : Nat) (h : a.2.2.2.2 ≤ 24) : (acD a i).2.2.2.2 ≤ 24 := by
  cases i with
  | zero => exact h
  | succ i => exact Nat.min_le_right _ _
def ctSet (w : Nat → Nat) (j v : Nat) : Nat → Nat := fun z => if z < 5 then w z else if z = j then v else w z
theorem ctSet_K (w : Nat → Nat) (c v z : Nat) (m : Nat) (hm : m = 6 ∨ m = 8) : ctK (ctSet w (m + 4 * c) v) z = ctK w z := by
  unfold ctK ctSet
  rw [if_neg (by omega), if_neg (by omega)]
theorem ctSet_E (w : Nat → Nat) (c v z : Nat) (m : Nat) (hm : m = 6 ∨ m = 8) : ctE (ctSet w (m + 4 * c) v) z = ctE w z := by
  unfold ctE ctSet
  rw [if_neg (by omega), if_neg (by omega)]
theorem ctSet_T6 (w : Nat → Nat) (c v z : Nat) : ctT (ctSet w (6 + 4 * c) v) z = if z = c then v else ctT w z := by
  unfold ctT ctSet
  rw [if_neg (by omega)]
  by_cases h : z = c
  · rw [if_pos (by omega), if_pos h]
  · rw [if_neg (by omega), if_neg h]
theorem ctSet_T8 (w : Nat → Nat) (c v z : Nat) : ctT (ctSet w (8 + 4 * c) v) z = ctT w z := by
  unfold ctT ctSet
  rw [if_neg (by omega), if_neg (by omega)]
theorem ctSet_O8 (w : Nat → Nat) (c v z : Nat) : ctO (ctSet w (8 + 4 * c) v) z = if z = c then v else ctO w z := by
  unfold ctO ctSet
  rw [if_neg (by omega)]
  by_cases h : z = c
  · rw [if_pos (by omega), if_pos h]
  · rw [if_neg (by omega), if_neg h]
theorem ctSet_O6 (w : Nat → Nat) (c v z : Nat) : ctO (ctSet w (6 + 4 * c) v) z = ctO w z := by
  unfold ctO ctSet
  rw [if_neg (by omega), if_neg (by omega)]
theorem ctIs_T {w : Nat → Nat} {c v : Nat} {fk ft fe fo : Nat → Int32} (h : ctIs w fk ft fe fo) (hc : c < w 4) : ctIs (ctSet w (6 + 4 * c) v) fk (upd ft c (nI v)) fe fo := fun z hz => by
  rw [ctSet_K _ _ _ _ _ (Or.inl rfl), ctSet_E _ _ _ _ _ (Or.inl rfl), ctSet_T6, ctSet_O6]
  have := h z hz
  by_cases e : z = c
  · subst e; rw [pk_us, if_pos rfl]; exact ⟨this.1, rfl, this.2.2⟩
  · rw [pk_un e, if_neg e]; exact this
theorem ctIs_O {w : Nat → Nat} {c v : Nat} {fk ft fe fo : Nat → Int32} (h : ctIs w fk ft fe fo) (hc : c < w 4) : ctIs (ctSet w (8 + 4 * c) v) fk ft fe (upd fo c (nI v)) := fun z hz => by
  rw [ctSet_K _ _ _ _ _ (Or.inr rfl), ctSet_E _ _ _ _ _ (Or.inr rfl), ctSet_T8, ctSet_O8]
  have := h z hz
  by_cases e : z = c
  · subst e; rw [pk_us, if_pos rfl]; exact ⟨this.1, this.2.1, this.2.2.1, rfl⟩
  · rw [pk_un e, if_neg e]; exact this
theorem ctOk_T {w : Nat → Nat} {c v : Nat} (h : ctOk w) (h1 : 1 ≤ v) (h2 : v < 64) : ctOk (ctSet w (6 + 4 * c) v) := by
  obtain ⟨a0, a1, a2, a3, a4, hc⟩ := h
  refine ⟨a0, a1, a2, a3, a4, fun z hz => ?_⟩
  rw [ctSet_K _ _ _ _ _ (Or.inl rfl), ctSet_E _ _ _ _ _ (Or.inl rfl), ctSet_T6, ctSet_O6]
  have := hc z hz
  split
  · omega
  · exact this
theorem ctOk_O {w : Nat → Nat} {c v : Nat} (h : ctOk w) (h0 : c < w 4) (h1 : v < ctE w c) : ctOk (ctSet w (8 + 4 * c) v) := by
  obtain ⟨a0, a1, a2, a3, a4, hc⟩ := h
  refine ⟨a0, a1, a2, a3, a4, fun z hz => ?_⟩
  rw [ctSet_K _ _ _ _ _ (Or.inr rfl), ctSet_E _ _ _ _ _ (Or.inr rfl), ctSet_T8, ctSet_O8]
  have := hc z hz
  split
  · next e => subst e; exact ⟨this.1, this.2.1, this.2.2.1, this.2.2.2.1, this.2.2.2.2.1, this.2.2.2.2.2.1, h1⟩
  · exact this
def ctDay (w : Nat → Nat) (n : Nat) : Nat → Nat := fun j => if j = 2 then w 2 + n else w j
theorem ctIs_day {w : Nat → Nat} {n : Nat} {fk ft fe fo : Nat → Int32} (h : ctIs w fk ft fe fo) : ctIs (ctDay w n) fk ft fe fo := fun z hz => by
  have e : ∀ j, j ≠ 2 → ctDay w n j = w j := fun j hj => if_neg hj
  have := h z (by rw [← e 4 (by decide)]; exact hz)
  unfold ctK ctT ctE ctO at this ⊢
  rw [e _ (by omega), e _ (by omega), e _ (by omega), e _ (by omega)]
  exact this
theorem ctOk_day {w : Nat → Nat} {n : Nat} (h : ctOk w) (hn : w 2 + n ≤ 999) : ctOk (ctDay w n) := by
  obtain ⟨h0, h1, h2, h3, h4, hv⟩ := h
  have e : ∀ j, j ≠ 2 → ctDay w n j = w j := fun j hj => if_neg hj
  refine ⟨by rw [e _ (by decide)]; exact h0, by rw [e _ (by decide)]; exact h1, hn, by rw [e _ (by decide)]; exact h3, by rw [e _ (by decide)]; exact h4, fun z hz => ?_⟩
  have := hv z (by rw [← e 4 (by decide)]; exact hz)
  unfold ctK ctT ctE ctO at this ⊢
  rw [e _ (by omega), e _ (by omega), e _ (by omega), e _ (by omega)]
  exact this
def oBribe (w : Nat → Nat) (a : acS) (x t : Int32) : Int32 × (Nat → Nat) × acS :=
  if inC (w 4) x then if inW 1 t then if (w 3).testBit x.toNatClampNeg = decide (t.toNatClampNeg = 1) then (-1000002, w, a) else (nI (w 3 ^^^ (1 * 2 ^ x.toNatClampNeg)), ctBr w x.toNatClampNeg, acK a 1 x.toNatClampNeg (w 3)) else (-1000001, w, a) else (-1000001, w, a)
def oDays (w : Nat → Nat) (a : acS) (n : Int32) : Int32 × (Nat → Nat) × acS :=
  if 0 < w 0 then if nI 1 ≤ n ∧ n ≤ nI 24 then if w 2 + n.toNatClampNeg ≤ 999 then (nI (ctLeft (ctDay w n.toNatClampNeg) (w 2 + n.toNatClampNeg)), ctDay w n.toNatClampNeg, acD a n.toNatClampNeg) else (-1000003, w, a) else (-1000001, w, a) else (-1000002, w, a)
def oLearn (w : Nat → Nat) (a : acS) (x t : Int32) : Int32 × (Nat → Nat) × acS :=
  if inC (w 4) x then if nI 1 ≤ t ∧ t ≤ nI (ctAll w) then (nI (ctT w x.toNatClampNeg), ctSet w (6 + 4 * x.toNatClampNeg) t.toNatClampNeg, acK a 2 x.toNatClampNeg (ctT w x.toNatClampNeg)) else (-1000001, w, a) else (-1000001, w, a)
def oShift (w : Nat → Nat) (a : acS) (x t : Int32) : Int32 × (Nat → Nat) × acS :=
  if inC (w 4) x then if nI 0 ≤ t ∧ t ≤ nI (ctE w x.toNatClampNeg - 1) then (nI (ctO w x.toNatClampNeg), ctSet w (8 + 4 * x.toNatClampNeg) t.toNatClampNeg, acK a 3 x.toNatClampNeg (ctO w x.toNatClampNeg)) else (-1000001, w, a) else (-1000001, w, a)
theorem nX6_learn_0 : ∀ w ∈ wsX60, w ∈ wsX6_learn := by decide +kernel
theorem mX6_learn_1 : Cond.fieldLink RX6 47 "ClueLeave" "city" "LClueLeave$City;" ∈ wsX6_learn := by decide +kernel
theorem nX6_learn_2 : ∀ w ∈ wsX20, w ∈ wsX6_learn := by decide +kernel
theorem mX6_learn_3 : Cond.fieldLink RX6 151 "ClueLeave$City" "tells" "[I" ∈ wsX6_learn := by decide +kernel
theorem mX6_learn_4 : Cond.fieldLink RX6 26 "ClueLeave" "acts" "LClueLeave$Acts;" ∈ wsX6_learn := by decide +kernel
theorem mX6_learn_5 : Cond.constant RX6 66 (-1000001) ∈ wsX6_learn := by decide +kernel
set_option maxHeartbeats 4000000 in
set_option maxRecDepth 100000 in
theorem c_X6_learn (l : Launch) (D : va_G) (cy : Nat → ClassId) (x0 r0 t0 s0 k0 j0 im : Nat) (st : Int32) (h kA tA eA oA : Nat) (w : Nat → Nat) (fk ft fe fo : Nat → Int32) (hw : ctIs w fk ft fe fo) (hv : ctOk w) (q qs qc qb : Nat) (fs fc fb : Nat → Int32) (nx kp : Nat) (hnx : nx < 24) (hkp : kp ≤ 24) (x t : Int32) : q_Wi l yX6_learn wsX6_learn 3 D cy [(x0, .inr (6, [.ref r0, .ref t0, .ref q, .ref s0, .ref k0, .ref h, .ref j0, .ref im, .int (st)])), (h, .inr (2, [.int (nI (w 0)), .int (nI (w 1)), .int (nI (w 2)), .int (nI (w 4)), .int (nI (w 3)), .ref kA, .ref tA, .ref eA, .ref oA])), (kA, .inl (cy 0, 6, .inl fk)), (tA, .inl (cy 0, 6, .inl ft)), (eA, .inl (cy 0, 6, .inl fe)), (oA, .inl (cy 0, 6, .inl fo)), (q, .inr (0, [.ref qs, .ref qc, .ref qb, .int (nI nx), .int (nI kp)])), (qs, .inl (cy 0, 24, .inl fs)), (qc, .inl (cy 0, 24, .inl fc)), (qb, .inl (cy 0, 24, .inl fb))] [.ref x0, .int (x), .int (t)] (fun r u => ∃ (w2 : Nat → Nat) (ft2 fo2 : Nat → Int32) (a2 : acS), oLearn w ((fs, fc, fb, nx, kp) : acS) x t = (r, w2, a2) ∧ ctOk w2 ∧ ctIs w2 fk ft2 fe fo2 ∧ u = [(x0, .inr (6, [.ref r0, .ref t0, .ref q, .ref s0, .ref k0, .ref h, .ref j0, .ref im, .int (st)])), (h, .inr (2, [.int (nI (w2 0)), .int (nI (w2 1)), .int (nI (w2 2)), .int (nI (w2 4)), .int (nI (w2 3)), .ref kA, .ref tA, .ref eA, .ref oA])), (kA, .inl (cy 0, 6, .inl fk)), (tA, .inl (cy 0, 6, .inl ft2)), (eA, .inl (cy 0, 6, .inl fe)), (oA, .inl (cy 0, 6, .inl fo2)), (q, .inr (0, [.ref qs, .ref qc, .ref qb, .int (nI a2.2.2.2.1), .int (nI a2.2.2.2.2)])), (qs, .inl (cy 0, 24, .inl a2.1)), (qc, .inl (cy 0, 24, .inl a2.2.1)), (qb, .inl (cy 0, 24, .inl a2.2.2.1))]) := by
  refine q_wi_of (cc := cX6_learn) (maxL := 4) (ret := (some .int)) (by decide) rfl (Nat.le_of_ble_eq_true rfl) ?_
  intro pg en s mi args below meth cd A hC hA hK H locs hP hD hS ls hl
  obtain ⟨hx, hb, hr, hml, hown, hts, hlocks⟩ := hC
  have hl : lv_has ls 4 [(0, .ref x0), (1, .int (x)), (2, .int (t))] := hl
  obtain ⟨hv0, hv1, hv2, hv3, hv4, hvc⟩ := id hv
  refine lv_aload_n hx hb dX6_learn_0 rfl (lv_at hl 0 rfl) ?_
  refine va_get (D := D) (ci := 6) (v := .ref h) (C := RX6) (T := TX6) (N := 9) hx hb hts nX6_learn_0 hown hK.1 hP 0 rfl rfl 5 (by decide) (hts _ mX6_learn_1) (fun _ h9 => h9) rfl dX6_learn_1 ?_
  refine lv_iload_n hx hb dX6_learn_4 rfl (lv_at hl 1 rfl) ?_
  refine q_rV (As := [.int (x)]) (rest := []) ⟨hx, hb, hml, hown, hts⟩ (c_X2_has l D cy h kA tA eA oA w fk ft fe fo hw hv x) (cwV 1 hts gX6_learn_X2_has rfl rfl rfl (by decide +kernel) ⟨Nat.le_of_ble_eq_true rfl, Nat.le_of_ble_eq_true rfl⟩) hP hK [1, 2, 3, 4, 5] rfl 1 rfl rfl rfl rfl hl.1 rfl (Nat.le_of_ble_eq_true rfl) dX6_learn_5 ⟨Nat.zero_le _, Nat.zero_le _⟩ (fun r1 hr1 => ?_)
  rcases hr1 with ⟨rfl, b2⟩ | ⟨rfl, b2⟩
  · replace b2 := (inC_i (by omega)).mp b2
    refine lv_if_eq (tgt := 26) hx hb dX6_learn_8 (by decide) (fun c9 => absurd c9 (by decide)) (fun _ => ?_)
    obtain ⟨c, hc, rfl⟩ := (inC_i (by omega)).mpr b2
    obtain ⟨hk1, hk5, ht1, ht2, he2, he4, ho1⟩ := hvc c hc
    refine lv_iload_n hx hb dX6_learn_11 rfl (lv_at hl 2 rfl) ?_
    refine lv_iconst (v := nI 1) hx hb dX6_learn_12 (by decide) ?_
    refine lv_aload_n hx hb dX6_learn_13 rfl (lv_at hl 0 rfl) ?_
    refine va_get (D := D) (ci := 6) (v := .ref h) (C := RX6) (T := TX6) (N := 9) hx hb hts nX6_learn_0 hown hK.1 hP 0 rfl rfl 5 (by decide) (hts _ mX6_learn_1) (fun _ h9 => h9) rfl dX6_learn_14 ?_
    refine q_rV (As := []) (rest := [.int (nI 1), .int (t)]) ⟨hx, hb, hml, hown, hts⟩ (c_X2_everyone l D cy h kA tA eA oA w fk ft fe fo hw hv) (cwV 0 hts gX6_learn_X2_everyone rfl rfl rfl (by decide +kernel) ⟨Nat.le_of_ble_eq_true rfl, Nat.le_of_ble_eq_true rfl⟩) hP hK [1, 2, 3, 4, 5] rfl 1 rfl rfl rfl rfl hl.1 rfl (Nat.le_of_ble_eq_true rfl) dX6_learn_17 ⟨Nat.zero_le _, Nat.zero_le _⟩ (fun r3 hr3 => ?_)
    obtain rfl := hr3
    refine q_rS (As := [.int (t), .int (nI 1), .int (nI (ctAll w))]) (rest := []) ⟨hx, hb, hml, hown, hts⟩ (c_X6_isWithin l D cy t (nI 1) (nI (ctAll w))) (va_cwS 3 hts gX6_learn_X6_isWithin rfl rfl rfl (by decide +kernel) ⟨Nat.le_of_ble_eq_true rfl, Nat.le_of_ble_eq_true rfl⟩) hP hK [] rfl rfl hl.1 rfl (Nat.le_of_ble_eq_true rfl) dX6_learn_20 ⟨Nat.zero_le _, Nat.zero_le _⟩ (fun r4 hr4 => ?_)
    rcases hr4 with ⟨rfl, b5⟩ | ⟨rfl, b5⟩
    · have _ := b5
      refine lv_if_ne (tgt := 29) hx hb dX6_learn_23 (by decide) (fun _ => ?_) (fun c9 => absurd c9 (by decide))
      have hal := ctAll_lt hv0
      obtain ⟨m, hm1, hm2, rfl⟩ := q_rng b5 (by omega) (by decide)
      refine lv_aload_n hx hb dX6_learn_29 rfl (lv_at hl 0 rfl) ?_
      refine va_get (D := D) (ci := 6) (v := .ref h) (C := RX6) (T := TX6) (N := 9) hx hb hts nX6_learn_0 hown hK.1 hP 0 rfl rfl 5 (by decide) (hts _ mX6_learn_1) (fun _ h9 => h9) rfl dX6_learn_30 ?_
      refine va_get (D := D) (ci := 2) (v := .ref tA) (C := RX2) (T := TX2) (N := 9) hx hb hts nX6_learn_2 hown hK.1 hP 1 rfl rfl 6 (by decide) (hts _ mX6_learn_3) (fun _ h9 => h9) rfl dX6_learn_33 ?_
      refine lv_iload_n hx hb dX6_learn_36 rfl (lv_at hl 1 rfl) ?_
      refine q_iald (j := c) (v := nI (ctT w c)) hx hb hK hP 3 rfl (by omega) (by decide) (ctIs_1 hw (by omega)) dX6_learn_37 ?_
      refine lv_istore_n (lv' := [(3, .int (nI (ctT w c))), (0, .ref x0), (1, .int (nI c)), (2, .int (nI m))]) hx hb dX6_learn_38 rfl hl (by decide) rfl (fun ls hl => ?_)
      refine lv_aload_n hx hb dX6_learn_39 rfl (lv_at hl 1 rfl) ?_
      refine va_get (D := D) (ci := 6) (v := .ref q) (C := RX6) (T := TX6) (N := 9) hx hb hts nX6_learn_0 hown hK.1 hP 0 rfl rfl 2 (by decide) (hts _ mX6_learn_4) (fun _ h9 => h9) rfl dX6_learn_40 ?_
      refine lv_iconst (v := nI 2) hx hb dX6_learn_43 (by decide) ?_
      refine lv_iload_n hx hb dX6_learn_44 rfl (lv_at hl 2 rfl) ?_
      refine lv_iload_n hx hb dX6_learn_45 rfl (lv_at hl 0 rfl) ?_
      refine q_wvV (As := [.int (nI 2), .int (nI c), .int (nI (ctT w c))]) (rest := []) (wr := [(x0, .inr (6, [.ref r0, .ref t0, .ref q, .ref s0, .ref k0, .ref h, .ref j0, .ref im, .int (st)])), (h, .inr (2, [.int (nI (w 0)), .int (nI (w 1)), .int (nI (w 2)), .int (nI (w 4)), .int (nI (w 3)), .ref kA, .ref tA, .ref eA, .ref oA])), (kA, .inl (cy 0, 6, .inl fk)), (tA, .inl (cy 0, 6, .inl ft)), (eA, .inl (cy 0, 6, .inl fe)), (oA, .inl (cy 0, 6, .inl fo))]) ⟨hx, hb, hml, hown, hts⟩ (c_X0_keep l D cy q qs qc qb fs fc fb nx kp hnx hkp (nI 2) (nI c) (nI (ctT w c))) (cwV 3 hts gX6_learn_X0_keep rfl rfl rfl (by decide +kernel) ⟨Nat.le_of_ble_eq_true rfl, Nat.le_of_ble_eq_true rfl⟩) hP hD hS hA hK [6, 7, 8, 9] [0, 1, 2, 3, 4, 5] rfl rfl (by decide) rfl (by decide) (by decide) 6 rfl rfl rfl rfl hl.1 rfl (Nat.le_of_ble_eq_true rfl) dX6_learn_46 ⟨Nat.zero_le _, Nat.zero_le _⟩ (fun u7 H locs hr6 hP hD hS => ?_)
      obtain rfl := hr6
      have hP : va_P D vwCl [(x0, .inr (6, [.ref r0, .ref t0, .ref q, .ref s0, .ref k0, .ref h, .ref j0, .ref im, .int (st)])), (h, .inr (2, [.int (nI (w 0)), .int (nI (w 1)), .int (nI (w 2)), .int (nI (w 4)), .int (nI (w 3)), .ref kA, .ref tA, .ref eA, .ref oA])), (kA, .inl (cy 0, 6, .inl fk)), (tA, .inl (cy 0, 6, .inl ft)), (eA, .inl (cy 0, 6, .inl fe)), (oA, .inl (cy 0, 6, .inl fo)), (q, .inr (0, [.ref qs, .ref qc, .ref qb, .int (nI ((acK ((fs, fc, fb, nx, kp) : acS) 2 c (ctT w c)).2.2.2.1)), .int (nI ((acK ((fs, fc, fb, nx, kp) : acS) 2 c (ctT w c)).2.2.2.2))])), (qs, .inl (cy 0, 24, .inl ((acK ((fs, fc, fb, nx, kp) : acS) 2 c (ctT w c)).1))), (qc, .inl (cy 0, 24, .inl ((acK ((fs, fc, fb, nx, kp) : acS) 2 c (ctT w c)).2.1))), (qb, .inl (cy 0, 24, .inl ((acK ((fs, fc, fb, nx, kp) : acS) 2 c (ctT w c)).2.2.1)))] H := hP
      have hD : va_D A [(x0, .inr (6, [.ref r0, .ref t0, .ref q, .ref s0, .ref k0, .ref h, .ref j0, .ref im, .int (st)])), (h, .inr (2, [.int (nI (w 0)), .int (nI (w 1)), .int (nI (w 2)), .int (nI (w 4)), .int (nI (w 3)), .ref kA, .ref tA, .ref eA, .ref oA])), (kA, .inl (cy 0, 6, .inl fk)), (tA, .inl (cy 0, 6, .inl ft)), (eA, .inl (cy 0, 6, .inl fe)), (oA, .inl (cy 0, 6, .inl fo)), (q, .inr (0, [.ref qs, .ref qc, .ref qb, .int (nI ((acK ((fs, fc, fb, nx, kp) : acS) 2 c (ctT w c)).2.2.2.1)), .int (nI ((acK ((fs, fc, fb, nx, kp) : acS) 2 c (ctT w c)).2.2.2.2))])), (qs, .inl (cy 0, 24, .inl ((acK ((fs, fc, fb, nx, kp) : acS) 2 c (ctT w c)).1))), (qc, .inl (cy 0, 24, .inl ((acK ((fs, fc, fb, nx, kp) : acS) 2 c (ctT w c)).2.1))), (qb, .inl (cy 0, 24, .inl ((acK ((fs, fc, fb, nx, kp) : acS) 2 c (ctT w c)).2.2.1)))] := hD
      refine lv_aload_n hx hb dX6_learn_49 rfl (lv_at hl 1 rfl) ?_
      refine va_get (D := D) (ci := 6) (v := .ref h) (C := RX6) (T := TX6) (N := 9) hx hb hts nX6_learn_0 hown hK.1 hP 0 rfl rfl 5 (by decide) (hts _ mX6_learn_1) (fun _ h9 => h9) rfl dX6_learn_50 ?_
      refine va_get (D := D) (ci := 2) (v := .ref tA) (C := RX2) (T := TX2) (N := 9) hx hb hts nX6_learn_2 hown hK.1 hP 1 rfl rfl 6 (by decide) (hts _ mX6_learn_3) (fun _ h9 => h9) rfl dX6_learn_53 ?_
      refine lv_iload_n hx hb dX6_learn_56 rfl (lv_at hl 2 rfl) ?_
      refine lv_iload_n hx hb dX6_learn_57 rfl (lv_at hl 3 rfl) ?_
      refine q_iast (j := c) hx hb hK hP hD hS 3 rfl (by omega) (by decide) dX6_learn_58 (fun H locs hP hD hS => ?_)
      have hP : va_P D vwCl [(x0, .inr (6, [.ref r0, .ref t0, .ref q, .ref s0, .ref k0, .ref h, .ref j0, .ref im, .int (st)])), (h, .inr (2, [.int (nI (w 0)), .int (nI (w 1)), .int (nI (w 2)), .int (nI (w 4)), .int (nI (w 3)), .ref kA, .ref tA, .ref eA, .ref oA])), (kA, .inl (cy 0, 6, .inl fk)), (tA, .inl (cy 0, 6, .inl (upd ft c (nI m)))), (eA, .inl (cy 0, 6, .inl fe)), (oA, .inl (cy 0, 6, .inl fo)), (q, .inr (0, [.ref qs, .ref qc, .ref qb, .int (nI ((acK ((fs, fc, fb, nx, kp) : acS) 2 c (ctT w c)).2.2.2.1)), .int (nI ((acK ((fs, fc, fb, nx, kp) : acS) 2 c (ctT w c)).2.2.2.2))])), (qs, .inl (cy 0, 24, .inl ((acK ((fs, fc, fb, nx, kp) : acS) 2 c (ctT w c)).1))), (qc, .inl (cy 0, 24, .inl ((acK ((fs, fc, fb, nx, kp) : acS) 2 c (ctT w c)).2.1))), (qb, .inl (cy 0, 24, .inl ((acK ((fs, fc, fb, nx, kp) : acS) 2 c (ctT w c)).2.2.1)))] H := hP
      have hD : va_D A [(x0, .inr (6, [.ref r0, .ref t0, .ref q, .ref s0, .ref k0, .ref h, .ref j0, .ref im, .int (st)])), (h, .inr (2, [.int (nI (w 0)), .int (nI (w 1)), .int (nI (w 2)), .int (nI (w 4)), .int (nI (w 3)), .ref kA, .ref tA, .ref eA, .ref oA])), (kA, .inl (cy 0, 6, .inl fk)), (tA, .inl (cy 0, 6, .inl (upd ft c (nI m)))), (eA, .inl (cy 0, 6, .inl fe)), (oA, .inl (cy 0, 6, .inl fo)), (q, .inr (0, [.ref qs, .ref qc, .ref qb, .int (nI ((acK ((fs, fc, fb, nx, kp) : acS) 2 c (ctT w c)).2.2.2.1)), .int (nI ((acK ((fs, fc, fb, nx, kp) : acS) 2 c (ctT w c)).2.2.2.2))])), (qs, .inl (cy 0, 24, .inl ((acK ((fs, fc, fb, nx, kp) : acS) 2 c (ctT w c)).1))), (qc, .inl (cy 0, 24, .inl ((acK ((fs, fc, fb, nx, kp) : acS) 2 c (ctT w c)).2.1))), (qb, .inl (cy 0, 24, .inl ((acK ((fs, fc, fb, nx, kp) : acS) 2 c (ctT w c)).2.2.1)))] := hD
      refine lv_iload_n hx hb dX6_learn_59 rfl (lv_at hl 0 rfl) ?_
      have hP9 := hP
      have hD9 := hD
      exact q_wiret (v := nI (ctT w c)) hx hb hr hlocks dX6_learn_60 hP9 hD9 hS (⟨_, _, _, _, by simp only [oLearn, q_cl (by omega : c < 2147483648), q_cl (by omega : m < 2147483648), if_pos b2, if_pos b5], ctOk_T hv hm1 (by omega), ctIs_T hw hc, rfl⟩)
    · have _ := b5
      refine lv_if_ne (tgt := 29) hx hb dX6_learn_23 (by decide) (fun c9 => absurd (by decide) c9) (fun _ => ?_)
      refine lv_ldc (v := (-1000001)) hx hb hown (hts _ mX6_learn_5) dX6_learn_26 ?_
      have hP9 := hP
      have hD9 := hD
      exact q_wiret (v := (-1000001)) hx hb hr hlocks dX6_learn_28 hP9 hD9 hS (⟨w, ft, fo, (fs, fc, fb, nx, kp), by simp only [oLearn, q_cl (by omega : c < 2147483648), if_pos b2, if_neg b5], hv, hw, rfl⟩)
  · replace b2 := fun q => b2 ((inC_i (by omega)).mpr q)
    refine lv_if_eq (tgt := 26) hx hb dX6_learn_8 (by decide) (fun _ => ?_) (fun c9 => absurd (by decide) c9)
    refine lv_ldc (v := (-1000001)) hx hb hown (hts _ mX6_learn_5) dX6_learn_26 ?_
    have hP9 := hP
    have hD9 := hD
    exact q_wiret (v := (-1000001)) hx hb hr hlocks dX6_learn_28 hP9 hD9 hS (⟨w, ft, fo, (fs, fc, fb, nx, kp), by simp only [oLearn, if_neg b2], hv, hw, rfl⟩)
theorem nX6_shift_0 : ∀ w ∈ wsX60, w ∈ wsX6_shift := by decide +kernel
theorem mX6_shift_1 : Cond.fieldLink RX6 47 "ClueLeave" "city" "LClueLeave$City;" ∈ wsX6_shift := by decide +kernel
theorem nX6_shift_2 : ∀ w ∈ wsX20, w ∈ wsX6_shift := by decide +kernel
theorem mX6_shift_3 : Cond.fieldLink RX6 155 "ClueLeave$City" "every" "[I" ∈ wsX6_shift := by decide +kernel
theorem mX6_shift_4 : Cond.fieldLink RX6 158 "ClueLeave$City" "off" "[I" ∈ wsX6_shift := by decide +kernel
theorem mX6_shift_5 : Cond.fieldLink RX6 26 "ClueLeave" "acts" "LClueLeave$Acts;" ∈ wsX6_shift := by decide +kernel
theorem mX6_shift_6 : Cond.constant RX6 66 (-1000001) ∈ wsX6_shift := by decide +kernel
set_option maxHeartbeats 4000000 in
set_option maxRecDepth 100000 in
theorem c_X6_shift (l : Launch) (D : va_G) (cy : Nat → ClassId) (x0 r0 t0 s0 k0 j0 im : Nat) (st : Int32) (h kA tA eA oA : Nat) (w : Nat → Nat) (fk ft fe fo : Nat → Int32) (hw : ctIs w fk ft fe fo) (hv : ctOk w) (q qs qc qb : Nat) (fs fc fb : Nat → Int32) (nx kp : Nat) (hnx : nx < 24) (hkp : kp ≤ 24) (x t : Int32) : q_Wi l yX6_shift wsX6_shift 3 D cy [(x0, .inr (6, [.ref r0, .ref t0, .ref q, .ref s0, .ref k0, .ref h, .ref j0, .ref im, .int (st)])), (h, .inr (2, [.int (nI (w 0)), .int (nI (w 1)), .int (nI (w 2)), .int (nI (w 4)), .int (nI (w 3)), .ref kA, .ref tA, .ref eA, .ref oA])), (kA, .inl (cy 0, 6, .inl fk)), (tA, .inl (cy 0, 6, .inl ft)), (eA, .inl (cy 0, 6, .inl fe)), (oA, .inl (cy 0, 6, .inl fo)), (q, .inr (0, [.ref qs, .ref qc, .ref qb, .int (nI nx), .int (nI kp)])), (qs, .inl (cy 0, 24, .inl fs)), (qc, .inl (cy 0, 24, .inl fc)), (qb, .inl (cy 0, 24, .inl fb))] [.ref x0, .int (x), .int (t)] (fun r u => ∃ (w2 : Nat → Nat) (ft2 fo2 : Nat → Int32) (a2 : acS), oShift w ((fs, fc, fb, nx, kp) : acS) x t = (r, w2, a2) ∧ ctOk w2 ∧ ctIs w2 fk ft2 fe fo2 ∧ u = [(x0, .inr (6, [.ref r0, .ref t0, .ref q, .ref s0, .ref k0, .ref h, .ref j0, .ref im, .int (st)])), (h, .inr (2, [.int (nI (w2 0)), .int (nI (w2 1)), .int (nI (w2 2)), .int (nI (w2 4)), .int (nI (w2 3)), .ref kA, .ref tA, .ref eA, .ref oA])), (kA, .inl (cy 0, 6, .inl fk)), (tA, .inl (cy 0, 6, .inl ft2)), (eA, .inl (cy 0, 6, .inl fe)), (oA, .inl (cy 0, 6, .inl fo2)), (q, .inr (0, [.ref qs, .ref qc, .ref qb, .int (nI a2.2.2.2.1), .int (nI a2.2.2.2.2)])), (qs, .inl (cy 0, 24, .inl a2.1)), (qc, .inl (cy 0, 24, .inl a2.2.1)), (qb, .inl (cy 0, 24, .inl a2.2.2.1))]) := by
  refine q_wi_of (cc := cX6_shift) (maxL := 4) (ret := (some .int)) (by decide) rfl (Nat.le_of_ble_eq_true rfl) ?_
  intro pg en s mi args below meth cd A hC hA hK H locs hP hD hS ls hl
  obtain ⟨hx, hb, hr, hml, hown, hts, hlocks⟩ := hC
  have hl : lv_has ls 4 [(0, .ref x0), (1, .int (x)), (2, .int (t))] := hl
  obtain ⟨hv0, hv1, hv2, hv3, hv4, hvc⟩ := id hv
  refine lv_aload_n hx hb dX6_shift_0 rfl (lv_at hl 0 rfl) ?_
  refine va_get (D := D) (ci := 6) (v := .ref h) (C := RX6) (T := TX6) (N := 9) hx hb hts nX6_shift_0 hown hK.1 hP 0 rfl rfl 5 (by decide) (hts _ mX6_shift_1) (fun _ h9 => h9) rfl dX6_shift_1 ?_
  refine lv_iload_n hx hb dX6_shift_4 rfl (lv_at hl 1 rfl) ?_
  refine q_rV (As := [.int (x)]) (rest := []) ⟨hx, hb, hml, hown, hts⟩ (c_X2_has l D cy h kA tA eA oA w fk ft fe fo hw hv x) (cwV 1 hts gX6_shift_X2_has rfl rfl rfl (by decide +kernel) ⟨Nat.le_of_ble_eq_true rfl, Nat.le_of_ble_eq_true rfl⟩) hP hK [1, 2, 3, 4, 5] rfl 1 rfl rfl rfl rfl hl.1 rfl (Nat.le_of_ble_eq_true rfl) dX6_shift_5 ⟨Nat.zero_le _, Nat.zero_le _⟩ (fun r1 hr1 => ?_)
  rcases hr1 with ⟨rfl, b2⟩ | ⟨rfl, b2⟩
  · replace b2 := (inC_i (by omega)).mp b2
    refine lv_if_eq (tgt := 30) hx hb dX6_shift_8 (by decide) (fun c9 => absurd c9 (by decide)) (fun _ => ?_)
    obtain ⟨c, hc, rfl⟩ := (inC_i (by omega)).mpr b2
    obtain ⟨hk1, hk5, ht1, ht2, he2, he4, ho1⟩ := hvc c hc
    refine lv_iload_n hx hb dX6_shift_11 rfl (lv_at hl 2 rfl) ?_
    refine lv_iconst (v := nI 0) hx hb dX6_shift_12 (by decide) ?_
    refine lv_aload_n hx hb dX6_shift_13 rfl (lv_at hl 0 rfl) ?_
    refine va_get (D := D) (ci := 6) (v := .ref h) (C := RX6) (T := TX6) (N := 9) hx hb hts nX6_shift_0 hown hK.1 hP 0 rfl rfl 5 (by decide) (hts _ mX6_shift_1) (fun _ h9 => h9) rfl dX6_shift_14 ?_
    refine va_get (D := D) (ci := 2) (v := .ref eA) (C := RX2) (T := TX2) (N := 9) hx hb hts nX6_shift_2 hown hK.1 hP 1 rfl rfl 7 (by decide) (hts _ mX6_shift_3) (fun _ h9 => h9) rfl dX6_shift_17 ?_
    refine lv_iload_n hx hb dX6_shift_20 rfl (lv_at hl 1 rfl) ?_
    refine q_iald (j := c) (v := nI (ctE w c)) hx hb hK hP 4 rfl (by omega) (by decide) (ctIs_2 hw (by omega)) dX6_shift_21 ?_
    refine lv_iconst (v := nI 1) hx hb dX6_shift_22 (by decide) ?_
    refine lv_isub hx hb dX6_shift_23 ?_
    refine q_top (y := nI ((ctE w c) - 1)) (pk_sub (by omega)) ?_
    refine q_rS (As := [.int (t), .int (nI 0), .int (nI ((ctE w c) - 1))]) (rest := []) ⟨hx, hb, hml, hown, hts⟩ (c_X6_isWithin l D cy t (nI 0) (nI ((ctE w c) - 1))) (va_cwS 3 hts gX6_shift_X6_isWithin rfl rfl rfl (by decide +kernel) ⟨Nat.le_of_ble_eq_true rfl, Nat.le_of_ble_eq_true rfl⟩) hP hK [] rfl rfl hl.1 rfl (Nat.le_of_ble_eq_true rfl) dX6_shift_24 ⟨Nat.zero_le _, Nat.zero_le _⟩ (fun r3 hr3 => ?_)
    rcases hr3 with ⟨rfl, b4⟩ | ⟨rfl, b4⟩
    · have _ := b4
      refine lv_if_ne (tgt := 33) hx hb dX6_shift_27 (by decide) (fun _ => ?_) (fun c9 => absurd c9 (by decide))
      obtain ⟨m, -, hm2, rfl⟩ := q_rng b4 (by omega) (by decide)
      refine lv_aload_n hx hb dX6_shift_33 rfl (lv_at hl 0 rfl) ?_
      refine va_get (D := D) (ci := 6) (v := .ref h) (C := RX6) (T := TX6) (N := 9) hx hb hts nX6_shift_0 hown hK.1 hP 0 rfl rfl 5 (by decide) (hts _ mX6_shift_1) (fun _ h9 => h9) rfl dX6_shift_34 ?_
      refine va_get (D := D) (ci := 2) (v := .ref oA) (C := RX2) (T := TX2) (N := 9) hx hb hts nX6_shift_2 hown hK.1 hP 1 rfl rfl 8 (by decide) (hts _ mX6_shift_4) (fun _ h9 => h9) rfl dX6_shift_37 ?_
      refine lv_iload_n hx hb dX6_shift_40 rfl (lv_at hl 1 rfl) ?_
      refine q_iald (j := c) (v := nI (ctO w c)) hx hb hK hP 5 rfl (by omega) (by decide) (ctIs_3 hw (by omega)) dX6_shift_41 ?_
      refine lv_istore_n (lv' := [(3, .int (nI (ctO w c))), (0, .ref x0), (1, .int (nI c)), (2, .int (nI m))]) hx hb dX6_shift_42 rfl hl (by decide) rfl (fun ls hl => ?_)
      refine lv_aload_n hx hb dX6_shift_43 rfl (lv_at hl 1 rfl) ?_
      refine va_get (D := D) (ci := 6) (v := .ref q) (C := RX6) (T := TX6) (N := 9) hx hb hts nX6_shift_0 hown hK.1 hP 0 rfl rfl 2 (by decide) (hts _ mX6_shift_5) (fun _ h9 => h9) rfl dX6_shift_44 ?_
      refine lv_iconst (v := nI 3) hx hb dX6_shift_47 (by decide) ?_
      refine lv_iload_n hx hb dX6_shift_48 rfl (lv_at hl 2 rfl) ?_
      refine lv_iload_n hx hb dX6_shift_49 rfl (lv_at hl 0 rfl) ?_
      refine q_wvV (As := [.int (nI 3), .int (nI c), .int (nI (ctO w c))]) (rest := []) (wr := [(x0, .inr (6, [.ref r0, .ref t0, .ref q, .ref s0, .ref k0, .ref h, .ref j0, .ref im, .int (st)])), (h, .inr (2, [.int (nI (w 0)), .int (nI (w 1)), .int (nI (w 2)), .int (nI (w 4)), .int (nI (w 3)), .ref kA, .ref tA, .ref eA, .ref oA])), (kA, .inl (cy 0, 6, .inl fk)), (tA, .inl (cy 0, 6, .inl ft)), (eA, .inl (cy 0, 6, .inl fe)), (oA, .inl (cy 0, 6, .inl fo))]) ⟨hx, hb, hml, hown, hts⟩ (c_X0_keep l D cy q qs qc qb fs fc fb nx kp hnx hkp (nI 3) (nI c) (nI (ctO w c))) (cwV 3 hts gX6_shift_X0_keep rfl rfl rfl (by decide +kernel) ⟨Nat.le_of_ble_eq_true rfl, Nat.le_of_ble_eq_true rfl⟩) hP hD hS hA hK [6, 7, 8, 9] [0, 1, 2, 3, 4, 5] rfl rfl (by decide) rfl (by decide) (by decide) 6 rfl rfl rfl rfl hl.1 rfl (Nat.le_of_ble_eq_true rfl) dX6_shift_50 ⟨Nat.zero_le _, Nat.zero_le _⟩ (fun u6 H locs hr5 hP hD hS => ?_)
      obtain rfl := hr5
      have hP : va_P D vwCl [(x0, .inr (6, [.ref r0, .ref t0, .ref q, .ref s0, .ref k0, .ref h, .ref j0, .ref im, .int (st)])), (h, .inr (2, [.int (nI (w 0)), .int (nI (w 1)), .int (nI (w 2)), .int (nI (w 4)), .int (nI (w 3)), .ref kA, .ref tA, .ref eA, .ref oA])), (kA, .inl (cy 0, 6, .inl fk)), (tA, .inl (cy 0, 6, .inl ft)), (eA, .inl (cy 0, 6, .inl fe)), (oA, .inl (cy 0, 6, .inl fo)), (q, .inr (0, [.ref qs, .ref qc, .ref qb, .int (nI ((acK ((fs, fc, fb, nx, kp) : acS) 3 c (ctO w c)).2.2.2.1)), .int (nI ((acK ((fs, fc, fb, nx, kp) : acS) 3 c (ctO w c)).2.2.2.2))])), (qs, .inl (cy 0, 24, .inl ((acK ((fs, fc, fb, nx, kp) : acS) 3 c (ctO w c)).1))), (qc, .inl (cy 0, 24, .inl ((acK ((fs, fc, fb, nx, kp) : acS) 3 c (ctO w c)).2.1))), (qb, .inl (cy 0, 24, .inl ((acK ((fs, fc, fb, nx, kp) : acS) 3 c (ctO w c)).2.2.1)))] H := hP
      have hD : va_D A [(x0, .inr (6, [.ref r0, .ref t0, .ref q, .ref s0, .ref k0, .ref h, .ref j0, .ref im, .int (st)])), (h, .inr (2, [.int (nI (w 0)), .int (nI (w 1)), .int (nI (w 2)), .int (nI (w 4)), .int (nI (w 3)), .ref kA, .ref tA, .ref eA, .ref oA])), (kA, .inl (cy 0, 6, .inl fk)), (tA, .inl (cy 0, 6, .inl ft)), (eA, .inl (cy 0, 6, .inl fe)), (oA, .inl (cy 0, 6, .inl fo)), (q, .inr (0, [.ref qs, .ref qc, .ref qb, .int (nI ((acK ((fs, fc, fb, nx, kp) : acS) 3 c (ctO w c)).2.2.2.1)), .int (nI ((acK ((fs, fc, fb, nx, kp) : acS) 3 c (ctO w c)).2.2.2.2))])), (qs, .inl (cy 0, 24, .inl ((acK ((fs, fc, fb, nx, kp) : acS) 3 c (ctO w c)).1))), (qc, .inl (cy 0, 24, .inl ((acK ((fs, fc, fb, nx, kp) : acS) 3 c (ctO w c)).2.1))), (qb, .inl (cy 0, 24, .inl ((acK ((fs, fc, fb, nx, kp) : acS) 3 c (ctO w c)).2.2.1)))] := hD
      refine lv_aload_n hx hb dX6_shift_53 rfl (lv_at hl 1 rfl) ?_
      refine va_get (D := D) (ci := 6) (v := .ref h) (C := RX6) (T := TX6) (N := 9) hx hb hts nX6_shift_0 hown hK.1 hP 0 rfl rfl 5 (by decide) (hts _ mX6_shift_1) (fun _ h9 => h9) rfl dX6_shift_54 ?_
      refine va_get (D := D) (ci := 2) (v := .ref oA) (C := RX2) (T := TX2) (N := 9) hx hb hts nX6_shift_2 hown hK.1 hP 1 rfl rfl 8 (by decide) (hts _ mX6_shift_4) (fun _ h9 => h9) rfl dX6_shift_57 ?_
      refine lv_iload_n hx hb dX6_shift_60 rfl (lv_at hl 2 rfl) ?_
      refine lv_iload_n hx hb dX6_shift_61 rfl (lv_at hl 3 rfl) ?_
      refine q_iast (j := c) hx hb hK hP hD hS 5 rfl (by omega) (by decide) dX6_shift_62 (fun H locs hP hD hS => ?_)
      have hP : va_P D vwCl [(x0, .inr (6, [.ref r0, .ref t0, .ref q, .ref s0, .ref k0, .ref h, .ref j0, .ref im, .int (st)])), (h, .inr (2, [.int (nI (w 0)), .int (nI (w 1)), .int (nI (w 2)), .int (nI (w 4)), .int (nI (w 3)), .ref kA, .ref tA, .ref eA, .ref oA])), (kA, .inl (cy 0, 6, .inl fk)), (tA, .inl (cy 0, 6, .inl ft)), (eA, .inl (cy 0, 6, .inl fe)), (oA, .inl (cy 0, 6, .inl (upd fo c (nI m)))), (q, .inr (0, [.ref qs, .ref qc, .ref qb, .int (nI ((acK ((fs, fc, fb, nx, kp) : acS) 3 c (ctO w c)).2.2.2.1)), .int (nI ((acK ((fs, fc, fb, nx, kp) : acS) 3 c (ctO w c)).2.2.2.2))])), (qs, .inl (cy 0, 24, .inl ((acK ((fs, fc, fb, nx, kp) : acS) 3 c (ctO w c)).1))), (qc, .inl (cy 0, 24, .inl ((acK ((fs, fc, fb, nx, kp) : acS) 3 c (ctO w c)).2.1))), (qb, .inl (cy 0, 24, .inl ((acK ((fs, fc, fb, nx, kp) : acS) 3 c (ctO w c)).2.2.1)))] H := hP
      have hD : va_D A [(x0, .inr (6, [.ref r0, .ref t0, .ref q, .ref s0, .ref k0, .ref h, .ref j0, .ref im, .int (st)])), (h, .inr (2, [.int (nI (w 0)), .int (nI (w 1)), .int (nI (w 2)), .int (nI (w 4)), .int (nI (w 3)), .ref kA, .ref tA, .ref eA, .ref oA])), (kA, .inl (cy 0, 6, .inl fk)), (tA, .inl (cy 0, 6, .inl ft)), (eA, .inl (cy 0, 6, .inl fe)), (oA, .inl (cy 0, 6, .inl (upd fo c (nI m)))), (q, .inr (0, [.ref qs, .ref qc, .ref qb, .int (nI ((acK ((fs, fc, fb, nx, kp) : acS) 3 c (ctO w c)).2.2.2.1)), .int (nI ((acK ((fs, fc, fb, nx, kp) : acS) 3 c (ctO w c)).2.2.2.2))])), (qs, .inl (cy 0, 24, .inl ((acK ((fs, fc, fb, nx, kp) : acS) 3 c (ctO w c)).1))), (qc, .inl (cy 0, 24, .inl ((acK ((fs, fc, fb, nx, kp) : acS) 3 c (ctO w c)).2.1))), (qb, .inl (cy 0, 24, .inl ((acK ((fs, fc, fb, nx, kp) : acS) 3 c (ctO w c)).2.2.1)))] := hD
      refine lv_iload_n hx hb dX6_shift_63 rfl (lv_at hl 0 rfl) ?_
      have hP9 := hP
      have hD9 := hD
      exact q_wiret (v := nI (ctO w c)) hx hb hr hlocks dX6_shift_64 hP9 hD9 hS (⟨_, _, _, _, by simp only [oShift, q_cl (by omega : c < 2147483648), q_cl (by omega : m < 2147483648), if_pos b2, if_pos b4], ctOk_O hv hc (by omega), ctIs_O hw hc, rfl⟩)
    · have _ := b4
      refine lv_if_ne (tgt := 33) hx hb dX6_shift_27 (by decide) (fun c9 => absurd (by decide) c9) (fun _ => ?_)
      refine lv_ldc (v := (-1000001)) hx hb hown (hts _ mX6_shift_6) dX6_shift_30 ?_
      have hP9 := hP
      have hD9 := hD
      exact q_wiret (v := (-1000001)) hx hb hr hlocks dX6_shift_32 hP9 hD9 hS (⟨w, ft, fo, (fs, fc, fb, nx, kp), by simp only [oShift, q_cl (by omega : c < 2147483648), if_pos b2, if_neg b4], hv, hw, rfl⟩)
  · replace b2 := fun q => b2 ((inC_i (by omega)).mpr q)
    refine lv_if_eq (tgt := 30) hx hb dX6_shift_8 (by decide) (fun _ => ?_) (fun c9 => absurd (by decide) c9)
    refine lv_ldc (v := (-1000001)) hx hb hown (hts _ mX6_shift_6) dX6_shift_30 ?_
    have hP9 := hP
    have hD9 := hD
    exact q_wiret (v := (-1000001)) hx hb hr hlocks dX6_shift_32 hP9 hD9 hS (⟨w, ft, fo, (fs, fc, fb, nx, kp), by simp only [oShift, if_neg b2], hv, hw, rfl⟩)
theorem nX6_bribe_0 : ∀ w ∈ wsX60, w ∈ wsX6_bribe := by decide +kernel
theorem mX6_bribe_1 : Cond.fieldLink RX6 47 "ClueLeave" "city" "LClueLeave$City;" ∈ wsX6_bribe := by decide +kernel
theorem mX6_bribe_2 : Cond.fieldLink RX6 26 "ClueLeave" "acts" "LClueLeave$Acts;" ∈ wsX6_bribe := by decide +kernel
theorem nX6_bribe_3 : ∀ w ∈ wsX20, w ∈ wsX6_bribe := by decide +kernel
theorem mX6_bribe_4 : Cond.fieldLink RX6 145 "ClueLeave$City" "bribed" "I" ∈ wsX6_bribe := by decide +kernel
theorem mX6_bribe_5 : Cond.constant RX6 129 (-1000002) ∈ wsX6_bribe := by decide +kernel
theorem mX6_bribe_6 : Cond.constant RX6 66 (-1000001) ∈ wsX6_bribe := by decide +kernel
set_option maxHeartbeats 4000000 in
set_option maxRecDepth 100000 in
theorem c_X6_bribe (l : Launch) (D : va_G) (cy : Nat → ClassId) (x0 r0 t0 s0 k0 j0 im : Nat) (st : Int32) (h kA tA eA oA : Nat) (w : Nat → Nat) (fk ft fe fo : Nat → Int32) (hw : ctIs w fk ft fe fo) (hv : ctOk w) (q qs qc qb : Nat) (fs fc fb : Nat → Int32) (nx kp : Nat) (hnx : nx < 24) (hkp : kp ≤ 24) (x t : Int32) : q_Wi l yX6_bribe wsX6_bribe 3 D cy [(x0, .inr (6, [.ref r0, .ref t0, .ref q, .ref s0, .ref k0, .ref h, .ref j0, .ref im, .int (st)])), (h, .inr (2, [.int (nI (w 0)), .int (nI (w 1)), .int (nI (w 2)), .int (nI (w 4)), .int (nI (w 3)), .ref kA, .ref tA, .ref eA, .ref oA])), (kA, .inl (cy 0, 6, .inl fk)), (tA, .inl (cy 0, 6, .inl ft)), (eA, .inl (cy 0, 6, .inl fe)), (oA, .inl (cy 0, 6, .inl fo)), (q, .inr (0, [.ref qs, .ref qc, .ref qb, .int (nI nx), .int (nI kp)])), (qs, .inl (cy 0, 24, .inl fs)), (qc, .inl (cy 0, 24, .inl fc)), (qb, .inl (cy 0, 24, .inl fb))] [.ref x0, .int (x), .int (t)] (fun r u => ∃ (w2 : Nat → Nat) (ft2 fo2 : Nat → Int32) (a2 : acS), oBribe w ((fs, fc, fb, nx, kp) : acS) x t = (r, w2, a2) ∧ ctOk w2 ∧ ctIs w2 fk ft2 fe fo2 ∧ u = [(x0, .inr (6, [.ref r0, .ref t0, .ref q, .ref s0, .ref k0, .ref h, .ref j0, .ref im, .int (st)])), (h, .inr (2, [.int (nI (w2 0)), .int (nI (w2 1)), .int (nI (w2 2)), .int (nI (w2 4)), .int (nI (w2 3)), .ref kA, .ref tA, .ref eA, .ref oA])), (kA, .inl (cy 0, 6, .inl fk)), (tA, .inl (cy 0, 6, .inl ft2)), (eA, .inl (cy 0, 6, .inl fe)), (oA, .inl (cy 0, 6, .inl fo2)), (q, .inr (0, [.ref qs, .ref qc, .ref qb, .int (nI a2.2.2.2.1), .int (nI a2.2.2.2.2)])), (qs, .inl (cy 0, 24, .inl a2.1)), (qc, .inl (cy 0, 24, .inl a2.2.1)), (qb, .inl (cy 0, 24, .inl a2.2.2.1))]) := by
  refine q_wi_of (cc := cX6_bribe) (maxL := 3) (ret := (some .int)) (by decide) rfl (Nat.le_of_ble_eq_true rfl) ?_
  intro pg en s mi args below meth cd A hC hA hK H locs hP hD hS ls hl
  obtain ⟨hx, hb, hr, hml, hown, hts, hlocks⟩ := hC
  have hl : lv_has ls 3 [(0, .ref x0), (1, .int (x)), (2, .int (t))] := hl
  obtain ⟨hv0, hv1, hv2, hv3, hv4, hvc⟩ := id hv
  refine lv_aload_n hx hb dX6_bribe_0 rfl (lv_at hl 0 rfl) ?_
  refine va_get (D := D) (ci := 6) (v := .ref h) (C := RX6) (T := TX6) (N := 9) hx hb hts nX6_bribe_0 hown hK.1 hP 0 rfl rfl 5 (by decide) (hts _ mX6_bribe_1) (fun _ h9 => h9) rfl dX6_bribe_1 ?_
  refine lv_iload_n hx hb dX6_bribe_4 rfl (lv_at hl 1 rfl) ?_
  refine q_rV (As := [.int (x)]) (rest := []) ⟨hx, hb, hml, hown, hts⟩ (c_X2_has l D cy h kA tA eA oA w fk ft fe fo hw hv x) (cwV 1 hts gX6_bribe_X2_has rfl rfl rfl (by decide +kernel) ⟨Nat.le_of_ble_eq_true rfl, Nat.le_of_ble_eq_true rfl⟩) hP hK [1, 2, 3, 4, 5] rfl 1 rfl rfl rfl rfl hl.1 rfl (Nat.le_of_ble_eq_true rfl) dX6_bribe_5 ⟨Nat.zero_le _, Nat.zero_le _⟩ (fun r1 hr1 => ?_)
  rcases hr1 with ⟨rfl, b2⟩ | ⟨rfl, b2⟩
  · replace b2 := (inC_i (by omega)).mp b2
    refine lv_if_eq (tgt := 20) hx hb dX6_bribe_8 (by decide) (fun c9 => absurd c9 (by decide)) (fun _ => ?_)
    obtain ⟨c, hc, rfl⟩ := (inC_i (by omega)).mpr b2
    obtain ⟨hk1, hk5, ht1, ht2, he2, he4, ho1⟩ := hvc c hc
    refine lv_iload_n hx hb dX6_bribe_11 rfl (lv_at hl 2 rfl) ?_
    refine lv_iconst (v := nI 0) hx hb dX6_bribe_12 (by decide) ?_
    refine lv_iconst (v := nI 1) hx hb dX6_bribe_13 (by decide) ?_
    refine q_rS (As := [.int (t), .int (nI 0), .int (nI 1)]) (rest := []) ⟨hx, hb, hml, hown, hts⟩ (c_X6_isWithin l D cy t (nI 0) (nI 1)) (va_cwS 3 hts gX6_bribe_X6_isWithin rfl rfl rfl (by decide +kernel) ⟨Nat.le_of_ble_eq_true rfl, Nat.le_of_ble_eq_true rfl⟩) hP hK [] rfl rfl hl.1 rfl (Nat.le_of_ble_eq_true rfl) dX6_bribe_14 ⟨Nat.zero_le _, Nat.zero_le _⟩ (fun r3 hr3 => ?_)
    rcases hr3 with ⟨rfl, b4⟩ | ⟨rfl, b4⟩
    · have _ := b4
      refine lv_if_ne (tgt := 23) hx hb dX6_bribe_17 (by decide) (fun _ => ?_) (fun c9 => absurd c9 (by decide))
      obtain ⟨m, -, hm, rfl⟩ := q_rng b4 (by decide) (by decide)
      refine lv_aload_n hx hb dX6_bribe_23 rfl (lv_at hl 0 rfl) ?_
      refine va_get (D := D) (ci := 6) (v := .ref h) (C := RX6) (T := TX6) (N := 9) hx hb hts nX6_bribe_0 hown hK.1 hP 0 rfl rfl 5 (by decide) (hts _ mX6_bribe_1) (fun _ h9 => h9) rfl dX6_bribe_24 ?_
      refine lv_iload_n hx hb dX6_bribe_27 rfl (lv_at hl 1 rfl) ?_
      refine q_rV (As := [.int (nI c)]) (rest := []) ⟨hx, hb, hml, hown, hts⟩ (c_X2_isBribed l D cy h kA tA eA oA w fk ft fe fo hw hv c (by omega)) (cwV 1 hts gX6_bribe_X2_isBribed rfl rfl rfl (by decide +kernel) ⟨Nat.le_of_ble_eq_true rfl, Nat.le_of_ble_eq_true rfl⟩) hP hK [1, 2, 3, 4, 5] rfl 1 rfl rfl rfl rfl hl.1 rfl (Nat.le_of_ble_eq_true rfl) dX6_bribe_28 ⟨Nat.zero_le _, Nat.zero_le _⟩ (fun r5 hr5 => ?_)
      rcases hr5 with ⟨rfl, b6⟩ | ⟨rfl, b6⟩
      · have _ := b6
        refine lv_iload_n hx hb dX6_bribe_31 rfl (lv_at hl 2 rfl) ?_
        refine lv_iconst (v := nI 1) hx hb dX6_bribe_32 (by decide) ?_
        refine q_icmp_ne (tgt := 40) hx hb dX6_bribe_33 (by decide) (by omega) (by decide) (fun c7 => ?_) (fun c7 => ?_)
        · refine lv_iconst (v := nI 0) hx hb dX6_bribe_40 (by decide) ?_
          refine lv_icmp_ne (tgt := 47) hx hb dX6_bribe_41 (by decide) (fun _ => ?_) (fun c9 => absurd c9 (by decide))
          have hpw := q_pw6 c (by omega)
          refine lv_aload_n hx hb dX6_bribe_47 rfl (lv_at hl 0 rfl) ?_
          refine va_get (D := D) (ci := 6) (v := .ref q) (C := RX6) (T := TX6) (N := 9) hx hb hts nX6_bribe_0 hown hK.1 hP 0 rfl rfl 2 (by decide) (hts _ mX6_bribe_2) (fun _ h9 => h9) rfl dX6_bribe_48 ?_
          refine lv_iconst (v := nI 1) hx hb dX6_bribe_51 (by decide) ?_
          refine lv_iload_n hx hb dX6_bribe_52 rfl (lv_at hl 1 rfl) ?_
          refine lv_aload_n hx hb dX6_bribe_53 rfl (lv_at hl 0 rfl) ?_
          refine va_get (D := D) (ci := 6) (v := .ref h) (C := RX6) (T := TX6) (N := 9) hx hb hts nX6_bribe_0 hown hK.1 hP 0 rfl rfl 5 (by decide) (hts _ mX6_bribe_1) (fun _ h9 => h9) rfl dX6_bribe_54 ?_
          refine va_get (D := D) (ci := 2) (v := .int (nI (w 3))) (C := RX2) (T := TX2) (N := 9) hx hb hts nX6_bribe_3 hown hK.1 hP 1 rfl rfl 4 (by decide) (hts _ mX6_bribe_4) (fun _ h9 => h9) rfl dX6_bribe_57 ?_
          refine q_wvV (As := [.int (nI 1), .int (nI c), .int (nI (w 3))]) (rest := []) (wr := [(x0, .inr (6, [.ref r0, .ref t0, .ref q, .ref s0, .ref k0, .ref h, .ref j0, .ref im, .int (st)])), (h, .inr (2, [.int (nI (w 0)), .int (nI (w 1)), .int (nI (w 2)), .int (nI (w 4)), .int (nI (w 3)), .ref kA, .ref tA, .ref eA, .ref oA])), (kA, .inl (cy 0, 6, .inl fk)), (tA, .inl (cy 0, 6, .inl ft)), (eA, .inl (cy 0, 6, .inl fe)), (oA, .inl (cy 0, 6, .inl fo))]) ⟨hx, hb, hml, hown, hts⟩ (c_X0_keep l D cy q qs qc qb fs fc fb nx kp hnx hkp (nI 1) (nI c) (nI (w 3))) (cwV 3 hts gX6_bribe_X0_keep rfl rfl rfl (by decide +kernel) ⟨Nat.le_of_ble_eq_true rfl, Nat.le_of_ble_eq_true rfl⟩) hP hD hS hA hK [6, 7, 8, 9] [0, 1, 2, 3, 4, 5] rfl rfl (by decide) rfl (by decide) (by decide) 6 rfl rfl rfl rfl hl.1 rfl (Nat.le_of_ble_eq_true rfl) dX6_bribe_60 ⟨Nat.zero_le _, Nat.zero_le _⟩ (fun u9 H locs hr8 hP hD hS => ?_)
          obtain rfl := hr8
          have hP : va_P D vwCl [(x0, .inr (6, [.ref r0, .ref t0, .ref q, .ref s0, .ref k0, .ref h, .ref j0, .ref im, .int (st)])), (h, .inr (2, [.int (nI (w 0)), .int (nI (w 1)), .int (nI (w 2)), .int (nI (w 4)), .int (nI (w 3)), .ref kA, .ref tA, .ref eA, .ref oA])), (kA, .inl (cy 0, 6, .inl fk)), (tA, .inl (cy 0, 6, .inl ft)), (eA, .inl (cy 0, 6, .inl fe)), (oA, .inl (cy 0, 6, .inl fo)), (q, .inr (0, [.ref qs, .ref qc, .ref qb, .int (nI ((acK ((fs, fc, fb, nx, kp) : acS) 1 c (w 3)).2.2.2.1)), .int (nI ((acK ((fs, fc, fb, nx, kp) : acS) 1 c (w 3)).2.2.2.2))])), (qs, .inl (cy 0, 24, .inl ((acK ((fs, fc, fb, nx, kp) : acS) 1 c (w 3)).1))), (qc, .inl (cy 0, 24, .inl ((acK ((fs, fc, fb, nx, kp) : acS) 1 c (w 3)).2.1))), (qb, .inl (cy 0, 24, .inl ((acK ((fs, fc, fb, nx, kp) : acS) 1 c (w 3)).2.2.1)))] H := hP
          have hD : va_D A [(x0, .inr (6, [.ref r0, .ref t0, .ref q, .ref s0, .ref k0, .ref h, .ref j0, .ref im, .int (st)])), (h, .inr (2, [.int (nI (w 0)), .int (nI (w 1)), .int (nI (w 2)), .int (nI (w 4)), .int (nI (w 3)), .ref kA, .ref tA, .ref eA, .ref oA])), (kA, .inl (cy 0, 6, .inl fk)), (tA, .inl (cy 0, 6, .inl ft)), (eA, .inl (cy 0, 6, .inl fe)), (oA, .inl (cy 0, 6, .inl fo)), (q, .inr (0, [.ref qs, .ref qc, .ref qb, .int (nI ((acK ((fs, fc, fb, nx, kp) : acS) 1 c (w 3)).2.2.2.1)), .int (nI ((acK ((fs, fc, fb, nx, kp) : acS) 1 c (w 3)).2.2.2.2))])), (qs, .inl (cy 0, 24, .inl ((acK ((fs, fc, fb, nx, kp) : acS) 1 c (w 3)).1))), (qc, .inl (cy 0, 24, .inl ((acK ((fs, fc, fb, nx, kp) : acS) 1 c (w 3)).2.1))), (qb, .inl (cy 0, 24, .inl ((acK ((fs, fc, fb, nx, kp) : acS) 1 c (w 3)).2.2.1)))] := hD
          refine lv_aload_n hx hb dX6_bribe_63 rfl (lv_at hl 0 rfl) ?_
          refine va_get (D := D) (ci := 6) (v := .ref h) (C := RX6) (T := TX6) (N := 9) hx hb hts nX6_bribe_0 hown hK.1 hP 0 rfl rfl 5 (by decide) (hts _ mX6_bribe_1) (fun _ h9 => h9) rfl dX6_bribe_64 ?_
          refine lv_dup hx hb dX6_bribe_67 rfl ?_
          refine va_get (D := D) (ci := 2) (v := .int (nI (w 3))) (C := RX2) (T := TX2) (N := 9) hx hb hts nX6_bribe_3 hown hK.1 hP 1 rfl rfl 4 (by decide) (hts _ mX6_bribe_4) (fun _ h9 => h9) rfl dX6_bribe_68 ?_
          refine lv_iconst (v := nI 1) hx hb dX6_bribe_71 (by decide) ?_
          refine lv_iload_n hx hb dX6_bribe_72 rfl (lv_at hl 1 rfl) ?_
          refine lv_ishl hx hb dX6_bribe_73 ?_
          refine q_top (y := nI (1 * 2 ^ c)) (q_shl (by omega) (by omega)) ?_
          refine lv_ixor hx hb dX6_bribe_74 ?_
          refine q_top (y := nI ((w 3) ^^^ (1 * 2 ^ c))) (q_xor _ _) ?_
          refine va_put (D := D) (ci := 2) (v := .int (nI ((w 3) ^^^ (1 * 2 ^ c)))) (ty := .int) (C := RX2) (T := TX2) (N := 9) hx hb hts nX6_bribe_3 tyX2 tyX2_ok nmX2 hown hK.1 hP hD hS 1 rfl rfl 4 (by decide) (hts _ mX6_bribe_4) (fun _ h9 => h9) rfl (by decide +kernel) rfl rfl (Nat.le_of_ble_eq_true rfl) dX6_bribe_75 (fun H locs hP hD hS => ?_)
          have hP : va_P D vwCl [(x0, .inr (6, [.ref r0, .ref t0, .ref q, .ref s0, .ref k0, .ref h, .ref j0, .ref im, .int (st)])), (h, .inr (2, [.int (nI (w 0)), .int (nI (w 1)), .int (nI (w 2)), .int (nI (w 4)), .int (nI ((w 3) ^^^ (1 * 2 ^ c))), .ref kA, .ref tA, .ref eA, .ref oA])), (kA, .inl (cy 0, 6, .inl fk)), (tA, .inl (cy 0, 6, .inl ft)), (eA, .inl (cy 0, 6, .inl fe)), (oA, .inl (cy 0, 6, .inl fo)), (q, .inr (0, [.ref qs, .ref qc, .ref qb, .int (nI ((acK ((fs, fc, fb, nx, kp) : acS) 1 c (w 3)).2.2.2.1)), .int (nI ((acK ((fs, fc, fb, nx, kp) : acS) 1 c (w 3)).2.2.2.2))])), (qs, .inl (cy 0, 24, .inl ((acK ((fs, fc, fb, nx, kp) : acS) 1 c (w 3)).1))), (qc, .inl (cy 0, 24, .inl ((acK ((fs, fc, fb, nx, kp) : acS) 1 c (w 3)).2.1))), (qb, .inl (cy 0, 24, .inl ((acK ((fs, fc, fb, nx, kp) : acS) 1 c (w 3)).2.2.1)))] H := hP
          have hD : va_D A [(x0, .inr (6, [.ref r0, .ref t0, .ref q, .ref s0, .ref k0, .ref h, .ref j0, .ref im, .int (st)])), (h, .inr (2, [.int (nI (w 0)), .int (nI (w 1)), .int (nI (w 2)), .int (nI (w 4)), .int (nI ((w 3) ^^^ (1 * 2 ^ c))), .ref kA, .ref tA, .ref eA, .ref oA])), (kA, .inl (cy 0, 6, .inl fk)), (tA, .inl (cy 0, 6, .inl ft)), (eA, .inl (cy 0, 6, .inl fe)), (oA, .inl (cy 0, 6, .inl fo)), (q, .inr (0, [.ref qs, .ref qc, .ref qb, .int (nI ((acK ((fs, fc, fb, nx, kp) : acS) 1 c (w 3)).2.2.2.1)), .int (nI ((acK ((fs, fc, fb, nx, kp) : acS) 1 c (w 3)).2.2.2.2))])), (qs, .inl (cy 0, 24, .inl ((acK ((fs, fc, fb, nx, kp) : acS) 1 c (w 3)).1))), (qc, .inl (cy 0, 24, .inl ((acK ((fs, fc, fb, nx, kp) : acS) 1 c (w 3)).2.1))), (qb, .inl (cy 0, 24, .inl ((acK ((fs, fc, fb, nx, kp) : acS) 1 c (w 3)).2.2.1)))] := hD
          refine lv_aload_n hx hb dX6_bribe_78 rfl (lv_at hl 0 rfl) ?_
          refine va_get (D := D) (ci := 6) (v := .ref h) (C := RX6) (T := TX6) (N := 9) hx hb hts nX6_bribe_0 hown hK.1 hP 0 rfl rfl 5 (by decide) (hts _ mX6_bribe_1) (fun _ h9 => h9) rfl dX6_bribe_79 ?_
          refine va_get (D := D) (ci := 2) (v := .int (nI ((w 3) ^^^ (1 * 2 ^ c)))) (C := RX2) (T := TX2) (N := 9) hx hb hts nX6_bribe_3 hown hK.1 hP 1 rfl rfl 4 (by decide) (hts _ mX6_bribe_4) (fun _ h9 => h9) rfl dX6_bribe_82 ?_
          have hP9 := hP
          have hD9 := hD
          exact q_wiret (v := nI ((w 3) ^^^ (1 * 2 ^ c))) hx hb hr hlocks dX6_bribe_85 hP9 hD9 hS (⟨ctBr w c, ft, fo, acK (fs, fc, fb, nx, kp) 1 c (w 3), by simp only [oBribe, q_cl (by omega : c < 2147483648), q_cl (by omega : m < 2147483648), if_pos b2, if_pos b4, if_neg (by simp [b6, c7] : ¬ ((w 3).testBit c = decide (m = 1)))], ctOk_br hv (by omega), ctIs_br hw, rfl⟩)
        · refine lv_iconst (v := nI 1) hx hb dX6_bribe_36 (by decide) ?_
          refine lv_goto (tgt := 41) hx hb dX6_bribe_37 (by decide) ?_
          refine lv_icmp_ne (tgt := 47) hx hb dX6_bribe_41 (by decide) (fun c9 => absurd (by decide) c9) (fun _ => ?_)
          refine lv_ldc (v := (-1000002)) hx hb hown (hts _ mX6_bribe_5) dX6_bribe_44 ?_
          have hP9 := hP
          have hD9 := hD
          exact q_wiret (v := (-1000002)) hx hb hr hlocks dX6_bribe_46 hP9 hD9 hS (⟨w, ft, fo, (fs, fc, fb, nx, kp), by simp only [oBribe, q_cl (by omega : c < 2147483648), q_cl (by omega : m < 2147483648), if_pos b2, if_pos b4, if_pos (by simp [b6, c7] : ((w 3).testBit c = decide (m = 1)))], hv, hw, rfl⟩)
      · have _ := b6
        refine lv_iload_n hx hb dX6_bribe_31 rfl (lv_at hl 2 rfl) ?_
        refine lv_iconst (v := nI 1) hx hb dX6_bribe_32 (by decide) ?_
        refine q_icmp_ne (tgt := 40) hx hb dX6_bribe_33 (by decide) (by omega) (by decide) (fun c10 => ?_) (fun c10 => ?_)
        · refine lv_iconst (v := nI 0) hx hb dX6_bribe_40 (by decide) ?_
          refine lv_icmp_ne (tgt := 47) hx hb dX6_bribe_41 (by decide) (fun c9 => absurd (by decide) c9) (fun _ => ?_)
          refine lv_ldc (v := (-1000002)) hx hb hown (hts _ mX6_bribe_5) dX6_bribe_44 ?_
          have hP9 := hP
          have hD9 := hD
          exact q_wiret (v := (-1000002)) hx hb hr hlocks dX6_bribe_46 hP9 hD9 hS (⟨w, ft, fo, (fs, fc, fb, nx, kp), by simp only [oBribe, q_cl (by omega : c < 2147483648), q_cl (by omega : m < 2147483648), if_pos b2, if_pos b4, if_pos (by simp [b6, c10] : ((w 3).testBit c = decide (m = 1)))], hv, hw, rfl⟩)
        · refine lv_iconst (v := nI 1) hx hb dX6_bribe_36 (by decide) ?_
          refine lv_goto (tgt := 41) hx hb dX6_bribe_37 (by decide) ?_
          refine lv_icmp_ne (tgt := 47) hx hb dX6_bribe_41 (by decide) (fun _ => ?_) (fun c9 => absurd c9 (by decide))
          have hpw := q_pw6 c (by omega)
          refine lv_aload_n hx hb dX6_bribe_47 rfl (lv_at hl 0 rfl) ?_
          refine va_get (D := D) (ci := 6) (v := .ref q) (C := RX6) (T := TX6) (N := 9) hx hb hts nX6_bribe_0 hown hK.1 hP 0 rfl rfl 2 (by decide) (hts _ mX6_bribe_2) (fun _ h9 => h9) rfl dX6_bribe_48 ?_
          refine lv_iconst (v := nI 1) hx hb dX6_bribe_51 (by decide) ?_
          refine lv_iload_n hx hb dX6_bribe_52 rfl (lv_at hl 1 rfl) ?_
          refine lv_aload_n hx hb dX6_bribe_53 rfl (lv_at hl 0 rfl) ?_
          refine va_get (D := D) (ci := 6) (v := .ref h) (C := RX6) (T := TX6) (N := 9) hx hb hts nX6_bribe_0 hown hK.1 hP 0 rfl rfl 5 (by decide) (hts _ mX6_bribe_1) (fun _ h9 => h9) rfl dX6_bribe_54 ?_
          refine va_get (D := D) (ci := 2) (v := .int (nI (w 3))) (C := RX2) (T := TX2) (N := 9) hx hb hts nX6_bribe_3 hown hK.1 hP 1 rfl rfl 4 (by decide) (hts _ mX6_bribe_4) (fun _ h9 => h9) rfl dX6_bribe_57 ?_
          refine q_wvV (As := [.int (nI 1), .int (nI c), .int (nI (w 3))]) (rest := []) (wr := [(x0, .inr (6, [.ref r0, .ref t0, .ref q, .ref s0, .ref k0, .ref h, .ref j0, .ref im, .int (st)])), (h, .inr (2, [.int (nI (w 0)), .int (nI (w 1)), .int (nI (w 2)), .int (nI (w 4)), .int (nI (w 3)), .ref kA, .ref tA, .ref eA, .ref oA])), (kA, .inl (cy 0, 6, .inl fk)), (tA, .inl (cy 0, 6, .inl ft)), (eA, .inl (cy 0, 6, .inl fe)), (oA, .inl (cy 0, 6, .inl fo))]) ⟨hx, hb, hml, hown, hts⟩ (c_X0_keep l D cy q qs qc qb fs fc fb nx kp hnx hkp (nI 1) (nI c) (nI (w 3))) (cwV 3 hts gX6_bribe_X0_keep rfl rfl rfl (by decide +kernel) ⟨Nat.le_of_ble_eq_true rfl, Nat.le_of_ble_eq_true rfl⟩) hP hD hS hA hK [6, 7, 8, 9] [0, 1, 2, 3, 4, 5] rfl rfl (by decide) rfl (by decide) (by decide) 6 rfl rfl rfl rfl hl.1 rfl (Nat.le_of_ble_eq_true rfl) dX6_bribe_60 ⟨Nat.zero_le _, Nat.zero_le _⟩ (fun u12 H locs hr11 hP hD hS => ?_)
          obtain rfl := hr11
          have hP : va_P D vwCl [(x0, .inr (6, [.ref r0, .ref t0, .ref q, .ref s0, .ref k0, .ref h, .ref j0, .ref im, .int (st)])), (h, .inr (2, [.int (nI (w 0)), .int (nI (w 1)), .int (nI (w 2)), .int (nI (w 4)), .int (nI (w 3)), .ref kA, .ref tA, .ref eA, .ref oA])), (kA, .inl (cy 0, 6, .inl fk)), (tA, .inl (cy 0, 6, .inl ft)), (eA, .inl (cy 0, 6, .inl fe)), (oA, .inl (cy 0, 6, .inl fo)), (q, .inr (0, [.ref qs, .ref qc, .ref qb, .int (nI ((acK ((fs, fc, fb, nx, kp) : acS) 1 c (w 3)).2.2.2.1)), .int (nI ((acK ((fs, fc, fb, nx, kp) : acS) 1 c (w 3)).2.2.2.2))])), (qs, .inl (cy 0, 24, .inl ((acK ((fs, fc, fb, nx, kp) : acS) 1 c (w 3)).1))), (qc, .inl (cy 0, 24, .inl ((acK ((fs, fc, fb, nx, kp) : acS) 1 c (w 3)).2.1))), (qb, .inl (cy 0, 24, .inl ((acK ((fs, fc, fb, nx, kp) : acS) 1 c (w 3)).2.2.1)))] H := hP
          have hD : va_D A [(x0, .inr (6, [.ref r0, .ref t0, .ref q, .ref s0, .ref k0, .ref h, .ref j0, .ref im, .int (st)])), (h, .inr (2, [.int (nI (w 0)), .int (nI (w 1)), .int (nI (w 2)), .int (nI (w 4)), .int (nI (w 3)), .ref kA, .ref tA, .ref eA, .ref oA])), (kA, .inl (cy 0, 6, .inl fk)), (tA, .inl (cy 0, 6, .inl ft)), (eA, .inl (cy 0, 6, .inl fe)), (oA, .inl (cy 0, 6, .inl fo)), (q, .inr (0, [.ref qs, .ref qc, .ref qb, .int (nI ((acK ((fs, fc, fb, nx, kp) : acS) 1 c (w 3)).2.2.2.1)), .int (nI ((acK ((fs, fc, fb, nx, kp) : acS) 1 c (w 3)).2.2.2.2))])), (qs, .inl (cy 0, 24, .inl ((acK ((fs, fc, fb, nx, kp) : acS) 1 c (w 3)).1))), (qc, .inl (cy 0, 24, .inl ((acK ((fs, fc, fb, nx, kp) : acS) 1 c (w 3)).2.1))), (qb, .inl (cy 0, 24, .inl ((acK ((fs, fc, fb, nx, kp) : acS) 1 c (w 3)).2.2.1)))] := hD
          refine lv_aload_n hx hb dX6_bribe_63 rfl (lv_at hl 0 rfl) ?_
          refine va_get (D := D) (ci := 6) (v := .ref h) (C := RX6) (T := TX6) (N := 9) hx hb hts nX6_bribe_0 hown hK.1 hP 0 rfl rfl 5 (by decide) (hts _ mX6_bribe_1) (fun _ h9 => h9) rfl dX6_bribe_64 ?_
          refine lv_dup hx hb dX6_bribe_67 rfl ?_
          refine va_get (D := D) (ci := 2) (v := .int (nI (w 3))) (C := RX2) (T := TX2) (N := 9) hx hb hts nX6_bribe_3 hown hK.1 hP 1 rfl rfl 4 (by decide) (hts _ mX6_bribe_4) (fun _ h9 => h9) rfl dX6_bribe_68 ?_
          refine lv_iconst (v := nI 1) hx hb dX6_bribe_71 (by decide) ?_
          refine lv_iload_n hx hb dX6_bribe_72 rfl (lv_at hl 1 rfl) ?_
          refine lv_ishl hx hb dX6_bribe_73 ?_
          refine q_top (y := nI (1 * 2 ^ c)) (q_shl (by omega) (by omega)) ?_
          refine lv_ixor hx hb dX6_bribe_74 ?_
          refine q_top (y := nI ((w 3) ^^^ (1 * 2 ^ c))) (q_xor _ _) ?_
          refine va_put (D := D) (ci := 2) (v := .int (nI ((w 3) ^^^ (1 * 2 ^ c)))) (ty := .int) (C := RX2) (T := TX2) (N := 9) hx hb hts nX6_bribe_3 tyX2 tyX2_ok nmX2 hown hK.1 hP hD hS 1 rfl rfl 4 (by decide) (hts _ mX6_bribe_4) (fun _ h9 => h9) rfl (by decide +kernel) rfl rfl (Nat.le_of_ble_eq_true rfl) dX6_bribe_75 (fun H locs hP hD hS => ?_)
          have hP : va_P D vwCl [(x0, .inr (6, [.ref r0, .ref t0, .ref q, .ref s0, .ref k0, .ref h, .ref j0, .ref im, .int (st)])), (h, .inr (2, [.int (nI (w 0)), .int (nI (w 1)), .int (nI (w 2)), .int (nI (w 4)), .int (nI ((w 3) ^^^ (1 * 2 ^ c))), .ref kA, .ref tA, .ref eA, .ref oA])), (kA, .inl (cy 0, 6, .inl fk)), (tA, .inl (cy 0, 6, .inl ft)), (eA, .inl (cy 0, 6, .inl fe)), (oA, .inl (cy 0, 6, .inl fo)), (q, .inr (0, [.ref qs, .ref qc, .ref qb, .int (nI ((acK ((fs, fc, fb, nx, kp) : acS) 1 c (w 3)).2.2.2.1)), .int (nI ((acK ((fs, fc, fb, nx, kp) : acS) 1 c (w 3)).2.2.2.2))])), (qs, .inl (cy 0, 24, .inl ((acK ((fs, fc, fb, nx, kp) : acS) 1 c (w 3)).1))), (qc, .inl (cy 0, 24, .inl ((acK ((fs, fc, fb, nx, kp) : acS) 1 c (w 3)).2.1))), (qb, .inl (cy 0, 24, .inl ((acK ((fs, fc, fb, nx, kp) : acS) 1 c (w 3)).2.2.1)))] H := hP
          have hD : va_D A [(x0, .inr (6, [.ref r0, .ref t0, .ref q, .ref s0, .ref k0, .ref h, .ref j0, .ref im, .int (st)])), (h, .inr (2, [.int (nI (w 0)), .int (nI (w 1)), .int (nI (w 2)), .int (nI (w 4)), .int (nI ((w 3) ^^^ (1 * 2 ^ c))), .ref kA, .ref tA, .ref eA, .ref oA])), (kA, .inl (cy 0, 6, .inl fk)), (tA, .inl (cy 0, 6, .inl ft)), (eA, .inl (cy 0, 6, .inl fe)), (oA, .inl (cy 0, 6, .inl fo)), (q, .inr (0, [.ref qs, .ref qc, .ref qb, .int (nI ((acK ((fs, fc, fb, nx, kp) : acS) 1 c (w 3)).2.2.2.1)), .int (nI ((acK ((fs, fc, fb, nx, kp) : acS) 1 c (w 3)).2.2.2.2))])), (qs, .inl (cy 0, 24, .inl ((acK ((fs, fc, fb, nx, kp) : acS) 1 c (w 3)).1))), (qc, .inl (cy 0, 24, .inl ((acK ((fs, fc, fb, nx, kp) : acS) 1 c (w 3)).2.1))), (qb, .inl (cy 0, 24, .inl ((acK ((fs, fc, fb, nx, kp) : acS) 1 c (w 3)).2.2.1)))] := hD
          refine lv_aload_n hx hb dX6_bribe_78 rfl (lv_at hl 0 rfl) ?_
          refine va_get (D := D) (ci := 6) (v := .ref h) (C := RX6) (T := TX6) (N := 9) hx hb hts nX6_bribe_0 hown hK.1 hP 0 rfl rfl 5 (by decide) (hts _ mX6_bribe_1) (fun _ h9 => h9) rfl dX6_bribe_79 ?_
          refine va_get (D := D) (ci := 2) (v := .int (nI ((w 3) ^^^ (1 * 2 ^ c)))) (C := RX2) (T := TX2) (N := 9) hx hb hts nX6_bribe_3 hown hK.1 hP 1 rfl rfl 4 (by decide) (hts _ mX6_bribe_4) (fun _ h9 => h9) rfl dX6_bribe_82 ?_
          have hP9 := hP
          have hD9 := hD
          exact q_wiret (v := nI ((w 3) ^^^ (1 * 2 ^ c))) hx hb hr hlocks dX6_bribe_85 hP9 hD9 hS (⟨ctBr w c, ft, fo, acK (fs, fc, fb, nx, kp) 1 c (w 3), by simp only [oBribe, q_cl (by omega : c < 2147483648), q_cl (by omega : m < 2147483648), if_pos b2, if_pos b4, if_neg (by simp [b6, c10] : ¬ ((w 3).testBit c = decide (m = 1)))], ctOk_br hv (by omega), ctIs_br hw, rfl⟩)
    · have _ := b4
      refine lv_if_ne (tgt := 23) hx hb dX6_bribe_17 (by decide) (fun c9 => absurd (by decide) c9) (fun _ => ?_)
      refine lv_ldc (v := (-1000001)) hx hb hown (hts _ mX6_bribe_6) dX6_bribe_20 ?_
      have hP9 := hP
      have hD9 := hD
      exact q_wiret (v := (-1000001)) hx hb hr hlocks dX6_bribe_22 hP9 hD9 hS (⟨w, ft, fo, (fs, fc, fb, nx, kp), by simp only [oBribe, q_cl (by omega : c < 2147483648), if_pos b2, if_neg b4], hv, hw, rfl⟩)
  · replace b2 := fun q => b2 ((inC_i (by omega)).mpr q)
    refine lv_if_eq (tgt := 20) hx hb dX6_bribe_8 (by decide) (fun _ => ?_) (fun c9 => absurd (by decide) c9)
    refine lv_ldc (v := (-1000001)) hx hb hown (hts _ mX6_bribe_6) dX6_bribe_20 ?_
    have hP9 := hP
    have hD9 := hD
    exact q_wiret (v := (-1000001)) hx hb hr hlocks dX6_bribe_22 hP9 hD9 hS (⟨w, ft, fo, (fs, fc, fb, nx, kp), by simp only [oBribe, if_neg b2], hv, hw, rfl⟩)
theorem nX6_days_0 : ∀ w ∈ wsX60, w ∈ wsX6_days := by decide +kernel
theorem mX6_days_1 : Cond.fieldLink RX6 47 "ClueLeave" "city" "LClueLeave$City;" ∈ wsX6_days := by decide +kernel
theorem nX6_days_2 : ∀ w ∈ wsX20, w ∈ wsX6_days := by decide +kernel
theorem mX6_days_3 : Cond.fieldLink RX6 130 "ClueLeave$City" "day" "I" ∈ wsX6_days := by decide +kernel
theorem mX6_days_4 : Cond.fieldLink RX6 26 "ClueLeave" "acts" "LClueLeave$Acts;" ∈ wsX6_days := by decide +kernel
theorem mX6_days_5 : Cond.constant RX6 102 (-1000003) ∈ wsX6_days := by decide +kernel
theorem mX6_days_6 : Cond.constant RX6 66 (-1000001) ∈ wsX6_days := by decide +kernel
theorem mX6_days_7 : Cond.constant RX6 129 (-1000002) ∈ wsX6_days := by decide +kernel
set_option maxHeartbeats 4000000 in
set_option maxRecDepth 100000 in
theorem c_X6_days (l : Launch) (D : va_G) (cy : Nat → ClassId) (x0 r0 t0 s0 k0 j0 im : Nat) (st : Int32) (h kA tA eA oA : Nat) (w : Nat → Nat) (fk ft fe fo : Nat → Int32) (hw : ctIs w fk ft fe fo) (hv : ctOk w) (q qs qc qb : Nat) (fs fc fb : Nat → Int32) (nx kp : Nat) (hnx : nx < 24) (hkp : kp ≤ 24) (n : Int32) : q_Wi l yX6_days wsX6_days 6 D cy [(x0, .inr (6, [.ref r0, .ref t0, .ref q, .ref s0, .ref k0, .ref h, .ref j0, .ref im, .int (st)])), (h, .inr (2, [.int (nI (w 0)), .int (nI (w 1)), .int (nI (w 2)), .int (nI (w 4)), .int (nI (w 3)), .ref kA, .ref tA, .ref eA, .ref oA])), (kA, .inl (cy 0, 6, .inl fk)), (tA, .inl (cy 0, 6, .inl ft)), (eA, .inl (cy 0, 6, .inl fe)), (oA, .inl (cy 0, 6, .inl fo)), (q, .inr (0, [.ref qs, .ref qc, .ref qb, .int (nI nx), .int (nI kp)])), (qs, .inl (cy 0, 24, .inl fs)), (qc, .inl (cy 0, 24, .inl fc)), (qb, .inl (cy 0, 24, .inl fb))] [.ref x0, .int (n)] (fun r u => ∃ (w2 : Nat → Nat) (ft2 fo2 : Nat → Int32) (a2 : acS), oDays w ((fs, fc, fb, nx, kp) : acS) n = (r, w2, a2) ∧ ctOk w2 ∧ ctIs w2 fk ft2 fe fo2 ∧ u = [(x0, .inr (6, [.ref r0, .ref t0, .ref q, .ref s0, .ref k0, .ref h, .ref j0, .ref im, .int (st)])), (h, .inr (2, [.int (nI (w2 0)), .int (nI (w2 1)), .int (nI (w2 2)), .int (nI (w2 4)), .int (nI (w2 3)), .ref kA, .ref tA, .ref eA, .ref oA])), (kA, .inl (cy 0, 6, .inl fk)), (tA, .inl (cy 0, 6, .inl ft2)), (eA, .inl (cy 0, 6, .inl fe)), (oA, .inl (cy 0, 6, .inl fo2)), (q, .inr (0, [.ref qs, .ref qc, .ref qb, .int (nI a2.2.2.2.1), .int (nI a2.2.2.2.2)])), (qs, .inl (cy 0, 24, .inl a2.1)), (qc, .inl (cy 0, 24, .inl a2.2.1)), (qb, .inl (cy 0, 24, .inl a2.2.2.1))]) := by
  refine q_wi_of (cc := cX6_days) (maxL := 3) (ret := (some .int)) (by decide) rfl (Nat.le_of_ble_eq_true rfl) ?_
  intro pg en s mi args below meth cd A hC hA hK H locs hP hD hS ls hl
  obtain ⟨hx, hb, hr, hml, hown, hts, hlocks⟩ := hC
  have hl : lv_has ls 3 [(0, .ref x0), (1, .int (n))] := hl
  obtain ⟨hv0, hv1, hv2, hv3, hv4, hvc⟩ := id hv
  refine lv_aload_n hx hb dX6_days_0 rfl (lv_at hl 0 rfl) ?_
  refine va_get (D := D) (ci := 6) (v := .ref h) (C := RX6) (T := TX6) (N := 9) hx hb hts nX6_days_0 hown hK.1 hP 0 rfl rfl 5 (by decide) (hts _ mX6_days_1) (fun _ h9 => h9) rfl dX6_days_1 ?_
  refine q_rV (As := []) (rest := []) ⟨hx, hb, hml, hown, hts⟩ (c_X2_stands l D cy h kA tA eA oA w fk ft fe fo hw hv) (cwV 0 hts gX6_days_X2_stands rfl rfl rfl (by decide +kernel) ⟨Nat.le_of_ble_eq_true rfl, Nat.le_of_ble_eq_true rfl⟩) hP hK [1, 2, 3, 4, 5] rfl 1 rfl rfl rfl rfl hl.1 rfl (Nat.le_of_ble_eq_true rfl) dX6_days_4 ⟨Nat.zero_le _, Nat.zero_le _⟩ (fun r1 hr1 => ?_)
  rcases hr1 with ⟨rfl, b2⟩ | ⟨rfl, b2⟩
  · have _ := b2
    refine lv_if_ne (tgt := 13) hx hb dX6_days_7 (by decide) (fun _ => ?_) (fun c9 => absurd c9 (by decide))
    refine lv_iload_n hx hb dX6_days_13 rfl (lv_at hl 1 rfl) ?_
    refine lv_iconst (v := nI 1) hx hb dX6_days_14 (by decide) ?_
    refine lv_bipush (v := nI 24) hx hb dX6_days_15 (by decide) ?_
    refine q_rS (As := [.int (n), .int (nI 1), .int (nI 24)]) (rest := []) ⟨hx, hb, hml, hown, hts⟩ (c_X6_isWithin l D cy n (nI 1) (nI 24)) (va_cwS 3 hts gX6_days_X6_isWithin rfl rfl rfl (by decide +kernel) ⟨Nat.le_of_ble_eq_true rfl, Nat.le_of_ble_eq_true rfl⟩) hP hK [] rfl rfl hl.1 rfl (Nat.le_of_ble_eq_true rfl) dX6_days_17 ⟨Nat.zero_le _, Nat.zero_le _⟩ (fun r3 hr3 => ?_)
    rcases hr3 with ⟨rfl, b4⟩ | ⟨rfl, b4⟩
    · have _ := b4
      refine lv_if_ne (tgt := 26) hx hb dX6_days_20 (by decide) (fun _ => ?_) (fun c9 => absurd c9 (by decide))
      obtain ⟨m, -, hm, rfl⟩ := q_rng b4 (by decide) (by decide)
      refine lv_aload_n hx hb dX6_days_26 rfl (lv_at hl 0 rfl) ?_
      refine va_get (D := D) (ci := 6) (v := .ref h) (C := RX6) (T := TX6) (N := 9) hx hb hts nX6_days_0 hown hK.1 hP 0 rfl rfl 5 (by decide) (hts _ mX6_days_1) (fun _ h9 => h9) rfl dX6_days_27 ?_
      refine va_get (D := D) (ci := 2) (v := .int (nI (w 2))) (C := RX2) (T := TX2) (N := 9) hx hb hts nX6_days_2 hown hK.1 hP 1 rfl rfl 2 (by decide) (hts _ mX6_days_3) (fun _ h9 => h9) rfl dX6_days_30 ?_
      refine lv_iload_n hx hb dX6_days_33 rfl (lv_at hl 1 rfl) ?_
      refine lv_iadd hx hb dX6_days_34 ?_
      refine q_top (y := nI ((w 2) + m)) (nI_add _ _) ?_
      refine lv_sipush (v := nI 999) hx hb dX6_days_35 (by decide) ?_
      refine q_icmp_le (tgt := 44) hx hb dX6_days_38 (by decide) (by omega) (by decide) (fun c5 => ?_) (fun c5 => ?_)
      · refine lv_iconst (v := nI 0) hx hb dX6_days_44 (by decide) ?_
        refine lv_istore_n (lv' := [(2, .int (nI 0)), (0, .ref x0), (1, .int (nI m))]) hx hb dX6_days_45 rfl hl (by decide) rfl (fun ls hl => ?_)
        have L46_27 : ∀ (fu i : Nat), i ≤ m → m < i + fu → ∀ (H : Heap) (locs : List Loc), va_P D vwCl [(x0, .inr (6, [.ref r0, .ref t0, .ref q, .ref s0, .ref k0, .ref h, .ref j0, .ref im, .int (st)])), (h, .inr (2, [.int (nI (w 0)), .int (nI (w 1)), .int (nI (w 2)), .int (nI (w 4)), .int (nI (w 3)), .ref kA, .ref tA, .ref eA, .ref oA])), (kA, .inl (cy 0, 6, .inl fk)), (tA, .inl (cy 0, 6, .inl ft)), (eA, .inl (cy 0, 6, .inl fe)), (oA, .inl (cy 0, 6, .inl fo)), (q, .inr (0, [.ref qs, .ref qc, .ref qb, .int (nI ((acD ((fs, fc, fb, nx, kp) : acS) i).2.2.2.1)), .int (nI ((acD ((fs, fc, fb, nx, kp) : acS) i).2.2.2.2))])), (qs, .inl (cy 0, 24, .inl ((acD ((fs, fc, fb, nx, kp) : acS) i).1))), (qc, .inl (cy 0, 24, .inl ((acD ((fs, fc, fb, nx, kp) : acS) i).2.1))), (qb, .inl (cy 0, 24, .inl ((acD ((fs, fc, fb, nx, kp) : acS) i).2.2.1)))] H → va_D A [(x0, .inr (6, [.ref r0, .ref t0, .ref q, .ref s0, .ref k0, .ref h, .ref j0, .ref im, .int (st)])), (h, .inr (2, [.int (nI (w 0)), .int (nI (w 1)), .int (nI (w 2)), .int (nI (w 4)), .int (nI (w 3)), .ref kA, .ref tA, .ref eA, .ref oA])), (kA, .inl (cy 0, 6, .inl fk)), (tA, .inl (cy 0, 6, .inl ft)), (eA, .inl (cy 0, 6, .inl fe)), (oA, .inl (cy 0, 6, .inl fo)), (q, .inr (0, [.ref qs, .ref qc, .ref qb, .int (nI ((acD ((fs, fc, fb, nx, kp) : acS) i).2.2.2.1)), .int (nI ((acD ((fs, fc, fb, nx, kp) : acS) i).2.2.2.2))])), (qs, .inl (cy 0, 24, .inl ((acD ((fs, fc, fb, nx, kp) : acS) i).1))), (qc, .inl (cy 0, 24, .inl ((acD ((fs, fc, fb, nx, kp) : acS) i).2.1))), (qb, .inl (cy 0, 24, .inl ((acD ((fs, fc, fb, nx, kp) : acS) i).2.2.1)))] → va_S A s.heap H locs → ∀ ls : Array Slot, lv_has ls 3 [(0, .ref x0), (1, .int (nI m)), (2, .int (nI i))] → W pg l en (q_rm 6) s mi args below meth cd H locs 0 0 (MQ below (va_Qi (fun r u => ∃ (w2 : Nat → Nat) (ft2 fo2 : Nat → Int32) (a2 : acS), oDays w ((fs, fc, fb, nx, kp) : acS) (nI m) = (r, w2, a2) ∧ ctOk w2 ∧ ctIs w2 fk ft2 fe fo2 ∧ u = [(x0, .inr (6, [.ref r0, .ref t0, .ref q, .ref s0, .ref k0, .ref h, .ref j0, .ref im, .int (st)])), (h, .inr (2, [.int (nI (w2 0)), .int (nI (w2 1)), .int (nI (w2 2)), .int (nI (w2 4)), .int (nI (w2 3)), .ref kA, .ref tA, .ref eA, .ref oA])), (kA, .inl (cy 0, 6, .inl fk)), (tA, .inl (cy 0, 6, .inl ft2)), (eA, .inl (cy 0, 6, .inl fe)), (oA, .inl (cy 0, 6, .inl fo2)), (q, .inr (0, [.ref qs, .ref qc, .ref qb, .int (nI a2.2.2.2.1), .int (nI a2.2.2.2.2)])), (qs, .inl (cy 0, 24, .inl a2.1)), (qc, .inl (cy 0, 24, .inl a2.2.1)), (qb, .inl (cy 0, 24, .inl a2.2.2.1))]) (fun (u : va_W) t => va_P D vwCl u t.heap ∧ va_D A u) A) args s 0 0 A) (F0 mi 46 ls []) := by
          intro fu
          induction fu with
          | zero =>
            intro i h1 h2
            exact absurd h2 (by omega)
          | succ fu ih46 =>
            intro i h1_46 h2_46 H locs hP hD hS ls hl
            refine lv_iload_n hx hb dX6_days_46 rfl (lv_at hl 2 rfl) ?_
            refine lv_iload_n hx hb dX6_days_47 rfl (lv_at hl 1 rfl) ?_
            refine q_icmp_ge (tgt := 67) hx hb dX6_days_48 (by decide) (by omega) (by omega) (fun c6 => ?_) (fun c6 => ?_)
            · have him : i = m := by omega
              refine lv_aload_n hx hb dX6_days_67 rfl (lv_at hl 0 rfl) ?_
              refine va_get (D := D) (ci := 6) (v := .ref h) (C := RX6) (T := TX6) (N := 9) hx hb hts nX6_days_0 hown hK.1 hP 0 rfl rfl 5 (by decide) (hts _ mX6_days_1) (fun _ h9 => h9) rfl dX6_days_68 ?_
              refine lv_dup hx hb dX6_days_71 rfl ?_
              refine va_get (D := D) (ci := 2) (v := .int (nI (w 2))) (C := RX2) (T := TX2) (N := 9) hx hb hts nX6_days_2 hown hK.1 hP 1 rfl rfl 2 (by decide) (hts _ mX6_days_3) (fun _ h9 => h9) rfl dX6_days_72 ?_
              refine lv_iload_n hx hb dX6_days_75 rfl (lv_at hl 1 rfl) ?_
              refine lv_iadd hx hb dX6_days_76 ?_
              refine q_top (y := nI ((w 2) + m)) (nI_add _ _) ?_
              refine va_put (D := D) (ci := 2) (v := .int (nI ((w 2) + m))) (ty := .int) (C := RX2) (T := TX2) (N := 9) hx hb hts nX6_days_2 tyX2 tyX2_ok nmX2 hown hK.1 hP hD hS 1 rfl rfl 2 (by decide) (hts _ mX6_days_3) (fun _ h9 => h9) rfl (by decide +kernel) rfl rfl (Nat.le_of_ble_eq_true rfl) dX6_days_77 (fun H locs hP hD hS => ?_)
              have hP : va_P D vwCl [(x0, .inr (6, [.ref r0, .ref t0, .ref q, .ref s0, .ref k0, .ref h, .ref j0, .ref im, .int (st)])), (h, .inr (2, [.int (nI (w 0)), .int (nI (w 1)), .int (nI ((w 2) + m)), .int (nI (w 4)), .int (nI (w 3)), .ref kA, .ref tA, .ref eA, .ref oA])), (kA, .inl (cy 0, 6, .inl fk)), (tA, .inl (cy 0, 6, .inl ft)), (eA, .inl (cy 0, 6, .inl fe)), (oA, .inl (cy 0, 6, .inl fo)), (q, .inr (0, [.ref qs, .ref qc, .ref qb, .int (nI ((acD ((fs, fc, fb, nx, kp) : acS) i).2.2.2.1)), .int (nI ((acD ((fs, fc, fb, nx, kp) : acS) i).2.2.2.2))])), (qs, .inl (cy 0, 24, .inl ((acD ((fs, fc, fb, nx, kp) : acS) i).1))), (qc, .inl (cy 0, 24, .inl ((acD ((fs, fc, fb, nx, kp) : acS) i).2.1))), (qb, .inl (cy 0, 24, .inl ((acD ((fs, fc, fb, nx, kp) : acS) i).2.2.1)))] H := hP
              have hD : va_D A [(x0, .inr (6, [.ref r0, .ref t0, .ref q, .ref s0, .ref k0, .ref h, .ref j0, .ref im, .int (st)])), (h, .inr (2, [.int (nI (w 0)), .int (nI (w 1)), .int (nI ((w 2) + m)), .int (nI (w 4)), .int (nI (w 3)), .ref kA, .ref tA, .ref eA, .ref oA])), (kA, .inl (cy 0, 6, .inl fk)), (tA, .inl (cy 0, 6, .inl ft)), (eA, .inl (cy 0, 6, .inl fe)), (oA, .inl (cy 0, 6, .inl fo)), (q, .inr (0, [.ref qs, .ref qc, .ref qb, .int (nI ((acD ((fs, fc, fb, nx, kp) : acS) i).2.2.2.1)), .int (nI ((acD ((fs, fc, fb, nx, kp) : acS) i).2.2.2.2))])), (qs, .inl (cy 0, 24, .inl ((acD ((fs, fc, fb, nx, kp) : acS) i).1))), (qc, .inl (cy 0, 24, .inl ((acD ((fs, fc, fb, nx, kp) : acS) i).2.1))), (qb, .inl (cy 0, 24, .inl ((acD ((fs, fc, fb, nx, kp) : acS) i).2.2.1)))] := hD
              refine lv_aload_n hx hb dX6_days_80 rfl (lv_at hl 0 rfl) ?_
              refine va_get (D := D) (ci := 6) (v := .ref h) (C := RX6) (T := TX6) (N := 9) hx hb hts nX6_days_0 hown hK.1 hP 0 rfl rfl 5 (by decide) (hts _ mX6_days_1) (fun _ h9 => h9) rfl dX6_days_81 ?_
              refine lv_aload_n hx hb dX6_days_84 rfl (lv_at hl 0 rfl) ?_
              refine va_get (D := D) (ci := 6) (v := .ref h) (C := RX6) (T := TX6) (N := 9) hx hb hts nX6_days_0 hown hK.1 hP 0 rfl rfl 5 (by decide) (hts _ mX6_days_1) (fun _ h9 => h9) rfl dX6_days_85 ?_
              refine va_get (D := D) (ci := 2) (v := .int (nI ((w 2) + m))) (C := RX2) (T := TX2) (N := 9) hx hb hts nX6_days_2 hown hK.1 hP 1 rfl rfl 2 (by decide) (hts _ mX6_days_3) (fun _ h9 => h9) rfl dX6_days_88 ?_
              refine q_rV (As := [.int (nI ((w 2) + m))]) (rest := []) ⟨hx, hb, hml, hown, hts⟩ (c_X2_leftOn l D cy h kA tA eA oA (ctDay w m) fk ft fe fo (ctIs_day hw) (ctOk_day hv (by omega)) ((w 2) + m) (by omega)) (cwV 1 hts gX6_days_X2_leftOn rfl rfl rfl (by decide +kernel) ⟨Nat.le_of_ble_eq_true rfl, Nat.le_of_ble_eq_true rfl⟩) hP hK [1, 2, 3, 4, 5] rfl 1 rfl rfl rfl rfl hl.1 rfl (Nat.le_of_ble_eq_true rfl) dX6_days_91 ⟨Nat.zero_le _, Nat.zero_le _⟩ (fun r7 hr7 => ?_)
              obtain rfl := hr7
              have hP9 := hP
              have hD9 := hD
              exact q_wiret (v := nI (ctLeft (ctDay w m) ((w 2) + m))) hx hb hr hlocks dX6_days_94 hP9 hD9 hS (⟨ctDay w m, ft, fo, acD (fs, fc, fb, nx, kp) i, by rw [him]; simp only [oDays, q_cl (by omega : m < 2147483648), if_pos b2, if_pos b4, if_pos (by omega : w 2 + m ≤ 999)], ctOk_day hv (by omega), ctIs_day hw, rfl⟩)
            · refine lv_aload_n hx hb dX6_days_51 rfl (lv_at hl 0 rfl) ?_
              refine va_get (D := D) (ci := 6) (v := .ref q) (C := RX6) (T := TX6) (N := 9) hx hb hts nX6_days_0 hown hK.1 hP 0 rfl rfl 2 (by decide) (hts _ mX6_days_4) (fun _ h9 => h9) rfl dX6_days_52 ?_
              refine lv_iconst (v := nI 0) hx hb dX6_days_55 (by decide) ?_
              refine lv_iconst (v := nI 0) hx hb dX6_days_56 (by decide) ?_
              refine lv_iconst (v := nI 0) hx hb dX6_days_57 (by decide) ?_
              refine q_wvV (As := [.int (nI 0), .int (nI 0), .int (nI 0)]) (rest := []) (wr := [(x0, .inr (6, [.ref r0, .ref t0, .ref q, .ref s0, .ref k0, .ref h, .ref j0, .ref im, .int (st)])), (h, .inr (2, [.int (nI (w 0)), .int (nI (w 1)), .int (nI (w 2)), .int (nI (w 4)), .int (nI (w 3)), .ref kA, .ref tA, .ref eA, .ref oA])), (kA, .inl (cy 0, 6, .inl fk)), (tA, .inl (cy 0, 6, .inl ft)), (eA, .inl (cy 0, 6, .inl fe)), (oA, .inl (cy 0, 6, .inl fo))]) ⟨hx, hb, hml, hown, hts⟩ (c_X0_keep l D cy q qs qc qb (acD ((fs, fc, fb, nx, kp) : acS) i).1 (acD ((fs, fc, fb, nx, kp) : acS) i).2.1 (acD ((fs, fc, fb, nx, kp) : acS) i).2.2.1 (acD ((fs, fc, fb, nx, kp) : acS) i).2.2.2.1 (acD ((fs, fc, fb, nx, kp) : acS) i).2.2.2.2 (acL_x i hnx) (acL_k i hkp) (nI 0) (nI 0) (nI 0)) (cwV 3 hts gX6_days_X0_keep rfl rfl rfl (by decide +kernel) ⟨Nat.le_of_ble_eq_true rfl, Nat.le_of_ble_eq_true rfl⟩) hP hD hS hA hK [6, 7, 8, 9] [0, 1, 2, 3, 4, 5] rfl rfl (by decide) rfl (by decide) (by decide) 6 rfl rfl rfl rfl hl.1 rfl (Nat.le_of_ble_eq_true rfl) dX6_days_58 ⟨Nat.zero_le _, Nat.zero_le _⟩ (fun u9 H locs hr8 hP hD hS => ?_)
              obtain rfl := hr8
              have hP : va_P D vwCl [(x0, .inr (6, [.ref r0, .ref t0, .ref q, .ref s0, .ref k0, .ref h, .ref j0, .ref im, .int (st)])), (h, .inr (2, [.int (nI (w 0)), .int (nI (w 1)), .int (nI (w 2)), .int (nI (w 4)), .int (nI (w 3)), .ref kA, .ref tA, .ref eA, .ref oA])), (kA, .inl (cy 0, 6, .inl fk)), (tA, .inl (cy 0, 6, .inl ft)), (eA, .inl (cy 0, 6, .inl fe)), (oA, .inl (cy 0, 6, .inl fo)), (q, .inr (0, [.ref qs, .ref qc, .ref qb, .int (nI ((acK (acD ((fs, fc, fb, nx, kp) : acS) i) 0 0 0).2.2.2.1)), .int (nI ((acK (acD ((fs, fc, fb, nx, kp) : acS) i) 0 0 0).2.2.2.2))])), (qs, .inl (cy 0, 24, .inl ((acK (acD ((fs, fc, fb, nx, kp) : acS) i) 0 0 0).1))), (qc, .inl (cy 0, 24, .inl ((acK (acD ((fs, fc, fb, nx, kp) : acS) i) 0 0 0).2.1))), (qb, .inl (cy 0, 24, .inl ((acK (acD ((fs, fc, fb, nx, kp) : acS) i) 0 0 0).2.2.1)))] H := hP
              have hD : va_D A [(x0, .inr (6, [.ref r0, .ref t0, .ref q, .ref s0, .ref k0, .ref h, .ref j0, .ref im, .int (st)])), (h, .inr (2, [.int (nI (w 0)), .int (nI (w 1)), .int (nI (w 2)), .int (nI (w 4)), .int (nI (w 3)), .ref kA, .ref tA, .ref eA, .ref oA])), (kA, .inl (cy 0, 6, .inl fk)), (tA, .inl (cy 0, 6, .inl ft)), (eA, .inl (cy 0, 6, .inl fe)), (oA, .inl (cy 0, 6, .inl fo)), (q, .inr (0, [.ref qs, .ref qc, .ref qb, .int (nI ((acK (acD ((fs, fc, fb, nx, kp) : acS) i) 0 0 0).2.2.2.1)), .int (nI ((acK (acD ((fs, fc, fb, nx, kp) : acS) i) 0 0 0).2.2.2.2))])), (qs, .inl (cy 0, 24, .inl ((acK (acD ((fs, fc, fb, nx, kp) : acS) i) 0 0 0).1))), (qc, .inl (cy 0, 24, .inl ((acK (acD ((fs, fc, fb, nx, kp) : acS) i) 0 0 0).2.1))), (qb, .inl (cy 0, 24, .inl ((acK (acD ((fs, fc, fb, nx, kp) : acS) i) 0 0 0).2.2.1)))] := hD
              refine lv_iinc (v := nI (i + 1)) (lv' := [(2, .int (nI (i + 1))), (0, .ref x0), (1, .int (nI m))]) hx hb dX6_days_61 hl (k := 2) rfl (q_inc i 1) (by decide) rfl (fun ls hl => ?_)
              refine lv_goto (tgt := 46) hx hb dX6_days_64 (by decide) ?_
              have hP := q_Pc (w1 := [(x0, .inr (6, [.ref r0, .ref t0, .ref q, .ref s0, .ref k0, .ref h, .ref j0, .ref im, .int (st)])), (h, .inr (2, [.int (nI (w 0)), .int (nI (w 1)), .int (nI (w 2)), .int (nI (w 4)), .int (nI (w 3)), .ref kA, .ref tA, .ref eA, .ref oA])), (kA, .inl (cy 0, 6, .inl fk)), (tA, .inl (cy 0, 6, .inl ft)), (eA, .inl (cy 0, 6, .inl fe)), (oA, .inl (cy 0, 6, .inl fo)), (q, .inr (0, [.ref qs, .ref qc, .ref qb, .int (nI ((acK (acD ((fs, fc, fb, nx, kp) : acS) i) 0 0 0).2.2.2.1)), .int (nI ((acK (acD ((fs, fc, fb, nx, kp) : acS) i) 0 0 0).2.2.2.2))])), (qs, .inl (cy 0, 24, .inl ((acK (acD ((fs, fc, fb, nx, kp) : acS) i) 0 0 0).1))), (qc, .inl (cy 0, 24, .inl ((acK (acD ((fs, fc, fb, nx, kp) : acS) i) 0 0 0).2.1))), (qb, .inl (cy 0, 24, .inl ((acK (acD ((fs, fc, fb, nx, kp) : acS) i) 0 0 0).2.2.1)))]) (w2 := [(x0, .inr (6, [.ref r0, .ref t0, .ref q, .ref s0, .ref k0, .ref h, .ref j0, .ref im, .int (st)])), (h, .inr (2, [.int (nI (w 0)), .int (nI (w 1)), .int (nI (w 2)), .int (nI (w 4)), .int (nI (w 3)), .ref kA, .ref tA, .ref eA, .ref oA])), (kA, .inl (cy 0, 6, .inl fk)), (tA, .inl (cy 0, 6, .inl ft)), (eA, .inl (cy 0, 6, .inl fe)), (oA, .inl (cy 0, 6, .inl fo)), (q, .inr (0, [.ref qs, .ref qc, .ref qb, .int (nI ((acD ((fs, fc, fb, nx, kp) : acS) (i + 1)).2.2.2.1)), .int (nI ((acD ((fs, fc, fb, nx, kp) : acS) (i + 1)).2.2.2.2))])), (qs, .inl (cy 0, 24, .inl ((acD ((fs, fc, fb, nx, kp) : acS) (i + 1)).1))), (qc, .inl (cy 0, 24, .inl ((acD ((fs, fc, fb, nx, kp) : acS) (i + 1)).2.1))), (qb, .inl (cy 0, 24, .inl ((acD ((fs, fc, fb, nx, kp) : acS) (i + 1)).2.2.1)))]) (q_c5 (f := fun z0 z1 z2 z3 z4 => ([(x0, .inr (6, [.ref r0, .ref t0, .ref q, .ref s0, .ref k0, .ref h, .ref j0, .ref im, .int (st)])), (h, .inr (2, [.int (nI (w 0)), .int (nI (w 1)), .int (nI (w 2)), .int (nI (w 4)), .int (nI (w 3)), .ref kA, .ref tA, .ref eA, .ref oA])), (kA, .inl (cy 0, 6, .inl fk)), (tA, .inl (cy 0, 6, .inl ft)), (eA, .inl (cy 0, 6, .inl fe)), (oA, .inl (cy 0, 6, .inl fo)), (q, .inr (0, [.ref qs, .ref qc, .ref qb, .int (z0), .int (z1)])), (qs, .inl (cy 0, 24, .inl z2)), (qc, .inl (cy 0, 24, .inl z3)), (qb, .inl (cy 0, 24, .inl z4))] : va_W)) (show (nI ((acK (acD ((fs, fc, fb, nx, kp) : acS) i) 0 0 0).2.2.2.1) : Int32) = nI ((acD ((fs, fc, fb, nx, kp) : acS) (i + 1)).2.2.2.1) from rfl) (show (nI ((acK (acD ((fs, fc, fb, nx, kp) : acS) i) 0 0 0).2.2.2.2) : Int32) = nI ((acD ((fs, fc, fb, nx, kp) : acS) (i + 1)).2.2.2.2) from rfl) (show ((acK (acD ((fs, fc, fb, nx, kp) : acS) i) 0 0 0).1 : Nat → Int32) = (acD ((fs, fc, fb, nx, kp) : acS) (i + 1)).1 from rfl) (show ((acK (acD ((fs, fc, fb, nx, kp) : acS) i) 0 0 0).2.1 : Nat → Int32) = (acD ((fs, fc, fb, nx, kp) : acS) (i + 1)).2.1 from rfl) (show ((acK (acD ((fs, fc, fb, nx, kp) : acS) i) 0 0 0).2.2.1 : Nat → Int32) = (acD ((fs, fc, fb, nx, kp) : acS) (i + 1)).2.2.1 from rfl)) hP
              have hD := q_Dc (w1 := [(x0, .inr (6, [.ref r0, .ref t0, .ref q, .ref s0, .ref k0, .ref h, .ref j0, .ref im, .int (st)])), (h, .inr (2, [.int (nI (w 0)), .int (nI (w 1)), .int (nI (w 2)), .int (nI (w 4)), .int (nI (w 3)), .ref kA, .ref tA, .ref eA, .ref oA])), (kA, .inl (cy 0, 6, .inl fk)), (tA, .inl (cy 0, 6, .inl ft)), (eA, .inl (cy 0, 6, .inl fe)), (oA, .inl (cy 0, 6, .inl fo)), (q, .inr (0, [.ref qs, .ref qc, .ref qb, .int (nI ((acK (acD ((fs, fc, fb, nx, kp) : acS) i) 0 0 0).2.2.2.1)), .int (nI ((acK (acD ((fs, fc, fb, nx, kp) : acS) i) 0 0 0).2.2.2.2))])), (qs, .inl (cy 0, 24, .inl ((acK (acD ((fs, fc, fb, nx, kp) : acS) i) 0 0 0).1))), (qc, .inl (cy 0, 24, .inl ((acK (acD ((fs, fc, fb, nx, kp) : acS) i) 0 0 0).2.1))), (qb, .inl (cy 0, 24, .inl ((acK (acD ((fs, fc, fb, nx, kp) : acS) i) 0 0 0).2.2.1)))]) (w2 := [(x0, .inr (6, [.ref r0, .ref t0, .ref q, .ref s0, .ref k0, .ref h, .ref j0, .ref im, .int (st)])), (h, .inr (2, [.int (nI (w 0)), .int (nI (w 1)), .int (nI (w 2)), .int (nI (w 4)), .int (nI (w 3)), .ref kA, .ref tA, .ref eA, .ref oA])), (kA, .inl (cy 0, 6, .inl fk)), (tA, .inl (cy 0, 6, .inl ft)), (eA, .inl (cy 0, 6, .inl fe)), (oA, .inl (cy 0, 6, .inl fo)), (q, .inr (0, [.ref qs, .ref qc, .ref qb, .int (nI ((acD ((fs, fc, fb, nx, kp) : acS) (i + 1)).2.2.2.1)), .int (nI ((acD ((fs, fc, fb, nx, kp) : acS) (i + 1)).2.2.2.2))])), (qs, .inl (cy 0, 24, .inl ((acD ((fs, fc, fb, nx, kp) : acS) (i + 1)).1))), (qc, .inl (cy 0, 24, .inl ((acD ((fs, fc, fb, nx, kp) : acS) (i + 1)).2.1))), (qb, .inl (cy 0, 24, .inl ((acD ((fs, fc, fb, nx, kp) : acS) (i + 1)).2.2.1)))]) (q_c5 (f := fun z0 z1 z2 z3 z4 => ([(x0, .inr (6, [.ref r0, .ref t0, .ref q, .ref s0, .ref k0, .ref h, .ref j0, .ref im, .int (st)])), (h, .inr (2, [.int (nI (w 0)), .int (nI (w 1)), .int (nI (w 2)), .int (nI (w 4)), .int (nI (w 3)), .ref kA, .ref tA, .ref eA, .ref oA])), (kA, .inl (cy 0, 6, .inl fk)), (tA, .inl (cy 0, 6, .inl ft)), (eA, .inl (cy 0, 6, .inl fe)), (oA, .inl (cy 0, 6, .inl fo)), (q, .inr (0, [.ref qs, .ref qc, .ref qb, .int (z0), .int (z1)])), (qs, .inl (cy 0, 24, .inl z2)), (qc, .inl (cy 0, 24, .inl z3)), (qb, .inl (cy 0, 24, .inl z4))] : va_W)) (show (nI ((acK (acD ((fs, fc, fb, nx, kp) : acS) i) 0 0 0).2.2.2.1) : Int32) = nI ((acD ((fs, fc, fb, nx, kp) : acS) (i + 1)).2.2.2.1) from rfl) (show (nI ((acK (acD ((fs, fc, fb, nx, kp) : acS) i) 0 0 0).2.2.2.2) : Int32) = nI ((acD ((fs, fc, fb, nx, kp) : acS) (i + 1)).2.2.2.2) from rfl) (show ((acK (acD ((fs, fc, fb, nx, kp) : acS) i) 0 0 0).1 : Nat → Int32) = (acD ((fs, fc, fb, nx, kp) : acS) (i + 1)).1 from rfl) (show ((acK (acD ((fs, fc, fb, nx, kp) : acS) i) 0 0 0).2.1 : Nat → Int32) = (acD ((fs, fc, fb, nx, kp) : acS) (i + 1)).2.1 from rfl) (show ((acK (acD ((fs, fc, fb, nx, kp) : acS) i) 0 0 0).2.2.1 : Nat → Int32) = (acD ((fs, fc, fb, nx, kp) : acS) (i + 1)).2.2.1 from rfl)) hD
              exact ih46 (i + 1) (by omega) (by omega) H locs hP hD hS ls (lv_sub (l' := [(0, .ref x0), (1, .int (nI m)), (2, .int (nI (i + 1)))]) hl [1, 2, 0] rfl)
        have hP := q_Pc (w1 := [(x0, .inr (6, [.ref r0, .ref t0, .ref q, .ref s0, .ref k0, .ref h, .ref j0, .ref im, .int (st)])), (h, .inr (2, [.int (nI (w 0)), .int (nI (w 1)), .int (nI (w 2)), .int (nI (w 4)), .int (nI (w 3)), .ref kA, .ref tA, .ref eA, .ref oA])), (kA, .inl (cy 0, 6, .inl fk)), (tA, .inl (cy 0, 6, .inl ft)), (eA, .inl (cy 0, 6, .inl fe)), (oA, .inl (cy 0, 6, .inl fo)), (q, .inr (0, [.ref qs, .ref qc, .ref qb, .int (nI nx), .int (nI kp)])), (qs, .inl (cy 0, 24, .inl fs)), (qc, .inl (cy 0, 24, .inl fc)), (qb, .inl (cy 0, 24, .inl fb))]) (w2 := [(x0, .inr (6, [.ref r0, .ref t0, .ref q, .ref s0, .ref k0, .ref h, .ref j0, .ref im, .int (st)])), (h, .inr (2, [.int (nI (w 0)), .int (nI (w 1)), .int (nI (w 2)), .int (nI (w 4)), .int (nI (w 3)), .ref kA, .ref tA, .ref eA, .ref oA])), (kA, .inl (cy 0, 6, .inl fk)), (tA, .inl (cy 0, 6, .inl ft)), (eA, .inl (cy 0, 6, .inl fe)), (oA, .inl (cy 0, 6, .inl fo)), (q, .inr (0, [.ref qs, .ref qc, .ref qb, .int (nI ((acD ((fs, fc, fb, nx, kp) : acS) 0).2.2.2.1)), .int (nI ((acD ((fs, fc, fb, nx, kp) : acS) 0).2.2.2.2))])), (qs, .inl (cy 0, 24, .inl ((acD ((fs, fc, fb, nx, kp) : acS) 0).1))), (qc, .inl (cy 0, 24, .inl ((acD ((fs, fc, fb, nx, kp) : acS) 0).2.1))), (qb, .inl (cy 0, 24, .inl ((acD ((fs, fc, fb, nx, kp) : acS) 0).2.2.1)))]) (q_c5 (f := fun z0 z1 z2 z3 z4 => ([(x0, .inr (6, [.ref r0, .ref t0, .ref q, .ref s0, .ref k0, .ref h, .ref j0, .ref im, .int (st)])), (h, .inr (2, [.int (nI (w 0)), .int (nI (w 1)), .int (nI (w 2)), .int (nI (w 4)), .int (nI (w 3)), .ref kA, .ref tA, .ref eA, .ref oA])), (kA, .inl (cy 0, 6, .inl fk)), (tA, .inl (cy 0, 6, .inl ft)), (eA, .inl (cy 0, 6, .inl fe)), (oA, .inl (cy 0, 6, .inl fo)), (q, .inr (0, [.ref qs, .ref qc, .ref qb, .int (z0), .int (z1)])), (qs, .inl (cy 0, 24, .inl z2)), (qc, .inl (cy 0, 24, .inl z3)), (qb, .inl (cy 0, 24, .inl z4))] : va_W)) (show (nI nx : Int32) = nI ((acD ((fs, fc, fb, nx, kp) : acS) 0).2.2.2.1) from rfl) (show (nI kp : Int32) = nI ((acD ((fs, fc, fb, nx, kp) : acS) 0).2.2.2.2) from rfl) (show (fs : Nat → Int32) = (acD ((fs, fc, fb, nx, kp) : acS) 0).1 from rfl) (show (fc : Nat → Int32) = (acD ((fs, fc, fb, nx, kp) : acS) 0).2.1 from rfl) (show (fb : Nat → Int32) = (acD ((fs, fc, fb, nx, kp) : acS) 0).2.2.1 from rfl)) hP
        have hD := q_Dc (w1 := [(x0, .inr (6, [.ref r0, .ref t0, .ref q, .ref s0, .ref k0, .ref h, .ref j0, .ref im, .int (st)])), (h, .inr (2, [.int (nI (w 0)), .int (nI (w 1)), .int (nI (w 2)), .int (nI (w 4)), .int (nI (w 3)), .ref kA, .ref tA, .ref eA, .ref oA])), (kA, .inl (cy 0, 6, .inl fk)), (tA, .inl (cy 0, 6, .inl ft)), (eA, .inl (cy 0, 6, .inl fe)), (oA, .inl (cy 0, 6, .inl fo)), (q, .inr (0, [.ref qs, .ref qc, .ref qb, .int (nI nx), .int (nI kp)])), (qs, .inl (cy 0, 24, .inl fs)), (qc, .inl (cy 0, 24, .inl fc)), (qb, .inl (cy 0, 24, .inl fb))]) (w2 := [(x0, .inr (6, [.ref r0, .ref t0, .ref q, .ref s0, .ref k0, .ref h, .ref j0, .ref im, .int (st)])), (h, .inr (2, [.int (nI (w 0)), .int (nI (w 1)), .int (nI (w 2)), .int (nI (w 4)), .int (nI (w 3)), .ref kA, .ref tA, .ref eA, .ref oA])), (kA, .inl (cy 0, 6, .inl fk)), (tA, .inl (cy 0, 6, .inl ft)), (eA, .inl (cy 0, 6, .inl fe)), (oA, .inl (cy 0, 6, .inl fo)), (q, .inr (0, [.ref qs, .ref qc, .ref qb, .int (nI ((acD ((fs, fc, fb, nx, kp) : acS) 0).2.2.2.1)), .int (nI ((acD ((fs, fc, fb, nx, kp) : acS) 0).2.2.2.2))])), (qs, .inl (cy 0, 24, .inl ((acD ((fs, fc, fb, nx, kp) : acS) 0).1))), (qc, .inl (cy 0, 24, .inl ((acD ((fs, fc, fb, nx, kp) : acS) 0).2.1))), (qb, .inl (cy 0, 24, .inl ((acD ((fs, fc, fb, nx, kp) : acS) 0).2.2.1)))]) (q_c5 (f := fun z0 z1 z2 z3 z4 => ([(x0, .inr (6, [.ref r0, .ref t0, .ref q, .ref s0, .ref k0, .ref h, .ref j0, .ref im, .int (st)])), (h, .inr (2, [.int (nI (w 0)), .int (nI (w 1)), .int (nI (w 2)), .int (nI (w 4)), .int (nI (w 3)), .ref kA, .ref tA, .ref eA, .ref oA])), (kA, .inl (cy 0, 6, .inl fk)), (tA, .inl (cy 0, 6, .inl ft)), (eA, .inl (cy 0, 6, .inl fe)), (oA, .inl (cy 0, 6, .inl fo)), (q, .inr (0, [.ref qs, .ref qc, .ref qb, .int (z0), .int (z1)])), (qs, .inl (cy 0, 24, .inl z2)), (qc, .inl (cy 0, 24, .inl z3)), (qb, .inl (cy 0, 24, .inl z4))] : va_W)) (show (nI nx : Int32) = nI ((acD ((fs, fc, fb, nx, kp) : acS) 0).2.2.2.1) from rfl) (show (nI kp : Int32) = nI ((acD ((fs, fc, fb, nx, kp) : acS) 0).2.2.2.2) from rfl) (show (fs : Nat → Int32) = (acD ((fs, fc, fb, nx, kp) : acS) 0).1 from rfl) (show (fc : Nat → Int32) = (acD ((fs, fc, fb, nx, kp) : acS) 0).2.1 from rfl) (show (fb : Nat → Int32) = (acD ((fs, fc, fb, nx, kp) : acS) 0).2.2.1 from rfl)) hD
        exact L46_27 (m + 1) 0 (by omega) (by omega) H locs hP hD hS ls (lv_sub (l' := [(0, .ref x0), (1, .int (nI m)), (2, .int (nI 0))]) hl [1, 2, 0] rfl)
      · refine lv_ldc (v := (-1000003)) hx hb hown (hts _ mX6_days_5) dX6_days_41 ?_
        have hP9 := hP
        have hD9 := hD
        exact q_wiret (v := (-1000003)) hx hb hr hlocks dX6_days_43 hP9 hD9 hS (⟨w, ft, fo, (fs, fc, fb, nx, kp), by simp only [oDays, q_cl (by omega : m < 2147483648), if_pos b2, if_pos b4, if_neg (by omega : ¬ w 2 + m ≤ 999)], hv, hw, rfl⟩)
    · have _ := b4
      refine lv_if_ne (tgt := 26) hx hb dX6_days_20 (by decide) (fun c9 => absurd (by decide) c9) (fun _ => ?_)
      refine lv_ldc (v := (-1000001)) hx hb hown (hts _ mX6_days_6) dX6_days_23 ?_
      have hP9 := hP
      have hD9 := hD
      exact q_wiret (v := (-1000001)) hx hb hr hlocks dX6_days_25 hP9 hD9 hS (⟨w, ft, fo, (fs, fc, fb, nx, kp), by simp only [oDays, if_pos b2, if_neg b4], hv, hw, rfl⟩)
  · have _ := b2
    refine lv_if_ne (tgt := 13) hx hb dX6_days_7 (by decide) (fun c9 => absurd (by decide) c9) (fun _ => ?_)
    refine lv_ldc (v := (-1000002)) hx hb hown (hts _ mX6_days_7) dX6_days_10 ?_
    have hP9 := hP
    have hD9 := hD
    exact q_wiret (v := (-1000002)) hx hb hr hlocks dX6_days_12 hP9 hD9 hS (⟨w, ft, fo, (fs, fc, fb, nx, kp), by simp only [oDays, if_neg b2], hv, hw, rfl⟩)

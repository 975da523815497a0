/-! rows: ln r the lane (3: missing), sz r how many items -/
def lnC (k : Nat) : Int32 := if k = 3 then -1 else nI k
theorem lnC_m {k : Nat} (h : k ≤ 3) : lnC k = -1 ↔ k = 3 := by
  have : ∀ k, k < 4 → (lnC k = -1 ↔ k = 3) := by decide +kernel
  exact this k (by omega)
theorem lnC_n {k : Nat} (h : k ≤ 2) : lnC k = nI k := if_neg (by omega)
def rwIs (ln sz : Nat → Nat) (fl fz : Nat → Int32) : Prop := ∀ r, r < 8 → fl r = lnC (ln r) ∧ fz r = nI (sz r) ∧ sz r ≤ 40 ∧ ln r ≤ 3
theorem rwIs_0 {ln sz : Nat → Nat} {fl fz : Nat → Int32} (h : rwIs ln sz fl fz) {r : Nat} (hr : r < 8) : fl r = lnC (ln r) := (h r hr).1
theorem rwIs_1 {ln sz : Nat → Nat} {fl fz : Nat → Int32} (h : rwIs ln sz fl fz) {r : Nat} (hr : r < 8) : fz r = nI (sz r) := (h r hr).2.1
/-- n places from x on are there, of z -/
def rwP (z : Nat) (x n : Int32) : Prop := 0 ≤ x.toInt ∧ 0 ≤ n.toInt ∧ x.toInt + n.toInt ≤ z
theorem rw_0 {x : Int32} (h : ¬ x < 0) : 0 ≤ x.toInt := by
  have h3 : ¬ x.toInt < 0 := fun q => h (Int32.lt_iff_toInt_lt.mpr (by rw [Int32.toInt_zero]; exact q))
  omega
theorem rw_sub {z : Nat} {n : Int32} (hz : z ≤ 40) (h : ¬ n < 0) : (nI z - n).toInt = (z : Int) - n.toInt := by
  have h1 : 0 ≤ n.toInt := by
    have := rw_0 h
    omega
  have h2 := fb_rng n
  have h3 : (nI z).toInt = (z : Int) := nI_toInt (by omega)
  rw [fb_subI (by rw [h3]; omega) (by rw [h3]; omega), h3]
theorem rwP_1 {z : Nat} {x n : Int32} (hz : z ≤ 40) (c1 : ¬ x < 0) (c2 : ¬ n < 0) (c3 : ¬ nI z - n < x) : rwP z x n := by
  have h : ¬ (nI z - n).toInt < x.toInt := fun q => c3 (Int32.lt_iff_toInt_lt.mpr q)
  rw [rw_sub hz c2] at h
  exact ⟨rw_0 c1, rw_0 c2, by omega⟩
theorem rwP_2 {z : Nat} {x n : Int32} (c1 : x < 0) : ¬ rwP z x n := fun q => by
  have h := Int32.lt_iff_toInt_lt.mp c1
  rw [Int32.toInt_zero] at h
  have := q.1
  omega
theorem rwP_3 {z : Nat} {x n : Int32} (c1 : n < 0) : ¬ rwP z x n := fun q => by
  have h := Int32.lt_iff_toInt_lt.mp c1
  rw [Int32.toInt_zero] at h
  have := q.2.1
  omega
theorem rwP_4 {z : Nat} {x n : Int32} (hz : z ≤ 40) (c2 : ¬ n < 0) (c3 : nI z - n < x) : ¬ rwP z x n := fun q => by
  have h := Int32.lt_iff_toInt_lt.mp c3
  rw [rw_sub hz c2] at h
  have := q.2.2
  omega
def rwPr (ln : Nat → Nat) : Nat → Nat
  | 0 => 0
  | k + 1 => rwPr ln k + (if ln k = 3 then 0 else 1)
theorem rwPr_le (ln : Nat → Nat) : ∀ k, rwPr ln k ≤ k
  | 0 => Nat.le_refl 0
  | k + 1 => by
    have := rwPr_le ln k
    rw [rwPr]
    split <;> omega
/-- the lowest bits of v, as many as the lane has -/
def lowB (k : Nat) (v : Int32) : Int32 := if k = 0 then v.toInt8.toInt32 else if k = 1 then v.toInt16.toInt32 else v
theorem q_02 {k : Nat} (h : k ≤ 2) : k = 0 ∨ k = 1 ∨ k = 2 := by omega
set_option maxHeartbeats 4000000 in
set_option maxRecDepth 100000 in
theorem c_X4_isRow (l : Launch) (D : va_G) (cy : Nat → ClassId) (r0 rl rz ri : Nat) (gI : Nat → Option Nat) (gR : Nat → Nat) (hgI : ∀ r, r < 8 → gI r = some (gR r)) (fl fz : Nat → Int32) (it : Nat → Nat → Int32) (ln sz : Nat → Nat) (hrw : rwIs ln sz fl fz) (x : Int32) : q_Rd l yX4_isRow wsX4_isRow 1 D cy ([(r0, .inr (4, [.ref rl, .ref rz, .ref ri])), (rl, .inl (cy 0, 8, .inl fl)), (rz, .inl (cy 0, 8, .inl fz)), (ri, .inl (cy 3, 8, .inr (.inr (.inr (.inr gI)))))] ++ (famI cy 8 40 gR it ++ [])) [.ref r0, .int (x)] (fun r => r = nI 1 ∧ (∃ k : Nat, k < 8 ∧ x = nI k) ∨ r = nI 0 ∧ ¬ (∃ k : Nat, k < 8 ∧ x = nI k)) := by
  refine q_rd_of (cc := cX4_isRow) (maxL := 2) (ret := (some .boolean)) (by decide) rfl (Nat.le_of_ble_eq_true rfl) ?_
  intro pg en s mi args below meth cd hC hP hK ls hl
  obtain ⟨hx, hb, hr, hml, hown, hts, hlocks⟩ := hC
  have hl : lv_has ls 2 [(0, .ref r0), (1, .int (x))] := hl
  refine lv_iload_n hx hb dX4_isRow_0 rfl (lv_at hl 1 rfl) ?_
  refine lv_if_lt (tgt := 14) hx hb dX4_isRow_1 (by decide) (fun c1 => ?_) (fun c1 => ?_)
  · refine lv_iconst (v := nI 0) hx hb dX4_isRow_14 (by decide) ?_
    exact q_zret (v := nI 0) hx hb hr hlocks dX4_isRow_15 (by decide) (Or.inr ⟨rfl, q_has2 c1 (by decide)⟩)
  · refine lv_iload_n hx hb dX4_isRow_4 rfl (lv_at hl 1 rfl) ?_
    refine lv_bipush (v := nI 8) hx hb dX4_isRow_5 (by decide) ?_
    refine lv_icmp_ge (tgt := 14) hx hb dX4_isRow_7 (by decide) (fun c2 => ?_) (fun c2 => ?_)
    · refine lv_iconst (v := nI 0) hx hb dX4_isRow_14 (by decide) ?_
      exact q_zret (v := nI 0) hx hb hr hlocks dX4_isRow_15 (by decide) (Or.inr ⟨rfl, q_has3 c2 (by decide)⟩)
    · refine lv_iconst (v := nI 1) hx hb dX4_isRow_10 (by decide) ?_
      refine lv_goto (tgt := 15) hx hb dX4_isRow_11 (by decide) ?_
      exact q_zret (v := nI 1) hx hb hr hlocks dX4_isRow_15 (by decide) (Or.inl ⟨rfl, q_has1 c1 c2 (by decide)⟩)
theorem nX4_isMissing_0 : ∀ w ∈ wsX40, w ∈ wsX4_isMissing := by decide +kernel
theorem mX4_isMissing_1 : Cond.fieldLink RX4 9 "ClueLeave$Rows" "lanes" "[I" ∈ wsX4_isMissing := by decide +kernel
set_option maxHeartbeats 4000000 in
set_option maxRecDepth 100000 in
theorem c_X4_isMissing (l : Launch) (D : va_G) (cy : Nat → ClassId) (r0 rl rz ri : Nat) (gI : Nat → Option Nat) (gR : Nat → Nat) (hgI : ∀ r, r < 8 → gI r = some (gR r)) (fl fz : Nat → Int32) (it : Nat → Nat → Int32) (ln sz : Nat → Nat) (hrw : rwIs ln sz fl fz) (k : Nat) (hk : k < 8) : q_Rd l yX4_isMissing wsX4_isMissing 1 D cy ([(r0, .inr (4, [.ref rl, .ref rz, .ref ri])), (rl, .inl (cy 0, 8, .inl fl)), (rz, .inl (cy 0, 8, .inl fz)), (ri, .inl (cy 3, 8, .inr (.inr (.inr (.inr gI)))))] ++ (famI cy 8 40 gR it ++ [])) [.ref r0, .int (nI k)] (fun r => r = nI 1 ∧ ln k = 3 ∨ r = nI 0 ∧ ¬ ln k = 3) := by
  refine q_rd_of (cc := cX4_isMissing) (maxL := 2) (ret := (some .boolean)) (by decide) rfl (Nat.le_of_ble_eq_true rfl) ?_
  intro pg en s mi args below meth cd hC hP hK ls hl
  obtain ⟨hx, hb, hr, hml, hown, hts, hlocks⟩ := hC
  have hl : lv_has ls 2 [(0, .ref r0), (1, .int (nI k))] := hl
  have hk3 := (hrw k hk).2.2.2
  refine lv_aload_n hx hb dX4_isMissing_0 rfl (lv_at hl 0 rfl) ?_
  refine va_get (D := D) (ci := 4) (v := .ref rl) (C := RX4) (T := TX4) (N := 3) hx hb hts nX4_isMissing_0 hown hK.1 hP 0 rfl rfl 0 (by decide) (hts _ mX4_isMissing_1) (fun _ h9 => h9) rfl dX4_isMissing_1 ?_
  refine lv_iload_n hx hb dX4_isMissing_4 rfl (lv_at hl 1 rfl) ?_
  refine q_iald (j := k) (v := lnC (ln k)) hx hb hK hP 1 rfl (by omega) (by decide) (rwIs_0 hrw (by omega)) dX4_isMissing_5 ?_
  refine lv_iconst (v := (-1)) hx hb dX4_isMissing_6 (by decide) ?_
  refine lv_icmp_ne (tgt := 14) hx hb dX4_isMissing_7 (by decide) (fun c1 => ?_) (fun c1 => ?_)
  · refine lv_iconst (v := nI 0) hx hb dX4_isMissing_14 (by decide) ?_
    exact q_zret (v := nI 0) hx hb hr hlocks dX4_isMissing_15 (by decide) (Or.inr ⟨rfl, fun q => c1 ((lnC_m hk3).mpr q)⟩)
  · refine lv_iconst (v := nI 1) hx hb dX4_isMissing_10 (by decide) ?_
    refine lv_goto (tgt := 15) hx hb dX4_isMissing_11 (by decide) ?_
    exact q_zret (v := nI 1) hx hb hr hlocks dX4_isMissing_15 (by decide) (Or.inl ⟨rfl, (lnC_m hk3).mp c1⟩)
theorem nX4_laneOf_0 : ∀ w ∈ wsX40, w ∈ wsX4_laneOf := by decide +kernel
theorem mX4_laneOf_1 : Cond.fieldLink RX4 9 "ClueLeave$Rows" "lanes" "[I" ∈ wsX4_laneOf := by decide +kernel
set_option maxHeartbeats 4000000 in
set_option maxRecDepth 100000 in
theorem c_X4_laneOf (l : Launch) (D : va_G) (cy : Nat → ClassId) (r0 rl rz ri : Nat) (gI : Nat → Option Nat) (gR : Nat → Nat) (hgI : ∀ r, r < 8 → gI r = some (gR r)) (fl fz : Nat → Int32) (it : Nat → Nat → Int32) (ln sz : Nat → Nat) (hrw : rwIs ln sz fl fz) (k : Nat) (hk : k < 8) : q_Rd l yX4_laneOf wsX4_laneOf 1 D cy ([(r0, .inr (4, [.ref rl, .ref rz, .ref ri])), (rl, .inl (cy 0, 8, .inl fl)), (rz, .inl (cy 0, 8, .inl fz)), (ri, .inl (cy 3, 8, .inr (.inr (.inr (.inr gI)))))] ++ (famI cy 8 40 gR it ++ [])) [.ref r0, .int (nI k)] (fun r => r = lnC (ln k)) := by
  refine q_rd_of (cc := cX4_laneOf) (maxL := 2) (ret := (some .int)) (by decide) rfl (Nat.le_of_ble_eq_true rfl) ?_
  intro pg en s mi args below meth cd hC hP hK ls hl
  obtain ⟨hx, hb, hr, hml, hown, hts, hlocks⟩ := hC
  have hl : lv_has ls 2 [(0, .ref r0), (1, .int (nI k))] := hl
  refine lv_aload_n hx hb dX4_laneOf_0 rfl (lv_at hl 0 rfl) ?_
  refine va_get (D := D) (ci := 4) (v := .ref rl) (C := RX4) (T := TX4) (N := 3) hx hb hts nX4_laneOf_0 hown hK.1 hP 0 rfl rfl 0 (by decide) (hts _ mX4_laneOf_1) (fun _ h9 => h9) rfl dX4_laneOf_1 ?_
  refine lv_iload_n hx hb dX4_laneOf_4 rfl (lv_at hl 1 rfl) ?_
  refine q_iald (j := k) (v := lnC (ln k)) hx hb hK hP 1 rfl (by omega) (by decide) (rwIs_0 hrw (by omega)) dX4_laneOf_5 ?_
  exact q_iret (v := lnC (ln k)) hx hb hr hlocks dX4_laneOf_6 (rfl)
theorem nX4_hasPlaces_0 : ∀ w ∈ wsX40, w ∈ wsX4_hasPlaces := by decide +kernel
theorem mX4_hasPlaces_1 : Cond.fieldLink RX4 13 "ClueLeave$Rows" "sizes" "[I" ∈ wsX4_hasPlaces := by decide +kernel
set_option maxHeartbeats 4000000 in
set_option maxRecDepth 100000 in
theorem c_X4_hasPlaces (l : Launch) (D : va_G) (cy : Nat → ClassId) (r0 rl rz ri : Nat) (gI : Nat → Option Nat) (gR : Nat → Nat) (hgI : ∀ r, r < 8 → gI r = some (gR r)) (fl fz : Nat → Int32) (it : Nat → Nat → Int32) (ln sz : Nat → Nat) (hrw : rwIs ln sz fl fz) (k : Nat) (hk : k < 8) (x n : Int32) : q_Rd l yX4_hasPlaces wsX4_hasPlaces 1 D cy ([(r0, .inr (4, [.ref rl, .ref rz, .ref ri])), (rl, .inl (cy 0, 8, .inl fl)), (rz, .inl (cy 0, 8, .inl fz)), (ri, .inl (cy 3, 8, .inr (.inr (.inr (.inr gI)))))] ++ (famI cy 8 40 gR it ++ [])) [.ref r0, .int (nI k), .int (x), .int (n)] (fun r => r = nI 1 ∧ rwP (sz k) x n ∨ r = nI 0 ∧ ¬ rwP (sz k) x n) := by
  refine q_rd_of (cc := cX4_hasPlaces) (maxL := 4) (ret := (some .boolean)) (by decide) rfl (Nat.le_of_ble_eq_true rfl) ?_
  intro pg en s mi args below meth cd hC hP hK ls hl
  obtain ⟨hx, hb, hr, hml, hown, hts, hlocks⟩ := hC
  have hl : lv_has ls 4 [(0, .ref r0), (1, .int (nI k)), (2, .int (x)), (3, .int (n))] := hl
  have hz := (hrw k hk).2.2.1
  refine lv_iload_n hx hb dX4_hasPlaces_0 rfl (lv_at hl 2 rfl) ?_
  refine lv_if_lt (tgt := 24) hx hb dX4_hasPlaces_1 (by decide) (fun c1 => ?_) (fun c1 => ?_)
  · refine lv_iconst (v := nI 0) hx hb dX4_hasPlaces_24 (by decide) ?_
    exact q_zret (v := nI 0) hx hb hr hlocks dX4_hasPlaces_25 (by decide) (Or.inr ⟨rfl, rwP_2 c1⟩)
  · refine lv_iload_n hx hb dX4_hasPlaces_4 rfl (lv_at hl 3 rfl) ?_
    refine lv_if_lt (tgt := 24) hx hb dX4_hasPlaces_5 (by decide) (fun c2 => ?_) (fun c2 => ?_)
    · refine lv_iconst (v := nI 0) hx hb dX4_hasPlaces_24 (by decide) ?_
      exact q_zret (v := nI 0) hx hb hr hlocks dX4_hasPlaces_25 (by decide) (Or.inr ⟨rfl, rwP_3 c2⟩)
    · refine lv_iload_n hx hb dX4_hasPlaces_8 rfl (lv_at hl 2 rfl) ?_
      refine lv_aload_n hx hb dX4_hasPlaces_9 rfl (lv_at hl 0 rfl) ?_
      refine va_get (D := D) (ci := 4) (v := .ref rz) (C := RX4) (T := TX4) (N := 3) hx hb hts nX4_hasPlaces_0 hown hK.1 hP 0 rfl rfl 1 (by decide) (hts _ mX4_hasPlaces_1) (fun _ h9 => h9) rfl dX4_hasPlaces_10 ?_
      refine lv_iload_n hx hb dX4_hasPlaces_13 rfl (lv_at hl 1 rfl) ?_
      refine q_iald (j := k) (v := nI (sz k)) hx hb hK hP 2 rfl (by omega) (by decide) (rwIs_1 hrw (by omega)) dX4_hasPlaces_14 ?_
      refine lv_iload_n hx hb dX4_hasPlaces_15 rfl (lv_at hl 3 rfl) ?_
      refine lv_isub hx hb dX4_hasPlaces_16 ?_
      refine lv_icmp_gt (tgt := 24) hx hb dX4_hasPlaces_17 (by decide) (fun c3 => ?_) (fun c3 => ?_)
      · refine lv_iconst (v := nI 0) hx hb dX4_hasPlaces_24 (by decide) ?_
        exact q_zret (v := nI 0) hx hb hr hlocks dX4_hasPlaces_25 (by decide) (Or.inr ⟨rfl, rwP_4 hz c2 c3⟩)
      · refine lv_iconst (v := nI 1) hx hb dX4_hasPlaces_20 (by decide) ?_
        refine lv_goto (tgt := 25) hx hb dX4_hasPlaces_21 (by decide) ?_
        exact q_zret (v := nI 1) hx hb hr hlocks dX4_hasPlaces_25 (by decide) (Or.inl ⟨rfl, rwP_1 hz c1 c2 c3⟩)
theorem nX4_itemAt_0 : ∀ w ∈ wsX40, w ∈ wsX4_itemAt := by decide +kernel
theorem mX4_itemAt_1 : Cond.fieldLink RX4 18 "ClueLeave$Rows" "items" "[[I" ∈ wsX4_itemAt := by decide +kernel
set_option maxHeartbeats 4000000 in
set_option maxRecDepth 100000 in
theorem c_X4_itemAt (l : Launch) (D : va_G) (cy : Nat → ClassId) (r0 rl rz ri : Nat) (gI : Nat → Option Nat) (gR : Nat → Nat) (hgI : ∀ r, r < 8 → gI r = some (gR r)) (fl fz : Nat → Int32) (it : Nat → Nat → Int32) (ln sz : Nat → Nat) (hrw : rwIs ln sz fl fz) (k j : Nat) (hk : k < 8) (hj : j < 40) : q_Rd l yX4_itemAt wsX4_itemAt 1 D cy ([(r0, .inr (4, [.ref rl, .ref rz, .ref ri])), (rl, .inl (cy 0, 8, .inl fl)), (rz, .inl (cy 0, 8, .inl fz)), (ri, .inl (cy 3, 8, .inr (.inr (.inr (.inr gI)))))] ++ (famI cy 8 40 gR it ++ [])) [.ref r0, .int (nI k), .int (nI j)] (fun r => r = it k j) := by
  refine q_rd_of (cc := cX4_itemAt) (maxL := 3) (ret := (some .int)) (by decide) rfl (Nat.le_of_ble_eq_true rfl) ?_
  intro pg en s mi args below meth cd hC hP hK ls hl
  obtain ⟨hx, hb, hr, hml, hown, hts, hlocks⟩ := hC
  have hl : lv_has ls 3 [(0, .ref r0), (1, .int (nI k)), (2, .int (nI j))] := hl
  refine lv_aload_n hx hb dX4_itemAt_0 rfl (lv_at hl 0 rfl) ?_
  refine va_get (D := D) (ci := 4) (v := .ref ri) (C := RX4) (T := TX4) (N := 3) hx hb hts nX4_itemAt_0 hown hK.1 hP 0 rfl rfl 2 (by decide) (hts _ mX4_itemAt_1) (fun _ h9 => h9) rfl dX4_itemAt_1 ?_
  refine lv_iload_n hx hb dX4_itemAt_4 rfl (lv_at hl 1 rfl) ?_
  refine q_aald3 (j := k) (v := (gR k)) hx hb hK hP 3 rfl (by omega) (by decide) (hgI _ (by omega)) dX4_itemAt_5 ?_
  refine lv_iload_n hx hb dX4_itemAt_6 rfl (lv_at hl 2 rfl) ?_
  refine q_iald (j := j) (v := it k j) hx hb hK hP (4 + k) (famI_get (m := 4) rfl (by omega)) (by omega) (by decide) (rfl) dX4_itemAt_7 ?_
  exact q_iret (v := it k j) hx hb hr hlocks dX4_itemAt_8 (rfl)
set_option maxHeartbeats 4000000 in
set_option maxRecDepth 100000 in
theorem c_X4_present (l : Launch) (D : va_G) (cy : Nat → ClassId) (r0 rl rz ri : Nat) (gI : Nat → Option Nat) (gR : Nat → Nat) (hgI : ∀ r, r < 8 → gI r = some (gR r)) (fl fz : Nat → Int32) (it : Nat → Nat → Int32) (ln sz : Nat → Nat) (hrw : rwIs ln sz fl fz) : q_Rd l yX4_present wsX4_present 2 D cy ([(r0, .inr (4, [.ref rl, .ref rz, .ref ri])), (rl, .inl (cy 0, 8, .inl fl)), (rz, .inl (cy 0, 8, .inl fz)), (ri, .inl (cy 3, 8, .inr (.inr (.inr (.inr gI)))))] ++ (famI cy 8 40 gR it ++ [])) [.ref r0] (fun r => r = nI (rwPr ln 8)) := by
  refine q_rd_of (cc := cX4_present) (maxL := 3) (ret := (some .int)) (by decide) rfl (Nat.le_of_ble_eq_true rfl) ?_
  intro pg en s mi args below meth cd hC hP hK ls hl
  obtain ⟨hx, hb, hr, hml, hown, hts, hlocks⟩ := hC
  have hl : lv_has ls 3 [(0, .ref r0)] := hl
  refine lv_iconst (v := nI 0) hx hb dX4_present_0 (by decide) ?_
  refine lv_istore_n (lv' := [(1, .int (nI 0)), (0, .ref r0)]) hx hb dX4_present_1 rfl hl (by decide) rfl (fun ls hl => ?_)
  refine lv_iconst (v := nI 0) hx hb dX4_present_2 (by decide) ?_
  refine lv_istore_n (lv' := [(2, .int (nI 0)), (1, .int (nI 0)), (0, .ref r0)]) hx hb dX4_present_3 rfl hl (by decide) rfl (fun ls hl => ?_)
  have L4_6 : ∀ (fu i : Nat), i ≤ 8 → 8 < i + fu → rwPr ln i ≤ i → ∀ ls : Array Slot, lv_has ls 3 [(0, .ref r0), (1, .int (nI (rwPr ln i))), (2, .int (nI i))] → W pg l en (q_rm 2) s mi args below meth cd s.heap [] 0 0 (MQ below (vp_Si (fun r => r = nI (rwPr ln 8))) args s 0 0 (fun _ => False)) (F0 mi 4 ls []) := by
    intro fu
    induction fu with
    | zero =>
      intro i h1 h2
      exact absurd h2 (by omega)
    | succ fu ih4 =>
      intro i h1_4 h2_4 hf4_0 ls hl
      refine lv_iload_n hx hb dX4_present_4 rfl (lv_at hl 2 rfl) ?_
      refine lv_bipush (v := nI 8) hx hb dX4_present_5 (by decide) ?_
      refine q_icmp_ge (tgt := 27) hx hb dX4_present_7 (by decide) (by omega) (by decide) (fun c1 => ?_) (fun c1 => ?_)
      · refine lv_iload_n hx hb dX4_present_27 rfl (lv_at hl 1 rfl) ?_
        exact q_iret (v := nI (rwPr ln i)) hx hb hr hlocks dX4_present_28 (by rw [show i = 8 by omega])
      · refine lv_aload_n hx hb dX4_present_10 rfl (lv_at hl 0 rfl) ?_
        refine lv_iload_n hx hb dX4_present_11 rfl (lv_at hl 2 rfl) ?_
        refine q_rV (As := [.int (nI i)]) (rest := []) ⟨hx, hb, hml, hown, hts⟩ (c_X4_isMissing l D cy r0 rl rz ri gI gR hgI fl fz it ln sz hrw i (by omega)) (cwV 1 hts gX4_present_X4_isMissing rfl rfl rfl (by decide +kernel) ⟨Nat.le_of_ble_eq_true rfl, Nat.le_of_ble_eq_true rfl⟩) hP hK [0, 1, 2, 3, 4, 5, 6, 7, 8, 9, 10, 11] rfl 0 rfl rfl rfl rfl hl.1 rfl (Nat.le_of_ble_eq_true rfl) dX4_present_12 ⟨Nat.zero_le _, Nat.zero_le _⟩ (fun r2 hr2 => ?_)
        rcases hr2 with ⟨rfl, b3⟩ | ⟨rfl, b3⟩
        · refine lv_if_ne (tgt := 21) hx hb dX4_present_15 (by decide) (fun _ => ?_) (fun c9 => absurd c9 (by decide))
          refine lv_iinc (v := nI (i + 1)) (lv' := [(2, .int (nI (i + 1))), (0, .ref r0), (1, .int (nI (rwPr ln i)))]) hx hb dX4_present_21 hl (k := 2) rfl (q_inc i 1) (by decide) rfl (fun ls hl => ?_)
          refine lv_goto (tgt := 4) hx hb dX4_present_24 (by decide) ?_
          exact ih4 (i + 1) (by omega) (by omega) (rwPr_le _ _) ls (q_lset (lv_sub (l' := [(0, .ref r0), (1, .int (nI (rwPr ln i))), (2, .int (nI (i + 1)))]) hl [1, 2, 0] rfl) (q_c1 (f := fun z1 => ([(0, .ref r0), (1, .int (z1)), (2, .int (nI (i + 1)))] : List (Nat × Value))) (show (nI (rwPr ln i) : Int32) = nI (rwPr ln (i + 1)) from by simp [rwPr, b3])))
        · refine lv_if_ne (tgt := 21) hx hb dX4_present_15 (by decide) (fun c9 => absurd (by decide) c9) (fun _ => ?_)
          refine lv_iinc (v := nI ((rwPr ln i) + 1)) (lv' := [(1, .int (nI ((rwPr ln i) + 1))), (0, .ref r0), (2, .int (nI i))]) hx hb dX4_present_18 hl (k := 1) rfl (q_inc (rwPr ln i) 1) (by decide) rfl (fun ls hl => ?_)
          refine lv_iinc (v := nI (i + 1)) (lv' := [(2, .int (nI (i + 1))), (1, .int (nI ((rwPr ln i) + 1))), (0, .ref r0)]) hx hb dX4_present_21 hl (k := 2) rfl (q_inc i 1) (by decide) rfl (fun ls hl => ?_)
          refine lv_goto (tgt := 4) hx hb dX4_present_24 (by decide) ?_
          exact ih4 (i + 1) (by omega) (by omega) (rwPr_le _ _) ls (q_lset (lv_sub (l' := [(0, .ref r0), (1, .int (nI ((rwPr ln i) + 1))), (2, .int (nI (i + 1)))]) hl [2, 1, 0] rfl) (q_c1 (f := fun z1 => ([(0, .ref r0), (1, .int (z1)), (2, .int (nI (i + 1)))] : List (Nat × Value))) (show (nI ((rwPr ln i) + 1) : Int32) = nI (rwPr ln (i + 1)) from by simp [rwPr, b3])))
  exact L4_6 (8 + 1) 0 (by omega) (by omega) (Nat.le_refl 0) ls (q_lset (lv_sub (l' := [(0, .ref r0), (1, .int (nI 0)), (2, .int (nI 0))]) hl [2, 1, 0] rfl) (q_c1 (f := fun z1 => ([(0, .ref r0), (1, .int (z1)), (2, .int (nI 0))] : List (Nat × Value))) (show (nI 0 : Int32) = nI (rwPr ln 0) from rfl)))
set_option maxHeartbeats 4000000 in
set_option maxRecDepth 100000 in
theorem c_X4_lowestBits (l : Launch) (D : va_G) (cy : Nat → ClassId) (k : Nat) (hk : k ≤ 2) (v : Int32) : q_Rd l yX4_lowestBits wsX4_lowestBits 1 D cy [] [.int (nI k), .int (v)] (fun r => r = lowB k v) := by
  refine q_rd_of (cc := cX4_lowestBits) (maxL := 2) (ret := (some .int)) (by decide) rfl (Nat.le_of_ble_eq_true rfl) ?_
  intro pg en s mi args below meth cd hC hP hK ls hl
  obtain ⟨hx, hb, hr, hml, hown, hts, hlocks⟩ := hC
  have hl : lv_has ls 2 [(0, .int (nI k)), (1, .int (v))] := hl
  refine lv_iload_n hx hb dX4_lowestBits_0 rfl (lv_at hl 0 rfl) ?_
  rcases q_02 hk with h0 | h0 | h0
  · refine q_top (y := nI 0) (by rw [h0]) ?_
    refine lv_lookup (off := 27) (tgt := 28) hx hb dX4_lowestBits_1 (by decide) (by decide) (by decide) ?_
    refine lv_iload_n hx hb dX4_lowestBits_28 rfl (lv_at hl 1 rfl) ?_
    refine lv_i2b hx hb dX4_lowestBits_29 rfl ?_
    exact q_iret (v := v.toInt8.toInt32) hx hb hr hlocks dX4_lowestBits_30 (by rw [h0]; rfl)
  · refine q_top (y := nI 1) (by rw [h0]) ?_
    refine lv_lookup (off := 30) (tgt := 31) hx hb dX4_lowestBits_1 (by decide) (by decide) (by decide) ?_
    refine lv_iload_n hx hb dX4_lowestBits_31 rfl (lv_at hl 1 rfl) ?_
    refine lv_i2s hx hb dX4_lowestBits_32 rfl ?_
    exact q_iret (v := v.toInt16.toInt32) hx hb hr hlocks dX4_lowestBits_33 (by rw [h0]; rfl)
  · refine q_top (y := nI 2) (by rw [h0]) ?_
    refine lv_lookup (off := 33) (tgt := 34) hx hb dX4_lowestBits_1 (by decide) (by decide) (by decide) ?_
    refine lv_iload_n hx hb dX4_lowestBits_34 rfl (lv_at hl 1 rfl) ?_
    exact q_iret (v := v) hx hb hr hlocks dX4_lowestBits_35 (by rw [h0]; rfl)
theorem nX4_make_0 : ∀ w ∈ wsX40, w ∈ wsX4_make := by decide +kernel
theorem mX4_make_1 : Cond.fieldLink RX4 9 "ClueLeave$Rows" "lanes" "[I" ∈ wsX4_make := by decide +kernel
theorem mX4_make_2 : Cond.fieldLink RX4 13 "ClueLeave$Rows" "sizes" "[I" ∈ wsX4_make := by decide +kernel
theorem mX4_make_3 : Cond.fieldLink RX4 18 "ClueLeave$Rows" "items" "[[I" ∈ wsX4_make := by decide +kernel
set_option maxHeartbeats 4000000 in
set_option maxRecDepth 100000 in
theorem c_X4_make (l : Launch) (D : va_G) (cy : Nat → ClassId) (r0 rl rz ri : Nat) (gI : Nat → Option Nat) (gR : Nat → Nat) (hgI : ∀ r, r < 8 → gI r = some (gR r)) (fl fz : Nat → Int32) (it : Nat → Nat → Int32) (ln sz : Nat → Nat) (hrw : rwIs ln sz fl fz) (k : Nat) (hk : k < 8) (x y : Int32) : q_Wv l yX4_make wsX4_make 2 D cy ([(r0, .inr (4, [.ref rl, .ref rz, .ref ri])), (rl, .inl (cy 0, 8, .inl fl)), (rz, .inl (cy 0, 8, .inl fz)), (ri, .inl (cy 3, 8, .inr (.inr (.inr (.inr gI)))))] ++ (famI cy 8 40 gR it ++ [])) [.ref r0, .int (nI k), .int (x), .int (y)] (fun u => ∃ (g : Nat → Int32), (∀ j, j < 40 → g j = 0) ∧ u = ([(r0, .inr (4, [.ref rl, .ref rz, .ref ri])), (rl, .inl (cy 0, 8, .inl (upd fl k x))), (rz, .inl (cy 0, 8, .inl (upd fz k y))), (ri, .inl (cy 3, 8, .inr (.inr (.inr (.inr gI)))))] ++ (famI cy 8 40 gR (fun j => if j = k then g else it j) ++ []))) := by
  refine q_wv_of (cc := cX4_make) (maxL := 4) (ret := none) (by decide) rfl (Nat.le_of_ble_eq_true rfl) ?_
  intro pg en s mi args below meth cd A hC hA hK H locs hP hD hS ls hl
  obtain ⟨hx, hb, hr, hml, hown, hts, hlocks⟩ := hC
  have hl : lv_has ls 4 [(0, .ref r0), (1, .int (nI k)), (2, .int (x)), (3, .int (y))] := hl
  refine lv_aload_n hx hb dX4_make_0 rfl (lv_at hl 0 rfl) ?_
  refine va_get (D := D) (ci := 4) (v := .ref rl) (C := RX4) (T := TX4) (N := 3) hx hb hts nX4_make_0 hown hK.1 hP 0 rfl rfl 0 (by decide) (hts _ mX4_make_1) (fun _ h9 => h9) rfl dX4_make_1 ?_
  refine lv_iload_n hx hb dX4_make_4 rfl (lv_at hl 1 rfl) ?_
  refine lv_iload_n hx hb dX4_make_5 rfl (lv_at hl 2 rfl) ?_
  refine q_iast (j := k) hx hb hK hP hD hS 1 rfl (by omega) (by decide) dX4_make_6 (fun H locs hP hD hS => ?_)
  have hP : va_P D vwCl ([(r0, .inr (4, [.ref rl, .ref rz, .ref ri])), (rl, .inl (cy 0, 8, .inl (upd fl k x))), (rz, .inl (cy 0, 8, .inl fz)), (ri, .inl (cy 3, 8, .inr (.inr (.inr (.inr gI)))))] ++ (famI cy 8 40 gR it ++ [])) H := hP
  have hD : va_D A ([(r0, .inr (4, [.ref rl, .ref rz, .ref ri])), (rl, .inl (cy 0, 8, .inl (upd fl k x))), (rz, .inl (cy 0, 8, .inl fz)), (ri, .inl (cy 3, 8, .inr (.inr (.inr (.inr gI)))))] ++ (famI cy 8 40 gR it ++ [])) := hD
  refine lv_aload_n hx hb dX4_make_7 rfl (lv_at hl 0 rfl) ?_
  refine va_get (D := D) (ci := 4) (v := .ref rz) (C := RX4) (T := TX4) (N := 3) hx hb hts nX4_make_0 hown hK.1 hP 0 rfl rfl 1 (by decide) (hts _ mX4_make_2) (fun _ h9 => h9) rfl dX4_make_8 ?_
  refine lv_iload_n hx hb dX4_make_11 rfl (lv_at hl 1 rfl) ?_
  refine lv_iload_n hx hb dX4_make_12 rfl (lv_at hl 3 rfl) ?_
  refine q_iast (j := k) hx hb hK hP hD hS 2 rfl (by omega) (by decide) dX4_make_13 (fun H locs hP hD hS => ?_)
  have hP : va_P D vwCl ([(r0, .inr (4, [.ref rl, .ref rz, .ref ri])), (rl, .inl (cy 0, 8, .inl (upd fl k x))), (rz, .inl (cy 0, 8, .inl (upd fz k y))), (ri, .inl (cy 3, 8, .inr (.inr (.inr (.inr gI)))))] ++ (famI cy 8 40 gR it ++ [])) H := hP
  have hD : va_D A ([(r0, .inr (4, [.ref rl, .ref rz, .ref ri])), (rl, .inl (cy 0, 8, .inl (upd fl k x))), (rz, .inl (cy 0, 8, .inl (upd fz k y))), (ri, .inl (cy 3, 8, .inr (.inr (.inr (.inr gI)))))] ++ (famI cy 8 40 gR it ++ [])) := hD
  refine lv_aload_n hx hb dX4_make_14 rfl (lv_at hl 0 rfl) ?_
  refine va_get (D := D) (ci := 4) (v := .ref ri) (C := RX4) (T := TX4) (N := 3) hx hb hts nX4_make_0 hown hK.1 hP 0 rfl rfl 2 (by decide) (hts _ mX4_make_3) (fun _ h9 => h9) rfl dX4_make_15 ?_
  refine lv_iload_n hx hb dX4_make_18 rfl (lv_at hl 1 rfl) ?_
  refine q_aald3 (j := k) (v := (gR k)) hx hb hK hP 3 rfl (by omega) (by decide) (hgI _ (by omega)) dX4_make_19 ?_
  refine lv_iconst (v := nI 0) hx hb dX4_make_20 (by decide) ?_
  refine q_wvS1 (P1 := fun e1 => ∃ g : Nat → Int32, (∀ j, j < 40 → g j = nI 0) ∧ e1 = .inl (cy 0, 40, .inl g)) (As := [.ref (gR k), .int (nI 0)]) (rest := []) ⟨hx, hb, hml, hown, hts⟩ (c_J7_fill_53178 l D cy (gR k) 40 (by decide) (it k) (nI 0)) (va_cwS 2 hts gX4_make_J7_fill_53178 rfl rfl rfl (by decide +kernel) ⟨Nat.le_of_ble_eq_true rfl, Nat.le_of_ble_eq_true rfl⟩) hP hD hS hA hK (4 + k) (famI_get (m := 4) rfl (by omega)) (fun u hu => by obtain ⟨g, h1, rfl⟩ := hu; exact ⟨_, rfl, g, h1, rfl⟩) rfl hl.1 rfl (Nat.le_of_ble_eq_true rfl) dX4_make_21 ⟨Nat.zero_le _, Nat.zero_le _⟩ (fun u2 H locs hr1 hP hD hS => ?_)
  obtain ⟨g3, hg3, rfl⟩ := hr1
  rw [famI_set (m := 4) rfl (by omega)] at hP hD
  have hP : va_P D vwCl ([(r0, .inr (4, [.ref rl, .ref rz, .ref ri])), (rl, .inl (cy 0, 8, .inl (upd fl k x))), (rz, .inl (cy 0, 8, .inl (upd fz k y))), (ri, .inl (cy 3, 8, .inr (.inr (.inr (.inr gI)))))] ++ (famI cy 8 40 gR (fun z9 => if z9 = k then g3 else it z9) ++ [])) H := hP
  have hD : va_D A ([(r0, .inr (4, [.ref rl, .ref rz, .ref ri])), (rl, .inl (cy 0, 8, .inl (upd fl k x))), (rz, .inl (cy 0, 8, .inl (upd fz k y))), (ri, .inl (cy 3, 8, .inr (.inr (.inr (.inr gI)))))] ++ (famI cy 8 40 gR (fun z9 => if z9 = k then g3 else it z9) ++ [])) := hD
  have hP9 := hP
  have hD9 := hD
  exact q_wvret hx hb hr hlocks dX4_make_24 hP9 hD9 hS (⟨g3, hg3, rfl⟩)
theorem nX4_put_0 : ∀ w ∈ wsX40, w ∈ wsX4_put := by decide +kernel
theorem mX4_put_1 : Cond.fieldLink RX4 18 "ClueLeave$Rows" "items" "[[I" ∈ wsX4_put := by decide +kernel
theorem mX4_put_2 : Cond.fieldLink RX4 9 "ClueLeave$Rows" "lanes" "[I" ∈ wsX4_put := by decide +kernel
set_option maxHeartbeats 4000000 in
set_option maxRecDepth 100000 in
theorem c_X4_put (l : Launch) (D : va_G) (cy : Nat → ClassId) (r0 rl rz ri : Nat) (gI : Nat → Option Nat) (gR : Nat → Nat) (hgI : ∀ r, r < 8 → gI r = some (gR r)) (fl fz : Nat → Int32) (it : Nat → Nat → Int32) (ln sz : Nat → Nat) (hrw : rwIs ln sz fl fz) (k j : Nat) (hk : k < 8) (hj : j < 40) (v : Int32) (h3 : ln k ≤ 2) : q_Wi l yX4_put wsX4_put 2 D cy ([(r0, .inr (4, [.ref rl, .ref rz, .ref ri])), (rl, .inl (cy 0, 8, .inl fl)), (rz, .inl (cy 0, 8, .inl fz)), (ri, .inl (cy 3, 8, .inr (.inr (.inr (.inr gI)))))] ++ (famI cy 8 40 gR it ++ [])) [.ref r0, .int (nI k), .int (nI j), .int (v)] (fun r u => r = lowB (ln k) v ∧ u = ([(r0, .inr (4, [.ref rl, .ref rz, .ref ri])), (rl, .inl (cy 0, 8, .inl fl)), (rz, .inl (cy 0, 8, .inl fz)), (ri, .inl (cy 3, 8, .inr (.inr (.inr (.inr gI)))))] ++ (famI cy 8 40 gR (fun i => if i = k then upd (it k) j (lowB (ln k) v) else it i) ++ []))) := by
  refine q_wi_of (cc := cX4_put) (maxL := 4) (ret := (some .int)) (by decide) rfl (Nat.le_of_ble_eq_true rfl) ?_
  intro pg en s mi args below meth cd A hC hA hK H locs hP hD hS ls hl
  obtain ⟨hx, hb, hr, hml, hown, hts, hlocks⟩ := hC
  have hl : lv_has ls 4 [(0, .ref r0), (1, .int (nI k)), (2, .int (nI j)), (3, .int (v))] := hl
  refine lv_aload_n hx hb dX4_put_0 rfl (lv_at hl 0 rfl) ?_
  refine va_get (D := D) (ci := 4) (v := .ref ri) (C := RX4) (T := TX4) (N := 3) hx hb hts nX4_put_0 hown hK.1 hP 0 rfl rfl 2 (by decide) (hts _ mX4_put_1) (fun _ h9 => h9) rfl dX4_put_1 ?_
  refine lv_iload_n hx hb dX4_put_4 rfl (lv_at hl 1 rfl) ?_
  refine q_aald3 (j := k) (v := (gR k)) hx hb hK hP 3 rfl (by omega) (by decide) (hgI _ (by omega)) dX4_put_5 ?_
  refine lv_iload_n hx hb dX4_put_6 rfl (lv_at hl 2 rfl) ?_
  refine lv_aload_n hx hb dX4_put_7 rfl (lv_at hl 0 rfl) ?_
  refine va_get (D := D) (ci := 4) (v := .ref rl) (C := RX4) (T := TX4) (N := 3) hx hb hts nX4_put_0 hown hK.1 hP 0 rfl rfl 0 (by decide) (hts _ mX4_put_2) (fun _ h9 => h9) rfl dX4_put_8 ?_
  refine lv_iload_n hx hb dX4_put_11 rfl (lv_at hl 1 rfl) ?_
  refine q_iald (j := k) (v := lnC (ln k)) hx hb hK hP 1 rfl (by omega) (by decide) (rwIs_0 hrw (by omega)) dX4_put_12 ?_
  refine q_top (y := nI (ln k)) (lnC_n h3) ?_
  refine lv_iload_n hx hb dX4_put_13 rfl (lv_at hl 3 rfl) ?_
  refine q_rS (As := [.int (nI (ln k)), .int (v)]) (rest := [.int (nI j), .ref (gR k)]) ⟨hx, hb, hml, hown, hts⟩ (c_X4_lowestBits l D cy (ln k) (by omega) v) (va_cwS 2 hts gX4_put_X4_lowestBits rfl rfl rfl (by decide +kernel) ⟨Nat.le_of_ble_eq_true rfl, Nat.le_of_ble_eq_true rfl⟩) hP hK [] rfl rfl hl.1 rfl (Nat.le_of_ble_eq_true rfl) dX4_put_14 ⟨Nat.zero_le _, Nat.zero_le _⟩ (fun r1 hr1 => ?_)
  obtain rfl := hr1
  refine q_iast (j := j) hx hb hK hP hD hS (4 + k) (famI_get (m := 4) rfl (by omega)) (by omega) (by decide) dX4_put_17 (fun H locs hP hD hS => ?_)
  rw [famI_set (m := 4) rfl (by omega)] at hP hD
  have hP : va_P D vwCl ([(r0, .inr (4, [.ref rl, .ref rz, .ref ri])), (rl, .inl (cy 0, 8, .inl fl)), (rz, .inl (cy 0, 8, .inl fz)), (ri, .inl (cy 3, 8, .inr (.inr (.inr (.inr gI)))))] ++ (famI cy 8 40 gR (fun z9 => if z9 = k then upd (it k) j (lowB (ln k) v) else it z9) ++ [])) H := hP
  have hD : va_D A ([(r0, .inr (4, [.ref rl, .ref rz, .ref ri])), (rl, .inl (cy 0, 8, .inl fl)), (rz, .inl (cy 0, 8, .inl fz)), (ri, .inl (cy 3, 8, .inr (.inr (.inr (.inr gI)))))] ++ (famI cy 8 40 gR (fun z9 => if z9 = k then upd (it k) j (lowB (ln k) v) else it z9) ++ [])) := hD
  refine lv_aload_n hx hb dX4_put_18 rfl (lv_at hl 0 rfl) ?_
  refine va_get (D := D) (ci := 4) (v := .ref ri) (C := RX4) (T := TX4) (N := 3) hx hb hts nX4_put_0 hown hK.1 hP 0 rfl rfl 2 (by decide) (hts _ mX4_put_1) (fun _ h9 => h9) rfl dX4_put_19 ?_
  refine lv_iload_n hx hb dX4_put_22 rfl (lv_at hl 1 rfl) ?_
  refine q_aald3 (j := k) (v := (gR k)) hx hb hK hP 3 rfl (by omega) (by decide) (hgI _ (by omega)) dX4_put_23 ?_
  refine lv_iload_n hx hb dX4_put_24 rfl (lv_at hl 2 rfl) ?_
  refine q_iald (j := j) (v := (fun z9 => if z9 = k then upd (it k) j (lowB (ln k) v) else it z9) k j) hx hb hK hP (4 + k) (famI_get (m := 4) rfl (by omega)) (by omega) (by decide) (rfl) dX4_put_25 ?_
  refine q_top (y := lowB (ln k) v) (by simp [pk_us]) ?_
  have hP9 := hP
  have hD9 := hD
  exact q_wiret (v := lowB (ln k) v) hx hb hr hlocks dX4_put_26 hP9 hD9 hS (⟨rfl, rfl⟩)
theorem nX4_move_0 : ∀ w ∈ wsX40, w ∈ wsX4_move := by decide +kernel
theorem mX4_move_1 : Cond.fieldLink RX4 18 "ClueLeave$Rows" "items" "[[I" ∈ wsX4_move := by decide +kernel
theorem mX4_move_2 : Cond.methodLink RX4 31 arraycopyName ∈ wsX4_move := by decide +kernel
theorem mX4_move_3 : Cond.native arraycopyName ∈ wsX4_move := by decide +kernel
theorem mX4_move_4 : Cond.static arraycopyName ∈ wsX4_move := by decide +kernel
theorem mX4_move_5 : Cond.initialized "java/lang/System" ∈ wsX4_move := by decide +kernel
set_option maxHeartbeats 4000000 in
set_option maxRecDepth 100000 in
theorem c_X4_move (l : Launch) (D : va_G) (cy : Nat → ClassId) (r0 rl rz ri : Nat) (gI : Nat → Option Nat) (gR : Nat → Nat) (hgI : ∀ r, r < 8 → gI r = some (gR r)) (fl fz : Nat → Int32) (it : Nat → Nat → Int32) (ln sz : Nat → Nat) (hrw : rwIs ln sz fl fz) (k1 j1 k2 j2 n : Nat) (hk1 : k1 < 8) (hk2 : k2 < 8) (hj1 : j1 + n ≤ 40) (hj2 : j2 + n ≤ 40) : q_Wv l yX4_move wsX4_move 1 D cy ([(r0, .inr (4, [.ref rl, .ref rz, .ref ri])), (rl, .inl (cy 0, 8, .inl fl)), (rz, .inl (cy 0, 8, .inl fz)), (ri, .inl (cy 3, 8, .inr (.inr (.inr (.inr gI)))))] ++ (famI cy 8 40 gR it ++ [])) [.ref r0, .int (nI k1), .int (nI j1), .int (nI k2), .int (nI j2), .int (nI n)] (fun u => u = ([(r0, .inr (4, [.ref rl, .ref rz, .ref ri])), (rl, .inl (cy 0, 8, .inl fl)), (rz, .inl (cy 0, 8, .inl fz)), (ri, .inl (cy 3, 8, .inr (.inr (.inr (.inr gI)))))] ++ (famI cy 8 40 gR (fun i => if i = k2 then va_cpy (it k1) (it k2) j1 j2 n else it i) ++ []))) := by
  refine q_wv_of (cc := cX4_move) (maxL := 6) (ret := none) (by decide) rfl (Nat.le_of_ble_eq_true rfl) ?_
  intro pg en s mi args below meth cd A hC hA hK H locs hP hD hS ls hl
  obtain ⟨hx, hb, hr, hml, hown, hts, hlocks⟩ := hC
  have hl : lv_has ls 6 [(0, .ref r0), (1, .int (nI k1)), (2, .int (nI j1)), (3, .int (nI k2)), (4, .int (nI j2)), (5, .int (nI n))] := hl
  refine lv_aload_n hx hb dX4_move_0 rfl (lv_at hl 0 rfl) ?_
  refine va_get (D := D) (ci := 4) (v := .ref ri) (C := RX4) (T := TX4) (N := 3) hx hb hts nX4_move_0 hown hK.1 hP 0 rfl rfl 2 (by decide) (hts _ mX4_move_1) (fun _ h9 => h9) rfl dX4_move_1 ?_
  refine lv_iload_n hx hb dX4_move_4 rfl (lv_at hl 1 rfl) ?_
  refine q_aald3 (j := k1) (v := (gR k1)) hx hb hK hP 3 rfl (by omega) (by decide) (hgI _ (by omega)) dX4_move_5 ?_
  refine lv_iload_n hx hb dX4_move_6 rfl (lv_at hl 2 rfl) ?_
  refine lv_aload_n hx hb dX4_move_7 rfl (lv_at hl 0 rfl) ?_
  refine va_get (D := D) (ci := 4) (v := .ref ri) (C := RX4) (T := TX4) (N := 3) hx hb hts nX4_move_0 hown hK.1 hP 0 rfl rfl 2 (by decide) (hts _ mX4_move_1) (fun _ h9 => h9) rfl dX4_move_8 ?_
  refine lv_iload_n hx hb dX4_move_11 rfl (lv_at hl 3 rfl) ?_
  refine q_aald3 (j := k2) (v := (gR k2)) hx hb hK hP 3 rfl (by omega) (by decide) (hgI _ (by omega)) dX4_move_12 ?_
  refine lv_iload hx hb dX4_move_13 (lv_at hl 4 rfl) ?_
  refine lv_iload hx hb dX4_move_15 (lv_at hl 5 rfl) ?_
  refine q_copy (sp := j1) (dp := j2) (n := n) hx hb (hml.trans hl.1.symm) hown (hts _ mX4_move_2) (hts _ mX4_move_3) (hts _ mX4_move_4) (hts _ mX4_move_5) hK hP hD hS (4 + k1) (4 + k2) (famI_get (m := 4) rfl (by omega)) (famI_get (m := 4) rfl (by omega)) (by omega) (by omega) (by omega) (by omega) (by omega) (Nat.le_of_ble_eq_true rfl) (by decide) dX4_move_17 (fun H locs hP hD hS => ?_)
  rw [famI_set (m := 4) rfl (by omega)] at hP hD
  have hP : va_P D vwCl ([(r0, .inr (4, [.ref rl, .ref rz, .ref ri])), (rl, .inl (cy 0, 8, .inl fl)), (rz, .inl (cy 0, 8, .inl fz)), (ri, .inl (cy 3, 8, .inr (.inr (.inr (.inr gI)))))] ++ (famI cy 8 40 gR (fun z9 => if z9 = k2 then va_cpy (it k1) (it k2) j1 j2 n else it z9) ++ [])) H := hP
  have hD : va_D A ([(r0, .inr (4, [.ref rl, .ref rz, .ref ri])), (rl, .inl (cy 0, 8, .inl fl)), (rz, .inl (cy 0, 8, .inl fz)), (ri, .inl (cy 3, 8, .inr (.inr (.inr (.inr gI)))))] ++ (famI cy 8 40 gR (fun z9 => if z9 = k2 then va_cpy (it k1) (it k2) j1 j2 n else it z9) ++ [])) := hD
  have hP9 := hP
  have hD9 := hD
  exact q_wvret hx hb hr hlocks dX4_move_20 hP9 hD9 hS (rfl)
theorem nX4_takeAway_0 : ∀ w ∈ wsX40, w ∈ wsX4_takeAway := by decide +kernel
theorem mX4_takeAway_1 : Cond.fieldLink RX4 9 "ClueLeave$Rows" "lanes" "[I" ∈ wsX4_takeAway := by decide +kernel
theorem mX4_takeAway_2 : Cond.fieldLink RX4 13 "ClueLeave$Rows" "sizes" "[I" ∈ wsX4_takeAway := by decide +kernel
set_option maxHeartbeats 4000000 in
set_option maxRecDepth 100000 in
theorem c_X4_takeAway (l : Launch) (D : va_G) (cy : Nat → ClassId) (r0 rl rz ri : Nat) (gI : Nat → Option Nat) (gR : Nat → Nat) (hgI : ∀ r, r < 8 → gI r = some (gR r)) (fl fz : Nat → Int32) (it : Nat → Nat → Int32) (ln sz : Nat → Nat) (hrw : rwIs ln sz fl fz) (k : Nat) (hk : k < 8) : q_Wi l yX4_takeAway wsX4_takeAway 1 D cy ([(r0, .inr (4, [.ref rl, .ref rz, .ref ri])), (rl, .inl (cy 0, 8, .inl fl)), (rz, .inl (cy 0, 8, .inl fz)), (ri, .inl (cy 3, 8, .inr (.inr (.inr (.inr gI)))))] ++ (famI cy 8 40 gR it ++ [])) [.ref r0, .int (nI k)] (fun r u => r = nI (sz k) ∧ u = ([(r0, .inr (4, [.ref rl, .ref rz, .ref ri])), (rl, .inl (cy 0, 8, .inl (upd fl k (-1)))), (rz, .inl (cy 0, 8, .inl fz)), (ri, .inl (cy 3, 8, .inr (.inr (.inr (.inr gI)))))] ++ (famI cy 8 40 gR it ++ []))) := by
  refine q_wi_of (cc := cX4_takeAway) (maxL := 2) (ret := (some .int)) (by decide) rfl (Nat.le_of_ble_eq_true rfl) ?_
  intro pg en s mi args below meth cd A hC hA hK H locs hP hD hS ls hl
  obtain ⟨hx, hb, hr, hml, hown, hts, hlocks⟩ := hC
  have hl : lv_has ls 2 [(0, .ref r0), (1, .int (nI k))] := hl
  refine lv_aload_n hx hb dX4_takeAway_0 rfl (lv_at hl 0 rfl) ?_
  refine va_get (D := D) (ci := 4) (v := .ref rl) (C := RX4) (T := TX4) (N := 3) hx hb hts nX4_takeAway_0 hown hK.1 hP 0 rfl rfl 0 (by decide) (hts _ mX4_takeAway_1) (fun _ h9 => h9) rfl dX4_takeAway_1 ?_
  refine lv_iload_n hx hb dX4_takeAway_4 rfl (lv_at hl 1 rfl) ?_
  refine lv_iconst (v := (-1)) hx hb dX4_takeAway_5 (by decide) ?_
  refine q_iast (j := k) hx hb hK hP hD hS 1 rfl (by omega) (by decide) dX4_takeAway_6 (fun H locs hP hD hS => ?_)
  have hP : va_P D vwCl ([(r0, .inr (4, [.ref rl, .ref rz, .ref ri])), (rl, .inl (cy 0, 8, .inl (upd fl k (-1)))), (rz, .inl (cy 0, 8, .inl fz)), (ri, .inl (cy 3, 8, .inr (.inr (.inr (.inr gI)))))] ++ (famI cy 8 40 gR it ++ [])) H := hP
  have hD : va_D A ([(r0, .inr (4, [.ref rl, .ref rz, .ref ri])), (rl, .inl (cy 0, 8, .inl (upd fl k (-1)))), (rz, .inl (cy 0, 8, .inl fz)), (ri, .inl (cy 3, 8, .inr (.inr (.inr (.inr gI)))))] ++ (famI cy 8 40 gR it ++ [])) := hD
  refine lv_aload_n hx hb dX4_takeAway_7 rfl (lv_at hl 0 rfl) ?_
  refine va_get (D := D) (ci := 4) (v := .ref rz) (C := RX4) (T := TX4) (N := 3) hx hb hts nX4_takeAway_0 hown hK.1 hP 0 rfl rfl 1 (by decide) (hts _ mX4_takeAway_2) (fun _ h9 => h9) rfl dX4_takeAway_8 ?_
  refine lv_iload_n hx hb dX4_takeAway_11 rfl (lv_at hl 1 rfl) ?_
  refine q_iald (j := k) (v := nI (sz k)) hx hb hK hP 2 rfl (by omega) (by decide) (rwIs_1 hrw (by omega)) dX4_takeAway_12 ?_
  have hP9 := hP
  have hD9 := hD
  exact q_wiret (v := nI (sz k)) hx hb hr hlocks dX4_takeAway_13 hP9 hD9 hS (⟨rfl, rfl⟩)

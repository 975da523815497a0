/-! the model's rows: ln r the lane (3: missing), sz r how many items -/
def mlC (k : Nat) : Int32 := if k = 3 then -1000000 else nI k
theorem mlC_m {k : Nat} (h : k ≤ 3) : mlC k = -1000000 ↔ k = 3 := by
  have : ∀ k, k < 4 → (mlC k = -1000000 ↔ k = 3) := by decide +kernel
  exact this k (by omega)
theorem mlC_n {k : Nat} (h : k ≤ 2) : mlC k = nI k := if_neg (by omega)
theorem mlC_e {a b : Nat} (ha : a ≤ 3) (hb : b ≤ 3) : mlC a = mlC b ↔ a = b := by
  have : ∀ a, a < 4 → ∀ b, b < 4 → (mlC a = mlC b ↔ a = b) := by decide +kernel
  exact this a (by omega) b (by omega)
def rmI (ln sz : Nat → Nat) (itS : Nat → Nat → Int32) (fl fz fi : Nat → Int32) : Prop := (∀ r, r < 8 → fl r = mlC (ln r) ∧ fz r = nI (sz r) ∧ sz r ≤ 40 ∧ ln r ≤ 3) ∧ ∀ r j, r < 8 → j < 40 → fi (40 * r + j) = itS r j
theorem rmI_0 {ln sz : Nat → Nat} {itS : Nat → Nat → Int32} {fl fz fi : Nat → Int32} (h : rmI ln sz itS fl fz fi) {r : Nat} (hr : r < 8) : fl r = mlC (ln r) := (h.1 r hr).1
theorem rmI_1 {ln sz : Nat → Nat} {itS : Nat → Nat → Int32} {fl fz fi : Nat → Int32} (h : rmI ln sz itS fl fz fi) {r : Nat} (hr : r < 8) : fz r = nI (sz r) := (h.1 r hr).2.1
theorem rmI_2 {ln sz : Nat → Nat} {itS : Nat → Nat → Int32} {fl fz fi : Nat → Int32} (h : rmI ln sz itS fl fz fi) {r : Nat} (hr : r < 8) : sz r ≤ 40 := (h.1 r hr).2.2.1
theorem rmI_3 {ln sz : Nat → Nat} {itS : Nat → Nat → Int32} {fl fz fi : Nat → Int32} (h : rmI ln sz itS fl fz fi) {r : Nat} (hr : r < 8) : ln r ≤ 3 := (h.1 r hr).2.2.2
theorem cpy_0 (f g : Nat → Int32) (s d : Nat) : va_cpy f g s d 0 = g := funext fun k => if_neg (by omega)
theorem cpy_s (f g : Nat → Int32) (s d i : Nat) : upd (va_cpy f g s d i) (d + i) (f (s + i)) = va_cpy f g s d (i + 1) := by
  funext k
  by_cases e : k = d + i
  · subst e
    rw [pk_us, pk_cpy_in (by omega) (by omega)]
    congr 1; omega
  · rw [pk_un e]
    by_cases e2 : d ≤ k ∧ k < d + i
    · rw [pk_cpy_in e2.1 e2.2, pk_cpy_in e2.1 (by omega)]
    · rw [pk_cpy_out (by omega), pk_cpy_out (by omega)]
theorem cpy_s0 (f g : Nat → Int32) (d i : Nat) : upd (va_cpy f g 0 d i) (d + i) (f i) = va_cpy f g 0 d (i + 1) := by
  have := cpy_s f g 0 d i
  rwa [Nat.zero_add] at this
theorem cut_b (x : BitVec 32) {n k : Nat} (h : n + k = 32) (hk : 0 < k) : (x <<< n).sshiftRight n = (x.signExtend k).signExtend 32 := by
  apply BitVec.eq_of_getLsbD_eq
  intro i hi
  rw [BitVec.getLsbD_sshiftRight, BitVec.getLsbD_signExtend]
  have h0 : ¬ 32 ≤ i := by omega
  by_cases q : i < k
  · have h1 : n + i < 32 := by omega
    have h2 : ¬ n + i < n := by omega
    rw [if_pos h1, if_pos q, BitVec.getLsbD_shiftLeft, BitVec.getLsbD_signExtend, if_pos hi, show n + i - n = i by omega]
    simp [h0, h1, h2, q]
    exact fun _ => hi
  · have h1 : ¬ n + i < 32 := by omega
    have h2 : ¬ 31 < n := by omega
    have h3 : 31 - n = k - 1 := by omega
    have h4 : k - 1 < k := by omega
    have h5 : k - 1 < 32 := by omega
    rw [if_neg h1, if_neg q, BitVec.msb_eq_getLsbD_last, BitVec.msb_eq_getLsbD_last, BitVec.getLsbD_shiftLeft, BitVec.getLsbD_signExtend, if_pos h5, show 32 - 1 - n = k - 1 by omega]
    simp [h0, h2, h4, hi]
theorem cut8 (v : Int32) : (v <<< (nI 24 &&& 31)) >>> (nI 24 &&& 31) = v.toInt8.toInt32 := by
  apply Int32.toBitVec_inj.mp
  rw [Int32.toBitVec_shiftRight, Int32.toBitVec_shiftLeft, Int8.toBitVec_toInt32, Int32.toBitVec_toInt8, show (nI 24 &&& 31).toBitVec.smod 32 = 24#32 from by decide]
  show (v.toBitVec <<< (24#32).toNat).sshiftRight (24#32).toNat = _
  exact cut_b v.toBitVec (n := 24) (k := 8) rfl (by decide)
theorem cut16 (v : Int32) : (v <<< (nI 16 &&& 31)) >>> (nI 16 &&& 31) = v.toInt16.toInt32 := by
  apply Int32.toBitVec_inj.mp
  rw [Int32.toBitVec_shiftRight, Int32.toBitVec_shiftLeft, Int16.toBitVec_toInt32, Int32.toBitVec_toInt16, show (nI 16 &&& 31).toBitVec.smod 32 = 16#32 from by decide]
  show (v.toBitVec <<< (16#32).toNat).sshiftRight (16#32).toNat = _
  exact cut_b v.toBitVec (n := 16) (k := 16) rfl (by decide)
theorem rwB_in {z : Nat} {x : Int32} (hz : z ≤ 40) : (nI 0 ≤ x ∧ x ≤ nI z - nI 1) ↔ rwB z x (nI 1) = true := by
  rcases Nat.eq_zero_or_pos z with h | h
  · subst h
    rw [show nI 0 - nI 1 = -1 by decide]
    constructor
    · intro q
      have h1 := Int32.le_iff_toInt_le.mp q.1
      have h2 := Int32.le_iff_toInt_le.mp q.2
      rw [show (nI 0).toInt = 0 by decide] at h1
      rw [show (-1 : Int32).toInt = -1 by decide] at h2
      omega
    · intro q
      obtain ⟨i, hi, -⟩ := rwB_1 q (by omega)
      omega
  · rw [pk_sub h]
    constructor
    · intro q
      obtain ⟨k, -, h2, rfl⟩ := q_rng q (by omega) (by decide)
      simp only [rwB, nI_toInt (show k < 2147483648 by omega), nI_toInt (show 1 < 2147483648 by decide), Bool.and_eq_true, decide_eq_true_eq]
      omega
    · intro q
      obtain ⟨k, hk, rfl⟩ := rwB_1 q (by omega)
      exact ⟨(nI_leI (by decide) (by omega)).mpr (Nat.zero_le _), (nI_leI (by omega) (by omega)).mpr (by omega)⟩
theorem rwB_p2 {z : Nat} {x n : Int32} (c : x < 0) : ¬ rwB z x n = true := fun q => rwP_2 c (rwB_i.mpr q)
theorem rwB_p3 {z : Nat} {x n : Int32} (c : n < 0) : ¬ rwB z x n = true := fun q => rwP_3 c (rwB_i.mpr q)
theorem rw_le {z : Nat} {x : Int32} (hz : z ≤ 40) : x ≤ nI z ↔ x.toInt ≤ z := by
  rw [Int32.le_iff_toInt_le, nI_toInt (by omega)]
theorem rwB_p4 {z : Nat} {x n : Int32} (hz : z ≤ 40) (c2 : ¬ n < 0) (c3 : nI z < x) : ¬ rwB z x n = true := fun q => by
  have h := Int32.lt_iff_toInt_lt.mp c3
  rw [nI_toInt (by omega)] at h
  have h1 := rw_0 c2
  have h2 := (rwB_i.mpr q).2.2
  omega
theorem rw_sub2 {z : Nat} {x : Int32} (hz : z ≤ 40) (c1 : ¬ x < 0) (c3 : ¬ nI z < x) : (nI z - x).toInt = (z : Int) - x.toInt := by
  exact rw_sub hz c1
theorem rwB_p5 {z : Nat} {x n : Int32} (hz : z ≤ 40) (c1 : ¬ x < 0) (c2 : ¬ n < 0) (c3 : ¬ nI z < x) (c4 : nI z - x < n) : ¬ rwB z x n = true := fun q => by
  have h := Int32.lt_iff_toInt_lt.mp c4
  rw [rw_sub hz c1] at h
  have h2 := (rwB_i.mpr q).2.2
  omega
theorem rwB_p1 {z : Nat} {x n : Int32} (hz : z ≤ 40) (c1 : ¬ x < 0) (c2 : ¬ n < 0) (c3 : ¬ nI z < x) (c4 : ¬ nI z - x < n) : rwB z x n = true := by
  refine rwB_i.mp ⟨rw_0 c1, rw_0 c2, ?_⟩
  have h : ¬ (nI z - x).toInt < n.toInt := fun q => c4 (Int32.lt_iff_toInt_lt.mpr q)
  rw [rw_sub hz c1] at h
  omega
theorem rmI_iq {ln sz : Nat → Nat} {itS : Nat → Nat → Int32} {fl fz fi g : Nat → Int32} {s1 d1 i n : Nat} (h : i = n) (H : rmI ln sz itS fl fz (va_cpy g fi s1 d1 n)) : rmI ln sz itS fl fz (va_cpy g fi s1 d1 i) := h ▸ H
theorem rmI_row {ln sz : Nat → Nat} {itS : Nat → Nat → Int32} {fl fz fi : Nat → Int32} {k la m : Nat} (h : rmI ln sz itS fl fz fi) (hk : k < 8) (hla : la ≤ 2) (hm : m ≤ 40) : rmI (fun z => if z = k then la else ln z) (fun z => if z = k then m else sz z) (fun z j => if z = k then 0 else itS z j) (upd fl k (nI la)) (upd fz k (nI m)) (va_cpy (fun _ => nI 0) fi 0 (40 * k) 40) := by
  refine ⟨fun r hr => ?_, fun r j hr hj => ?_⟩
  · by_cases e : r = k
    · subst e
      simp only [pk_us, if_true]
      exact ⟨(mlC_n hla).symm, trivial, hm, by omega⟩
    · simp only [pk_un e, if_neg e]
      exact h.1 r hr
  · by_cases e : r = k
    · subst e
      rw [pk_cpy_in (by omega) (by omega)]
      show nI 0 = (if r = r then 0 else itS r j)
      rw [if_pos rfl]; rfl
    · simp only [if_neg e]
      rw [pk_cpy_out (by omega)]
      exact h.2 r j hr hj
theorem rmI_set {ln sz : Nat → Nat} {itS : Nat → Nat → Int32} {fl fz fi : Nat → Int32} {k j : Nat} {v : Int32} (h : rmI ln sz itS fl fz fi) (hk : k < 8) (hj : j < 40) : rmI ln sz (fun z i => if z = k ∧ i = j then v else itS z i) fl fz (upd fi (40 * k + j) v) := by
  refine ⟨h.1, fun r i hr hi => ?_⟩
  by_cases e : 40 * r + i = 40 * k + j
  · have e1 : r = k := by omega
    have e2 : i = j := by omega
    subst e1 e2
    simp [pk_us]
  · rw [pk_un e]
    show _ = (if r = k ∧ i = j then v else itS r i)
    rw [if_neg (fun q => e (by rw [q.1, q.2]))]
    exact h.2 r i hr hi
theorem rmI_drop {ln sz : Nat → Nat} {itS : Nat → Nat → Int32} {fl fz fi : Nat → Int32} {k : Nat} (h : rmI ln sz itS fl fz fi) (hk : k < 8) : rmI (fun z => if z = k then 3 else ln z) sz itS (upd fl k (-1000000)) fz fi := by
  refine ⟨fun r hr => ?_, h.2⟩
  by_cases e : r = k
  · subst e
    simp only [pk_us, if_true]
    exact ⟨rfl, (h.1 r hr).2.1, (h.1 r hr).2.2.1, Nat.le_refl 3⟩
  · simp only [pk_un e, if_neg e]
    exact h.1 r hr
theorem rmI_copy {ln sz : Nat → Nat} {itS : Nat → Nat → Int32} {fl fz fi fs : Nat → Int32} {a b i j m : Nat} (h : rmI ln sz itS fl fz fi) (ha : a < 8) (hb : b < 8) (hi : i + m ≤ 40) (hj : j + m ≤ 40) : rmI ln sz (fun z c => if z = b ∧ j ≤ c ∧ c < j + m then itS a (i + (c - j)) else itS z c) fl fz (va_cpy (fa_fill (fun q => fi (40 * a + i + q)) fs m) fi 0 (40 * b + j) m) := by
  refine ⟨h.1, fun r c hr hc => ?_⟩
  show _ = (if r = b ∧ j ≤ c ∧ c < j + m then itS a (i + (c - j)) else itS r c)
  by_cases e : r = b ∧ j ≤ c ∧ c < j + m
  · obtain ⟨rfl, e2, e3⟩ := e
    rw [if_pos ⟨rfl, e2, e3⟩, pk_cpy_in (by omega) (by omega), fa_fill_in (by omega), ← h.2 a _ ha (by omega)]
    congr 1; omega
  · rw [if_neg e, pk_cpy_out (by omega)]
    exact h.2 r c hr hc
theorem trM_1 {t : Nat} {x : Int32} (ht : t ≤ 16) (h : nI 0 ≤ x ∧ x ≤ nI t - nI 1) : ∃ k : Nat, k < t ∧ x = nI k := by
  obtain ⟨i, hi, e⟩ := rwB_1 ((rwB_in (by omega)).mp h) (by omega)
  exact ⟨i, hi, e⟩
theorem trM_y {f : Nat → Int32} {t k : Nat} (hk : k < t) (ht : t ≤ 16) : trA f t (nI k) = f k := by
  unfold trA
  rw [nI_toInt (by omega), nI_clamp (by omega), if_pos (by omega)]
theorem trM_n {f : Nat → Int32} {t : Nat} {x : Int32} (ht : t ≤ 16) (h : ¬ (nI 0 ≤ x ∧ x ≤ nI t - nI 1)) : trA f t x = -1000000 := by
  unfold trA
  refine if_neg (fun q => h ((rwB_in (by omega)).mpr ?_))
  simp only [rwB, nI_toInt (show 1 < 2147483648 by decide), Bool.and_eq_true, decide_eq_true_eq]
  omega
theorem nX7_found_0 : ∀ w ∈ wsX70, w ∈ wsX7_found := by decide +kernel
theorem mX7_found_1 : Cond.fieldLink RX7 51 "ClueLeaveModel" "status" "I" ∈ wsX7_found := by decide +kernel
theorem mX7_found_2 : Cond.constant RX7 55 (-1000010) ∈ wsX7_found := by decide +kernel
set_option maxHeartbeats 4000000 in
set_option maxRecDepth 100000 in
theorem c_X7_found (l : Launch) (D : va_G) (cy : Nat → ClassId) (m0 ml mm mit ms mt nw dr tr pa ig kx be tc : Nat) (st fk fp av sv ov vv : Int32) (tn ac td : Nat) (v : Int32) : q_Wi l yX7_found wsX7_found 1 D cy [(m0, .inr (7, [.ref ml, .ref mm, .ref mit, .ref ms, .int (st), .ref mt, .int (nI tn), .int (fk), .int (fp), .int (av), .int (sv), .int (ov), .int (vv), .ref nw, .ref dr, .ref tr, .ref pa, .int (nI ac), .ref ig, .ref kx, .ref be, .ref tc, .int (nI td)]))] [.ref m0, .int (v)] (fun r u => r = (-1000010) - v ∧ u = [(m0, .inr (7, [.ref ml, .ref mm, .ref mit, .ref ms, .int (v), .ref mt, .int (nI tn), .int (fk), .int (fp), .int (av), .int (sv), .int (ov), .int (vv), .ref nw, .ref dr, .ref tr, .ref pa, .int (nI ac), .ref ig, .ref kx, .ref be, .ref tc, .int (nI td)]))]) := by
  refine q_wi_of (cc := cX7_found) (maxL := 2) (ret := (some .int)) (by decide) rfl (Nat.le_of_ble_eq_true rfl) ?_
  intro pg en s mi args below meth cd A hC hA hK H locs hP hD hS ls hl
  obtain ⟨hx, hb, hr, hml, hown, hts, hlocks⟩ := hC
  have hl : lv_has ls 2 [(0, .ref m0), (1, .int (v))] := hl
  refine lv_aload_n hx hb dX7_found_0 rfl (lv_at hl 0 rfl) ?_
  refine lv_iload_n hx hb dX7_found_1 rfl (lv_at hl 1 rfl) ?_
  refine va_put (D := D) (ci := 7) (v := .int (v)) (ty := .int) (C := RX7) (T := TX7) (N := 23) hx hb hts nX7_found_0 tyX7 tyX7_ok nmX7 hown hK.1 hP hD hS 0 rfl rfl 4 (by decide) (hts _ mX7_found_1) (fun _ h9 => h9) rfl (by decide +kernel) rfl rfl (Nat.le_of_ble_eq_true rfl) dX7_found_2 (fun H locs hP hD hS => ?_)
  have hP : va_P D vwCl [(m0, .inr (7, [.ref ml, .ref mm, .ref mit, .ref ms, .int (v), .ref mt, .int (nI tn), .int (fk), .int (fp), .int (av), .int (sv), .int (ov), .int (vv), .ref nw, .ref dr, .ref tr, .ref pa, .int (nI ac), .ref ig, .ref kx, .ref be, .ref tc, .int (nI td)]))] H := hP
  have hD : va_D A [(m0, .inr (7, [.ref ml, .ref mm, .ref mit, .ref ms, .int (v), .ref mt, .int (nI tn), .int (fk), .int (fp), .int (av), .int (sv), .int (ov), .int (vv), .ref nw, .ref dr, .ref tr, .ref pa, .int (nI ac), .ref ig, .ref kx, .ref be, .ref tc, .int (nI td)]))] := hD
  refine lv_ldc (v := (-1000010)) hx hb hown (hts _ mX7_found_2) dX7_found_5 ?_
  refine lv_iload_n hx hb dX7_found_7 rfl (lv_at hl 1 rfl) ?_
  refine lv_isub hx hb dX7_found_8 ?_
  have hP9 := hP
  have hD9 := hD
  exact q_wiret (v := (-1000010) - v) hx hb hr hlocks dX7_found_9 hP9 hD9 hS (⟨rfl, rfl⟩)
theorem nX7_well_0 : ∀ w ∈ wsX70, w ∈ wsX7_well := by decide +kernel
theorem mX7_well_1 : Cond.fieldLink RX7 51 "ClueLeaveModel" "status" "I" ∈ wsX7_well := by decide +kernel
set_option maxHeartbeats 4000000 in
set_option maxRecDepth 100000 in
theorem c_X7_well (l : Launch) (D : va_G) (cy : Nat → ClassId) (m0 ml mm mit ms mt nw dr tr pa ig kx be tc : Nat) (st fk fp av sv ov vv : Int32) (tn ac td : Nat) (v : Int32) : q_Wi l yX7_well wsX7_well 1 D cy [(m0, .inr (7, [.ref ml, .ref mm, .ref mit, .ref ms, .int (st), .ref mt, .int (nI tn), .int (fk), .int (fp), .int (av), .int (sv), .int (ov), .int (vv), .ref nw, .ref dr, .ref tr, .ref pa, .int (nI ac), .ref ig, .ref kx, .ref be, .ref tc, .int (nI td)]))] [.ref m0, .int (v)] (fun r u => r = v ∧ u = [(m0, .inr (7, [.ref ml, .ref mm, .ref mit, .ref ms, .int (nI 0), .ref mt, .int (nI tn), .int (fk), .int (fp), .int (av), .int (sv), .int (ov), .int (vv), .ref nw, .ref dr, .ref tr, .ref pa, .int (nI ac), .ref ig, .ref kx, .ref be, .ref tc, .int (nI td)]))]) := by
  refine q_wi_of (cc := cX7_well) (maxL := 2) (ret := (some .int)) (by decide) rfl (Nat.le_of_ble_eq_true rfl) ?_
  intro pg en s mi args below meth cd A hC hA hK H locs hP hD hS ls hl
  obtain ⟨hx, hb, hr, hml, hown, hts, hlocks⟩ := hC
  have hl : lv_has ls 2 [(0, .ref m0), (1, .int (v))] := hl
  refine lv_aload_n hx hb dX7_well_0 rfl (lv_at hl 0 rfl) ?_
  refine lv_iconst (v := nI 0) hx hb dX7_well_1 (by decide) ?_
  refine va_put (D := D) (ci := 7) (v := .int (nI 0)) (ty := .int) (C := RX7) (T := TX7) (N := 23) hx hb hts nX7_well_0 tyX7 tyX7_ok nmX7 hown hK.1 hP hD hS 0 rfl rfl 4 (by decide) (hts _ mX7_well_1) (fun _ h9 => h9) rfl (by decide +kernel) rfl rfl (Nat.le_of_ble_eq_true rfl) dX7_well_2 (fun H locs hP hD hS => ?_)
  have hP : va_P D vwCl [(m0, .inr (7, [.ref ml, .ref mm, .ref mit, .ref ms, .int (nI 0), .ref mt, .int (nI tn), .int (fk), .int (fp), .int (av), .int (sv), .int (ov), .int (vv), .ref nw, .ref dr, .ref tr, .ref pa, .int (nI ac), .ref ig, .ref kx, .ref be, .ref tc, .int (nI td)]))] H := hP
  have hD : va_D A [(m0, .inr (7, [.ref ml, .ref mm, .ref mit, .ref ms, .int (nI 0), .ref mt, .int (nI tn), .int (fk), .int (fp), .int (av), .int (sv), .int (ov), .int (vv), .ref nw, .ref dr, .ref tr, .ref pa, .int (nI ac), .ref ig, .ref kx, .ref be, .ref tc, .int (nI td)]))] := hD
  refine lv_iload_n hx hb dX7_well_5 rfl (lv_at hl 1 rfl) ?_
  have hP9 := hP
  have hD9 := hD
  exact q_wiret (v := v) hx hb hr hlocks dX7_well_6 hP9 hD9 hS (⟨rfl, rfl⟩)
set_option maxHeartbeats 4000000 in
set_option maxRecDepth 100000 in
theorem c_X7_copies (l : Launch) (D : va_G) (cy : Nat → ClassId) (a0 a1 n0 n1 : Nat) (hn0 : n0 < 2 ^ 31) (hn1 : n1 < 2 ^ 31) (f g : Nat → Int32) (s1 d1 : Nat) (hs1 : s1 + 29 ≤ n0) (hd1 : d1 + 29 ≤ n1) : q_Wv l yX7_copies wsX7_copies 1 D cy [(a0, .inl (cy 0, n0, .inl f)), (a1, .inl (cy 0, n1, .inl g))] [.ref a0, .int (nI s1), .ref a1, .int (nI d1)] (fun u => u = [(a0, .inl (cy 0, n0, .inl f)), (a1, .inl (cy 0, n1, .inl (va_cpy f g s1 d1 29)))]) := by
  refine q_wv_of (cc := cX7_copies) (maxL := 5) (ret := none) (by decide) rfl (Nat.le_of_ble_eq_true rfl) ?_
  intro pg en s mi args below meth cd A hC hA hK H locs hP hD hS ls hl
  obtain ⟨hx, hb, hr, hml, hown, hts, hlocks⟩ := hC
  have hl : lv_has ls 5 [(0, .ref a0), (1, .int (nI s1)), (2, .ref a1), (3, .int (nI d1))] := hl
  refine lv_iconst (v := nI 0) hx hb dX7_copies_0 (by decide) ?_
  refine lv_istore (lv' := [(4, .int (nI 0)), (0, .ref a0), (1, .int (nI s1)), (2, .ref a1), (3, .int (nI d1))]) hx hb dX7_copies_1 hl (by decide) rfl (fun ls hl => ?_)
  have L3_4 : ∀ (fu i : Nat), i ≤ 29 → 29 < i + fu → ∀ (H : Heap) (locs : List Loc), va_P D vwCl [(a0, .inl (cy 0, n0, .inl f)), (a1, .inl (cy 0, n1, .inl (va_cpy f g s1 d1 i)))] H → va_D A [(a0, .inl (cy 0, n0, .inl f)), (a1, .inl (cy 0, n1, .inl (va_cpy f g s1 d1 i)))] → va_S A s.heap H locs → ∀ ls : Array Slot, lv_has ls 5 [(0, .ref a0), (1, .int (nI s1)), (2, .ref a1), (3, .int (nI d1)), (4, .int (nI i))] → W pg l en (q_rm 1) s mi args below meth cd H locs 0 0 (MQ below (va_Qv (fun u => u = [(a0, .inl (cy 0, n0, .inl f)), (a1, .inl (cy 0, n1, .inl (va_cpy f g s1 d1 29)))]) (fun (u : va_W) t => va_P D vwCl u t.heap ∧ va_D A u) A) args s 0 0 A) (F0 mi 3 ls []) := by
    intro fu
    induction fu with
    | zero =>
      intro i h1 h2
      exact absurd h2 (by omega)
    | succ fu ih3 =>
      intro i h1_3 h2_3 H locs hP hD hS ls hl
      refine lv_iload hx hb dX7_copies_3 (lv_at hl 4 rfl) ?_
      refine lv_bipush (v := nI 29) hx hb dX7_copies_5 (by decide) ?_
      refine q_icmp_ge (tgt := 28) hx hb dX7_copies_7 (by decide) (by omega) (by decide) (fun c1 => ?_) (fun c1 => ?_)
      · obtain rfl : i = 29 := by omega
        have hP9 := hP
        have hD9 := hD
        exact q_wvret hx hb hr hlocks dX7_copies_28 hP9 hD9 hS (rfl)
      · refine lv_aload_n hx hb dX7_copies_10 rfl (lv_at hl 2 rfl) ?_
        refine lv_iload_n hx hb dX7_copies_11 rfl (lv_at hl 3 rfl) ?_
        refine lv_iload hx hb dX7_copies_12 (lv_at hl 4 rfl) ?_
        refine lv_iadd hx hb dX7_copies_14 ?_
        refine q_top (y := nI (d1 + i)) (nI_add _ _) ?_
        refine lv_aload_n hx hb dX7_copies_15 rfl (lv_at hl 0 rfl) ?_
        refine lv_iload_n hx hb dX7_copies_16 rfl (lv_at hl 1 rfl) ?_
        refine lv_iload hx hb dX7_copies_17 (lv_at hl 4 rfl) ?_
        refine lv_iadd hx hb dX7_copies_19 ?_
        refine q_top (y := nI (s1 + i)) (nI_add _ _) ?_
        refine q_iald (j := (s1 + i)) (v := f (s1 + i)) hx hb hK hP 0 rfl (by omega) (by omega) (rfl) dX7_copies_20 ?_
        refine q_iast (j := (d1 + i)) hx hb hK hP hD hS 1 rfl (by omega) (by omega) dX7_copies_21 (fun H locs hP hD hS => ?_)
        have hP : va_P D vwCl [(a0, .inl (cy 0, n0, .inl f)), (a1, .inl (cy 0, n1, .inl (upd (va_cpy f g s1 d1 i) (d1 + i) (f (s1 + i)))))] H := hP
        have hD : va_D A [(a0, .inl (cy 0, n0, .inl f)), (a1, .inl (cy 0, n1, .inl (upd (va_cpy f g s1 d1 i) (d1 + i) (f (s1 + i)))))] := hD
        refine lv_iinc (v := nI (i + 1)) (lv' := [(4, .int (nI (i + 1))), (0, .ref a0), (1, .int (nI s1)), (2, .ref a1), (3, .int (nI d1))]) hx hb dX7_copies_22 hl (k := 4) rfl (q_inc i 1) (by decide) rfl (fun ls hl => ?_)
        refine lv_goto (tgt := 3) hx hb dX7_copies_25 (by decide) ?_
        have hP := q_Pc (w1 := [(a0, .inl (cy 0, n0, .inl f)), (a1, .inl (cy 0, n1, .inl (upd (va_cpy f g s1 d1 i) (d1 + i) (f (s1 + i)))))]) (w2 := [(a0, .inl (cy 0, n0, .inl f)), (a1, .inl (cy 0, n1, .inl (va_cpy f g s1 d1 (i + 1))))]) (q_c1 (f := fun z0 => ([(a0, .inl (cy 0, n0, .inl f)), (a1, .inl (cy 0, n1, .inl z0))] : va_W)) (show (upd (va_cpy f g s1 d1 i) (d1 + i) (f (s1 + i)) : Nat → Int32) = va_cpy f g s1 d1 (i + 1) from cpy_s f g s1 d1 i)) hP
        have hD := q_Dc (w1 := [(a0, .inl (cy 0, n0, .inl f)), (a1, .inl (cy 0, n1, .inl (upd (va_cpy f g s1 d1 i) (d1 + i) (f (s1 + i)))))]) (w2 := [(a0, .inl (cy 0, n0, .inl f)), (a1, .inl (cy 0, n1, .inl (va_cpy f g s1 d1 (i + 1))))]) (q_c1 (f := fun z0 => ([(a0, .inl (cy 0, n0, .inl f)), (a1, .inl (cy 0, n1, .inl z0))] : va_W)) (show (upd (va_cpy f g s1 d1 i) (d1 + i) (f (s1 + i)) : Nat → Int32) = va_cpy f g s1 d1 (i + 1) from cpy_s f g s1 d1 i)) hD
        exact ih3 (i + 1) (by omega) (by omega) H locs hP hD hS ls (lv_sub (l' := [(0, .ref a0), (1, .int (nI s1)), (2, .ref a1), (3, .int (nI d1)), (4, .int (nI (i + 1)))]) hl [1, 2, 3, 4, 0] rfl)
  have hP := q_Pc (w1 := [(a0, .inl (cy 0, n0, .inl f)), (a1, .inl (cy 0, n1, .inl g))]) (w2 := [(a0, .inl (cy 0, n0, .inl f)), (a1, .inl (cy 0, n1, .inl (va_cpy f g s1 d1 0)))]) (q_c1 (f := fun z0 => ([(a0, .inl (cy 0, n0, .inl f)), (a1, .inl (cy 0, n1, .inl z0))] : va_W)) (show (g : Nat → Int32) = va_cpy f g s1 d1 0 from (cpy_0 f g s1 d1).symm)) hP
  have hD := q_Dc (w1 := [(a0, .inl (cy 0, n0, .inl f)), (a1, .inl (cy 0, n1, .inl g))]) (w2 := [(a0, .inl (cy 0, n0, .inl f)), (a1, .inl (cy 0, n1, .inl (va_cpy f g s1 d1 0)))]) (q_c1 (f := fun z0 => ([(a0, .inl (cy 0, n0, .inl f)), (a1, .inl (cy 0, n1, .inl z0))] : va_W)) (show (g : Nat → Int32) = va_cpy f g s1 d1 0 from (cpy_0 f g s1 d1).symm)) hD
  exact L3_4 (29 + 1) 0 (by omega) (by omega) H locs hP hD hS ls (lv_sub (l' := [(0, .ref a0), (1, .int (nI s1)), (2, .ref a1), (3, .int (nI d1)), (4, .int (nI 0))]) hl [1, 2, 3, 4, 0] rfl)
theorem nX7_isMissing_0 : ∀ w ∈ wsX70, w ∈ wsX7_isMissing := by decide +kernel
theorem mX7_isMissing_1 : Cond.fieldLink RX7 7 "ClueLeaveModel" "lane" "[I" ∈ wsX7_isMissing := by decide +kernel
theorem mX7_isMissing_2 : Cond.constant RX7 50 (-1000000) ∈ wsX7_isMissing := by decide +kernel
set_option maxHeartbeats 4000000 in
set_option maxRecDepth 100000 in
theorem c_X7_isMissing (l : Launch) (D : va_G) (cy : Nat → ClassId) (m0 ml mm mit ms mt nw dr tr pa ig kx be tc : Nat) (st fk fp av sv ov vv : Int32) (tn ac td : Nat) (fl : Nat → Int32) (k z : Nat) (hk : k < 8) (hz : z ≤ 3) (hfl : fl k = mlC z) : q_Rd l yX7_isMissing wsX7_isMissing 1 D cy [(m0, .inr (7, [.ref ml, .ref mm, .ref mit, .ref ms, .int (st), .ref mt, .int (nI tn), .int (fk), .int (fp), .int (av), .int (sv), .int (ov), .int (vv), .ref nw, .ref dr, .ref tr, .ref pa, .int (nI ac), .ref ig, .ref kx, .ref be, .ref tc, .int (nI td)])), (ml, .inl (cy 0, 8, .inl fl))] [.ref m0, .int (nI k)] (fun r => r = nI 1 ∧ z = 3 ∨ r = nI 0 ∧ ¬ z = 3) := by
  refine q_rd_of (cc := cX7_isMissing) (maxL := 2) (ret := (some .boolean)) (by decide) rfl (Nat.le_of_ble_eq_true rfl) ?_
  intro pg en s mi args below meth cd hC hP hK ls hl
  obtain ⟨hx, hb, hr, hml, hown, hts, hlocks⟩ := hC
  have hl : lv_has ls 2 [(0, .ref m0), (1, .int (nI k))] := hl
  refine lv_aload_n hx hb dX7_isMissing_0 rfl (lv_at hl 0 rfl) ?_
  refine va_get (D := D) (ci := 7) (v := .ref ml) (C := RX7) (T := TX7) (N := 23) hx hb hts nX7_isMissing_0 hown hK.1 hP 0 rfl rfl 0 (by decide) (hts _ mX7_isMissing_1) (fun _ h9 => h9) rfl dX7_isMissing_1 ?_
  refine lv_iload_n hx hb dX7_isMissing_4 rfl (lv_at hl 1 rfl) ?_
  refine q_iald (j := k) (v := mlC z) hx hb hK hP 1 rfl (by omega) (by decide) (hfl) dX7_isMissing_5 ?_
  refine lv_ldc (v := (-1000000)) hx hb hown (hts _ mX7_isMissing_2) dX7_isMissing_6 ?_
  refine lv_icmp_ne (tgt := 15) hx hb dX7_isMissing_8 (by decide) (fun c1 => ?_) (fun c1 => ?_)
  · refine lv_iconst (v := nI 0) hx hb dX7_isMissing_15 (by decide) ?_
    exact q_zret (v := nI 0) hx hb hr hlocks dX7_isMissing_16 (by decide) (Or.inr ⟨rfl, fun q => c1 ((mlC_m hz).mpr q)⟩)
  · refine lv_iconst (v := nI 1) hx hb dX7_isMissing_11 (by decide) ?_
    refine lv_goto (tgt := 16) hx hb dX7_isMissing_12 (by decide) ?_
    exact q_zret (v := nI 1) hx hb hr hlocks dX7_isMissing_16 (by decide) (Or.inl ⟨rfl, (mlC_m hz).mp c1⟩)
set_option maxHeartbeats 4000000 in
set_option maxRecDepth 100000 in
theorem c_X7_cut (l : Launch) (D : va_G) (cy : Nat → ClassId) (k : Nat) (hk : k ≤ 2) (v : Int32) : q_Rd l yX7_cut wsX7_cut 1 D cy [] [.int (nI k), .int (v)] (fun r => r = lowB k v) := by
  refine q_rd_of (cc := cX7_cut) (maxL := 2) (ret := (some .int)) (by decide) rfl (Nat.le_of_ble_eq_true rfl) ?_
  intro pg en s mi args below meth cd hC hP hK ls hl
  obtain ⟨hx, hb, hr, hml, hown, hts, hlocks⟩ := hC
  have hl : lv_has ls 2 [(0, .int (nI k)), (1, .int (v))] := hl
  refine lv_iload_n hx hb dX7_cut_0 rfl (lv_at hl 0 rfl) ?_
  refine q_if_ne (tgt := 14) hx hb dX7_cut_1 (by decide) (by omega) (fun c1 => ?_) (fun c1 => ?_)
  · refine lv_iload_n hx hb dX7_cut_14 rfl (lv_at hl 0 rfl) ?_
    refine lv_iconst (v := nI 1) hx hb dX7_cut_15 (by decide) ?_
    refine q_icmp_ne (tgt := 29) hx hb dX7_cut_16 (by decide) (by omega) (by decide) (fun c2 => ?_) (fun c2 => ?_)
    · refine lv_iload_n hx hb dX7_cut_29 rfl (lv_at hl 1 rfl) ?_
      exact q_iret (v := v) hx hb hr hlocks dX7_cut_30 (by unfold lowB; rw [if_neg (by omega : ¬ k = 0), if_neg (by omega : ¬ k = 1)])
    · refine lv_iload_n hx hb dX7_cut_19 rfl (lv_at hl 1 rfl) ?_
      refine lv_bipush (v := nI 16) hx hb dX7_cut_20 (by decide) ?_
      refine lv_ishl hx hb dX7_cut_22 ?_
      refine lv_bipush (v := nI 16) hx hb dX7_cut_23 (by decide) ?_
      refine lv_ishr hx hb dX7_cut_25 ?_
      refine lv_goto (tgt := 30) hx hb dX7_cut_26 (by decide) ?_
      exact q_iret (v := (v <<< ((nI 16) &&& 31)) >>> ((nI 16) &&& 31)) hx hb hr hlocks dX7_cut_30 (by unfold lowB; rw [if_neg (by omega : ¬ k = 0), if_pos (by omega : k = 1)]; exact cut16 v)
  · refine lv_iload_n hx hb dX7_cut_4 rfl (lv_at hl 1 rfl) ?_
    refine lv_bipush (v := nI 24) hx hb dX7_cut_5 (by decide) ?_
    refine lv_ishl hx hb dX7_cut_7 ?_
    refine lv_bipush (v := nI 24) hx hb dX7_cut_8 (by decide) ?_
    refine lv_ishr hx hb dX7_cut_10 ?_
    refine lv_goto (tgt := 30) hx hb dX7_cut_11 (by decide) ?_
    exact q_iret (v := (v <<< ((nI 24) &&& 31)) >>> ((nI 24) &&& 31)) hx hb hr hlocks dX7_cut_30 (by unfold lowB; rw [if_pos (by omega : k = 0)]; exact cut8 v)
theorem nX7_row_0 : ∀ w ∈ wsX70, w ∈ wsX7_row := by decide +kernel
theorem mX7_row_1 : Cond.fieldLink RX7 7 "ClueLeaveModel" "lane" "[I" ∈ wsX7_row := by decide +kernel
theorem mX7_row_2 : Cond.fieldLink RX7 13 "ClueLeaveModel" "many" "[I" ∈ wsX7_row := by decide +kernel
theorem mX7_row_3 : Cond.fieldLink RX7 16 "ClueLeaveModel" "items" "[I" ∈ wsX7_row := by decide +kernel
theorem mX7_row_4 : Cond.constant RX7 64 (-1000001) ∈ wsX7_row := by decide +kernel
set_option maxHeartbeats 4000000 in
set_option maxRecDepth 100000 in
theorem c_X7_row (l : Launch) (D : va_G) (cy : Nat → ClassId) (m0 ml mm mit ms mt nw dr tr pa ig kx be tc : Nat) (st fk fp av sv ov vv : Int32) (tn ac td : Nat) (fl fz fi : Nat → Int32) (ln sz : Nat → Nat) (itS : Nat → Nat → Int32) (hrm : rmI ln sz itS fl fz fi) (x l2 n : Int32) : q_Wi l yX7_row wsX7_row 3 D cy [(m0, .inr (7, [.ref ml, .ref mm, .ref mit, .ref ms, .int (st), .ref mt, .int (nI tn), .int (fk), .int (fp), .int (av), .int (sv), .int (ov), .int (vv), .ref nw, .ref dr, .ref tr, .ref pa, .int (nI ac), .ref ig, .ref kx, .ref be, .ref tc, .int (nI td)])), (ml, .inl (cy 0, 8, .inl fl)), (mm, .inl (cy 0, 8, .inl fz)), (mit, .inl (cy 0, 320, .inl fi))] [.ref m0, .int (x), .int (l2), .int (n)] (fun r u => ∃ (st2 : Int32) (ln2 sz2 : Nat → Nat) (itS2 : Nat → Nat → Int32) (fl2 fz2 fi2 : Nat → Int32), oRow ln sz itS st x l2 n = (r, st2, ln2, sz2, itS2) ∧ rmI ln2 sz2 itS2 fl2 fz2 fi2 ∧ u = [(m0, .inr (7, [.ref ml, .ref mm, .ref mit, .ref ms, .int (st2), .ref mt, .int (nI tn), .int (fk), .int (fp), .int (av), .int (sv), .int (ov), .int (vv), .ref nw, .ref dr, .ref tr, .ref pa, .int (nI ac), .ref ig, .ref kx, .ref be, .ref tc, .int (nI td)])), (ml, .inl (cy 0, 8, .inl fl2)), (mm, .inl (cy 0, 8, .inl fz2)), (mit, .inl (cy 0, 320, .inl fi2))]) := by
  refine q_wi_of (cc := cX7_row) (maxL := 5) (ret := (some .int)) (by decide) rfl (Nat.le_of_ble_eq_true rfl) ?_
  intro pg en s mi args below meth cd A hC hA hK H locs hP hD hS ls hl
  obtain ⟨hx, hb, hr, hml, hown, hts, hlocks⟩ := hC
  have hl : lv_has ls 5 [(0, .ref m0), (1, .int (x)), (2, .int (l2)), (3, .int (n))] := hl
  refine lv_iload_n hx hb dX7_row_0 rfl (lv_at hl 1 rfl) ?_
  refine q_rS (As := [.int (x)]) (rest := []) ⟨hx, hb, hml, hown, hts⟩ (c_X7_isRow l D cy x) (va_cwS 1 hts gX7_row_X7_isRow rfl rfl rfl (by decide +kernel) ⟨Nat.le_of_ble_eq_true rfl, Nat.le_of_ble_eq_true rfl⟩) hP hK [] rfl rfl hl.1 rfl (Nat.le_of_ble_eq_true rfl) dX7_row_1 ⟨Nat.zero_le _, Nat.zero_le _⟩ (fun r1 hr1 => ?_)
  rcases hr1 with ⟨rfl, b2⟩ | ⟨rfl, b2⟩
  · have _ := b2
    refine lv_if_eq (tgt := 22) hx hb dX7_row_4 (by decide) (fun c9 => absurd c9 (by decide)) (fun _ => ?_)
    obtain ⟨k, -, hx_k, rfl⟩ := q_rng b2 (by decide) (by decide)
    refine lv_iload_n hx hb dX7_row_7 rfl (lv_at hl 2 rfl) ?_
    refine lv_iconst (v := nI 0) hx hb dX7_row_8 (by decide) ?_
    refine lv_iconst (v := nI 2) hx hb dX7_row_9 (by decide) ?_
    refine q_rS (As := [.int (l2), .int (nI 0), .int (nI 2)]) (rest := []) ⟨hx, hb, hml, hown, hts⟩ (c_X7_in l D cy l2 (nI 0) (nI 2)) (va_cwS 3 hts gX7_row_X7_in rfl rfl rfl (by decide +kernel) ⟨Nat.le_of_ble_eq_true rfl, Nat.le_of_ble_eq_true rfl⟩) hP hK [] rfl rfl hl.1 rfl (Nat.le_of_ble_eq_true rfl) dX7_row_10 ⟨Nat.zero_le _, Nat.zero_le _⟩ (fun r3 hr3 => ?_)
    rcases hr3 with ⟨rfl, b4⟩ | ⟨rfl, b4⟩
    · have _ := b4
      refine lv_if_eq (tgt := 22) hx hb dX7_row_13 (by decide) (fun c9 => absurd c9 (by decide)) (fun _ => ?_)
      obtain ⟨la, -, hx_la, rfl⟩ := q_rng b4 (by decide) (by decide)
      refine lv_iload_n hx hb dX7_row_16 rfl (lv_at hl 3 rfl) ?_
      refine lv_bipush (v := nI 40) hx hb dX7_row_17 (by decide) ?_
      refine lv_icmp_le (tgt := 25) hx hb dX7_row_19 (by decide) (fun c5 => ?_) (fun c5 => ?_)
      · refine lv_iload_n hx hb dX7_row_25 rfl (lv_at hl 3 rfl) ?_
        refine lv_if_ge (tgt := 35) hx hb dX7_row_26 (by decide) (fun c6 => ?_) (fun c6 => ?_)
        · obtain ⟨m, -, hm, rfl⟩ := q_rng ⟨c6, c5⟩ (by decide) (by decide)
          refine lv_aload_n hx hb dX7_row_35 rfl (lv_at hl 0 rfl) ?_
          refine va_get (D := D) (ci := 7) (v := .ref ml) (C := RX7) (T := TX7) (N := 23) hx hb hts nX7_row_0 hown hK.1 hP 0 rfl rfl 0 (by decide) (hts _ mX7_row_1) (fun _ h9 => h9) rfl dX7_row_36 ?_
          refine lv_iload_n hx hb dX7_row_39 rfl (lv_at hl 1 rfl) ?_
          refine lv_iload_n hx hb dX7_row_40 rfl (lv_at hl 2 rfl) ?_
          refine q_iast (j := k) hx hb hK hP hD hS 1 rfl (by omega) (by decide) dX7_row_41 (fun H locs hP hD hS => ?_)
          have hP : va_P D vwCl [(m0, .inr (7, [.ref ml, .ref mm, .ref mit, .ref ms, .int (st), .ref mt, .int (nI tn), .int (fk), .int (fp), .int (av), .int (sv), .int (ov), .int (vv), .ref nw, .ref dr, .ref tr, .ref pa, .int (nI ac), .ref ig, .ref kx, .ref be, .ref tc, .int (nI td)])), (ml, .inl (cy 0, 8, .inl (upd fl k (nI la)))), (mm, .inl (cy 0, 8, .inl fz)), (mit, .inl (cy 0, 320, .inl fi))] H := hP
          have hD : va_D A [(m0, .inr (7, [.ref ml, .ref mm, .ref mit, .ref ms, .int (st), .ref mt, .int (nI tn), .int (fk), .int (fp), .int (av), .int (sv), .int (ov), .int (vv), .ref nw, .ref dr, .ref tr, .ref pa, .int (nI ac), .ref ig, .ref kx, .ref be, .ref tc, .int (nI td)])), (ml, .inl (cy 0, 8, .inl (upd fl k (nI la)))), (mm, .inl (cy 0, 8, .inl fz)), (mit, .inl (cy 0, 320, .inl fi))] := hD
          refine lv_aload_n hx hb dX7_row_42 rfl (lv_at hl 0 rfl) ?_
          refine va_get (D := D) (ci := 7) (v := .ref mm) (C := RX7) (T := TX7) (N := 23) hx hb hts nX7_row_0 hown hK.1 hP 0 rfl rfl 1 (by decide) (hts _ mX7_row_2) (fun _ h9 => h9) rfl dX7_row_43 ?_
          refine lv_iload_n hx hb dX7_row_46 rfl (lv_at hl 1 rfl) ?_
          refine lv_iload_n hx hb dX7_row_47 rfl (lv_at hl 3 rfl) ?_
          refine q_iast (j := k) hx hb hK hP hD hS 2 rfl (by omega) (by decide) dX7_row_48 (fun H locs hP hD hS => ?_)
          have hP : va_P D vwCl [(m0, .inr (7, [.ref ml, .ref mm, .ref mit, .ref ms, .int (st), .ref mt, .int (nI tn), .int (fk), .int (fp), .int (av), .int (sv), .int (ov), .int (vv), .ref nw, .ref dr, .ref tr, .ref pa, .int (nI ac), .ref ig, .ref kx, .ref be, .ref tc, .int (nI td)])), (ml, .inl (cy 0, 8, .inl (upd fl k (nI la)))), (mm, .inl (cy 0, 8, .inl (upd fz k (nI m)))), (mit, .inl (cy 0, 320, .inl fi))] H := hP
          have hD : va_D A [(m0, .inr (7, [.ref ml, .ref mm, .ref mit, .ref ms, .int (st), .ref mt, .int (nI tn), .int (fk), .int (fp), .int (av), .int (sv), .int (ov), .int (vv), .ref nw, .ref dr, .ref tr, .ref pa, .int (nI ac), .ref ig, .ref kx, .ref be, .ref tc, .int (nI td)])), (ml, .inl (cy 0, 8, .inl (upd fl k (nI la)))), (mm, .inl (cy 0, 8, .inl (upd fz k (nI m)))), (mit, .inl (cy 0, 320, .inl fi))] := hD
          refine lv_iconst (v := nI 0) hx hb dX7_row_49 (by decide) ?_
          refine lv_istore (lv' := [(4, .int (nI 0)), (0, .ref m0), (1, .int (nI k)), (2, .int (nI la)), (3, .int (nI m))]) hx hb dX7_row_50 hl (by decide) rfl (fun ls hl => ?_)
          have L52_38 : ∀ (fu i : Nat), i ≤ 40 → 40 < i + fu → ∀ (H : Heap) (locs : List Loc), va_P D vwCl [(m0, .inr (7, [.ref ml, .ref mm, .ref mit, .ref ms, .int (st), .ref mt, .int (nI tn), .int (fk), .int (fp), .int (av), .int (sv), .int (ov), .int (vv), .ref nw, .ref dr, .ref tr, .ref pa, .int (nI ac), .ref ig, .ref kx, .ref be, .ref tc, .int (nI td)])), (ml, .inl (cy 0, 8, .inl (upd fl k (nI la)))), (mm, .inl (cy 0, 8, .inl (upd fz k (nI m)))), (mit, .inl (cy 0, 320, .inl (va_cpy (fun _ => nI 0) fi 0 (40 * k) i)))] H → va_D A [(m0, .inr (7, [.ref ml, .ref mm, .ref mit, .ref ms, .int (st), .ref mt, .int (nI tn), .int (fk), .int (fp), .int (av), .int (sv), .int (ov), .int (vv), .ref nw, .ref dr, .ref tr, .ref pa, .int (nI ac), .ref ig, .ref kx, .ref be, .ref tc, .int (nI td)])), (ml, .inl (cy 0, 8, .inl (upd fl k (nI la)))), (mm, .inl (cy 0, 8, .inl (upd fz k (nI m)))), (mit, .inl (cy 0, 320, .inl (va_cpy (fun _ => nI 0) fi 0 (40 * k) i)))] → va_S A s.heap H locs → ∀ ls : Array Slot, lv_has ls 5 [(0, .ref m0), (1, .int (nI k)), (2, .int (nI la)), (3, .int (nI m)), (4, .int (nI i))] → W pg l en (q_rm 3) s mi args below meth cd H locs 0 0 (MQ below (va_Qi (fun r u => ∃ (st2 : Int32) (ln2 sz2 : Nat → Nat) (itS2 : Nat → Nat → Int32) (fl2 fz2 fi2 : Nat → Int32), oRow ln sz itS st (nI k) (nI la) (nI m) = (r, st2, ln2, sz2, itS2) ∧ rmI ln2 sz2 itS2 fl2 fz2 fi2 ∧ u = [(m0, .inr (7, [.ref ml, .ref mm, .ref mit, .ref ms, .int (st2), .ref mt, .int (nI tn), .int (fk), .int (fp), .int (av), .int (sv), .int (ov), .int (vv), .ref nw, .ref dr, .ref tr, .ref pa, .int (nI ac), .ref ig, .ref kx, .ref be, .ref tc, .int (nI td)])), (ml, .inl (cy 0, 8, .inl fl2)), (mm, .inl (cy 0, 8, .inl fz2)), (mit, .inl (cy 0, 320, .inl fi2))]) (fun (u : va_W) t => va_P D vwCl u t.heap ∧ va_D A u) A) args s 0 0 A) (F0 mi 52 ls []) := by
            intro fu
            induction fu with
            | zero =>
              intro i h1 h2
              exact absurd h2 (by omega)
            | succ fu ih52 =>
              intro i h1_52 h2_52 H locs hP hD hS ls hl
              refine lv_iload hx hb dX7_row_52 (lv_at hl 4 rfl) ?_
              refine lv_bipush (v := nI 40) hx hb dX7_row_54 (by decide) ?_
              refine q_icmp_ge (tgt := 78) hx hb dX7_row_56 (by decide) (by omega) (by decide) (fun c7 => ?_) (fun c7 => ?_)
              · have hi40 : i = 40 := by omega
                refine lv_aload_n hx hb dX7_row_78 rfl (lv_at hl 0 rfl) ?_
                refine lv_iload_n hx hb dX7_row_79 rfl (lv_at hl 3 rfl) ?_
                refine q_wiV (As := [.int (nI m)]) (rest := []) (wr := [(ml, .inl (cy 0, 8, .inl (upd fl k (nI la)))), (mm, .inl (cy 0, 8, .inl (upd fz k (nI m)))), (mit, .inl (cy 0, 320, .inl (va_cpy (fun _ => nI 0) fi 0 (40 * k) i)))]) ⟨hx, hb, hml, hown, hts⟩ (c_X7_well l D cy m0 ml mm mit ms mt nw dr tr pa ig kx be tc st fk fp av sv ov vv tn ac td (nI m)) (cwV 1 hts gX7_row_X7_well rfl rfl rfl (by decide +kernel) ⟨Nat.le_of_ble_eq_true rfl, Nat.le_of_ble_eq_true rfl⟩) hP hD hS hA hK [0] [1, 2, 3] rfl rfl (by decide) rfl (by decide) (by decide) 0 rfl rfl rfl rfl hl.1 rfl (Nat.le_of_ble_eq_true rfl) dX7_row_80 ⟨Nat.zero_le _, Nat.zero_le _⟩ (fun r8 u9 H locs hr8 hP hD hS => ?_)
                obtain ⟨rfl, rfl⟩ := hr8
                have hP : va_P D vwCl [(ml, .inl (cy 0, 8, .inl (upd fl k (nI la)))), (mm, .inl (cy 0, 8, .inl (upd fz k (nI m)))), (mit, .inl (cy 0, 320, .inl (va_cpy (fun _ => nI 0) fi 0 (40 * k) i))), (m0, .inr (7, [.ref ml, .ref mm, .ref mit, .ref ms, .int (nI 0), .ref mt, .int (nI tn), .int (fk), .int (fp), .int (av), .int (sv), .int (ov), .int (vv), .ref nw, .ref dr, .ref tr, .ref pa, .int (nI ac), .ref ig, .ref kx, .ref be, .ref tc, .int (nI td)]))] H := hP
                have hD : va_D A [(ml, .inl (cy 0, 8, .inl (upd fl k (nI la)))), (mm, .inl (cy 0, 8, .inl (upd fz k (nI m)))), (mit, .inl (cy 0, 320, .inl (va_cpy (fun _ => nI 0) fi 0 (40 * k) i))), (m0, .inr (7, [.ref ml, .ref mm, .ref mit, .ref ms, .int (nI 0), .ref mt, .int (nI tn), .int (fk), .int (fp), .int (av), .int (sv), .int (ov), .int (vv), .ref nw, .ref dr, .ref tr, .ref pa, .int (nI ac), .ref ig, .ref kx, .ref be, .ref tc, .int (nI td)]))] := hD
                have hP9 := hP.sub (ws' := [(m0, .inr (7, [.ref ml, .ref mm, .ref mit, .ref ms, .int (nI 0), .ref mt, .int (nI tn), .int (fk), .int (fp), .int (av), .int (sv), .int (ov), .int (vv), .ref nw, .ref dr, .ref tr, .ref pa, .int (nI ac), .ref ig, .ref kx, .ref be, .ref tc, .int (nI td)])), (ml, .inl (cy 0, 8, .inl (upd fl k (nI la)))), (mm, .inl (cy 0, 8, .inl (upd fz k (nI m)))), (mit, .inl (cy 0, 320, .inl (va_cpy (fun _ => nI 0) fi 0 (40 * k) i)))]) [3, 0, 1, 2] rfl
                have hD9 := hD.sub (ws' := [(m0, .inr (7, [.ref ml, .ref mm, .ref mit, .ref ms, .int (nI 0), .ref mt, .int (nI tn), .int (fk), .int (fp), .int (av), .int (sv), .int (ov), .int (vv), .ref nw, .ref dr, .ref tr, .ref pa, .int (nI ac), .ref ig, .ref kx, .ref be, .ref tc, .int (nI td)])), (ml, .inl (cy 0, 8, .inl (upd fl k (nI la)))), (mm, .inl (cy 0, 8, .inl (upd fz k (nI m)))), (mit, .inl (cy 0, 320, .inl (va_cpy (fun _ => nI 0) fi 0 (40 * k) i)))]) [3, 0, 1, 2] (by decide) rfl
                exact q_wiret (v := nI m) hx hb hr hlocks dX7_row_83 hP9 hD9 hS (⟨_, _, _, _, _, _, _, by simp only [oRow, q_cl (by omega : k < 2147483648), q_cl (by omega : la < 2147483648), q_cl (by omega : m < 2147483648), if_pos b2, if_pos b4, if_pos c5, if_pos c6], rmI_iq hi40 (rmI_row hrm (by omega) (by omega) (by omega)), rfl⟩)
              · refine lv_aload_n hx hb dX7_row_59 rfl (lv_at hl 0 rfl) ?_
                refine va_get (D := D) (ci := 7) (v := .ref mit) (C := RX7) (T := TX7) (N := 23) hx hb hts nX7_row_0 hown hK.1 hP 0 rfl rfl 2 (by decide) (hts _ mX7_row_3) (fun _ h9 => h9) rfl dX7_row_60 ?_
                refine lv_bipush (v := nI 40) hx hb dX7_row_63 (by decide) ?_
                refine lv_iload_n hx hb dX7_row_65 rfl (lv_at hl 1 rfl) ?_
                refine lv_imul hx hb dX7_row_66 ?_
                refine q_top (y := nI (40 * k)) (pk_mul _ _) ?_
                refine lv_iload hx hb dX7_row_67 (lv_at hl 4 rfl) ?_
                refine lv_iadd hx hb dX7_row_69 ?_
                refine q_top (y := nI ((40 * k) + i)) (nI_add _ _) ?_
                refine lv_iconst (v := nI 0) hx hb dX7_row_70 (by decide) ?_
                refine q_iast (j := ((40 * k) + i)) hx hb hK hP hD hS 3 rfl (by omega) (by decide) dX7_row_71 (fun H locs hP hD hS => ?_)
                have hP : va_P D vwCl [(m0, .inr (7, [.ref ml, .ref mm, .ref mit, .ref ms, .int (st), .ref mt, .int (nI tn), .int (fk), .int (fp), .int (av), .int (sv), .int (ov), .int (vv), .ref nw, .ref dr, .ref tr, .ref pa, .int (nI ac), .ref ig, .ref kx, .ref be, .ref tc, .int (nI td)])), (ml, .inl (cy 0, 8, .inl (upd fl k (nI la)))), (mm, .inl (cy 0, 8, .inl (upd fz k (nI m)))), (mit, .inl (cy 0, 320, .inl (upd (va_cpy (fun _ => nI 0) fi 0 (40 * k) i) ((40 * k) + i) (nI 0))))] H := hP
                have hD : va_D A [(m0, .inr (7, [.ref ml, .ref mm, .ref mit, .ref ms, .int (st), .ref mt, .int (nI tn), .int (fk), .int (fp), .int (av), .int (sv), .int (ov), .int (vv), .ref nw, .ref dr, .ref tr, .ref pa, .int (nI ac), .ref ig, .ref kx, .ref be, .ref tc, .int (nI td)])), (ml, .inl (cy 0, 8, .inl (upd fl k (nI la)))), (mm, .inl (cy 0, 8, .inl (upd fz k (nI m)))), (mit, .inl (cy 0, 320, .inl (upd (va_cpy (fun _ => nI 0) fi 0 (40 * k) i) ((40 * k) + i) (nI 0))))] := hD
                refine lv_iinc (v := nI (i + 1)) (lv' := [(4, .int (nI (i + 1))), (0, .ref m0), (1, .int (nI k)), (2, .int (nI la)), (3, .int (nI m))]) hx hb dX7_row_72 hl (k := 4) rfl (q_inc i 1) (by decide) rfl (fun ls hl => ?_)
                refine lv_goto (tgt := 52) hx hb dX7_row_75 (by decide) ?_
                have hP := q_Pc (w1 := [(m0, .inr (7, [.ref ml, .ref mm, .ref mit, .ref ms, .int (st), .ref mt, .int (nI tn), .int (fk), .int (fp), .int (av), .int (sv), .int (ov), .int (vv), .ref nw, .ref dr, .ref tr, .ref pa, .int (nI ac), .ref ig, .ref kx, .ref be, .ref tc, .int (nI td)])), (ml, .inl (cy 0, 8, .inl (upd fl k (nI la)))), (mm, .inl (cy 0, 8, .inl (upd fz k (nI m)))), (mit, .inl (cy 0, 320, .inl (upd (va_cpy (fun _ => nI 0) fi 0 (40 * k) i) ((40 * k) + i) (nI 0))))]) (w2 := [(m0, .inr (7, [.ref ml, .ref mm, .ref mit, .ref ms, .int (st), .ref mt, .int (nI tn), .int (fk), .int (fp), .int (av), .int (sv), .int (ov), .int (vv), .ref nw, .ref dr, .ref tr, .ref pa, .int (nI ac), .ref ig, .ref kx, .ref be, .ref tc, .int (nI td)])), (ml, .inl (cy 0, 8, .inl (upd fl k (nI la)))), (mm, .inl (cy 0, 8, .inl (upd fz k (nI m)))), (mit, .inl (cy 0, 320, .inl (va_cpy (fun _ => nI 0) fi 0 (40 * k) (i + 1))))]) (q_c1 (f := fun z0 => ([(m0, .inr (7, [.ref ml, .ref mm, .ref mit, .ref ms, .int (st), .ref mt, .int (nI tn), .int (fk), .int (fp), .int (av), .int (sv), .int (ov), .int (vv), .ref nw, .ref dr, .ref tr, .ref pa, .int (nI ac), .ref ig, .ref kx, .ref be, .ref tc, .int (nI td)])), (ml, .inl (cy 0, 8, .inl (upd fl k (nI la)))), (mm, .inl (cy 0, 8, .inl (upd fz k (nI m)))), (mit, .inl (cy 0, 320, .inl z0))] : va_W)) (show (upd (va_cpy (fun _ => nI 0) fi 0 (40 * k) i) ((40 * k) + i) (nI 0) : Nat → Int32) = va_cpy (fun _ => nI 0) fi 0 (40 * k) (i + 1) from cpy_s (fun _ => nI 0) fi 0 (40 * k) i)) hP
                have hD := q_Dc (w1 := [(m0, .inr (7, [.ref ml, .ref mm, .ref mit, .ref ms, .int (st), .ref mt, .int (nI tn), .int (fk), .int (fp), .int (av), .int (sv), .int (ov), .int (vv), .ref nw, .ref dr, .ref tr, .ref pa, .int (nI ac), .ref ig, .ref kx, .ref be, .ref tc, .int (nI td)])), (ml, .inl (cy 0, 8, .inl (upd fl k (nI la)))), (mm, .inl (cy 0, 8, .inl (upd fz k (nI m)))), (mit, .inl (cy 0, 320, .inl (upd (va_cpy (fun _ => nI 0) fi 0 (40 * k) i) ((40 * k) + i) (nI 0))))]) (w2 := [(m0, .inr (7, [.ref ml, .ref mm, .ref mit, .ref ms, .int (st), .ref mt, .int (nI tn), .int (fk), .int (fp), .int (av), .int (sv), .int (ov), .int (vv), .ref nw, .ref dr, .ref tr, .ref pa, .int (nI ac), .ref ig, .ref kx, .ref be, .ref tc, .int (nI td)])), (ml, .inl (cy 0, 8, .inl (upd fl k (nI la)))), (mm, .inl (cy 0, 8, .inl (upd fz k (nI m)))), (mit, .inl (cy 0, 320, .inl (va_cpy (fun _ => nI 0) fi 0 (40 * k) (i + 1))))]) (q_c1 (f := fun z0 => ([(m0, .inr (7, [.ref ml, .ref mm, .ref mit, .ref ms, .int (st), .ref mt, .int (nI tn), .int (fk), .int (fp), .int (av), .int (sv), .int (ov), .int (vv), .ref nw, .ref dr, .ref tr, .ref pa, .int (nI ac), .ref ig, .ref kx, .ref be, .ref tc, .int (nI td)])), (ml, .inl (cy 0, 8, .inl (upd fl k (nI la)))), (mm, .inl (cy 0, 8, .inl (upd fz k (nI m)))), (mit, .inl (cy 0, 320, .inl z0))] : va_W)) (show (upd (va_cpy (fun _ => nI 0) fi 0 (40 * k) i) ((40 * k) + i) (nI 0) : Nat → Int32) = va_cpy (fun _ => nI 0) fi 0 (40 * k) (i + 1) from cpy_s (fun _ => nI 0) fi 0 (40 * k) i)) hD
                exact ih52 (i + 1) (by omega) (by omega) H locs hP hD hS ls (lv_sub (l' := [(0, .ref m0), (1, .int (nI k)), (2, .int (nI la)), (3, .int (nI m)), (4, .int (nI (i + 1)))]) hl [1, 2, 3, 4, 0] rfl)
          have hP := q_Pc (w1 := [(m0, .inr (7, [.ref ml, .ref mm, .ref mit, .ref ms, .int (st), .ref mt, .int (nI tn), .int (fk), .int (fp), .int (av), .int (sv), .int (ov), .int (vv), .ref nw, .ref dr, .ref tr, .ref pa, .int (nI ac), .ref ig, .ref kx, .ref be, .ref tc, .int (nI td)])), (ml, .inl (cy 0, 8, .inl (upd fl k (nI la)))), (mm, .inl (cy 0, 8, .inl (upd fz k (nI m)))), (mit, .inl (cy 0, 320, .inl fi))]) (w2 := [(m0, .inr (7, [.ref ml, .ref mm, .ref mit, .ref ms, .int (st), .ref mt, .int (nI tn), .int (fk), .int (fp), .int (av), .int (sv), .int (ov), .int (vv), .ref nw, .ref dr, .ref tr, .ref pa, .int (nI ac), .ref ig, .ref kx, .ref be, .ref tc, .int (nI td)])), (ml, .inl (cy 0, 8, .inl (upd fl k (nI la)))), (mm, .inl (cy 0, 8, .inl (upd fz k (nI m)))), (mit, .inl (cy 0, 320, .inl (va_cpy (fun _ => nI 0) fi 0 (40 * k) 0)))]) (q_c1 (f := fun z0 => ([(m0, .inr (7, [.ref ml, .ref mm, .ref mit, .ref ms, .int (st), .ref mt, .int (nI tn), .int (fk), .int (fp), .int (av), .int (sv), .int (ov), .int (vv), .ref nw, .ref dr, .ref tr, .ref pa, .int (nI ac), .ref ig, .ref kx, .ref be, .ref tc, .int (nI td)])), (ml, .inl (cy 0, 8, .inl (upd fl k (nI la)))), (mm, .inl (cy 0, 8, .inl (upd fz k (nI m)))), (mit, .inl (cy 0, 320, .inl z0))] : va_W)) (show (fi : Nat → Int32) = va_cpy (fun _ => nI 0) fi 0 (40 * k) 0 from (cpy_0 (fun _ => nI 0) fi 0 (40 * k)).symm)) hP
          have hD := q_Dc (w1 := [(m0, .inr (7, [.ref ml, .ref mm, .ref mit, .ref ms, .int (st), .ref mt, .int (nI tn), .int (fk), .int (fp), .int (av), .int (sv), .int (ov), .int (vv), .ref nw, .ref dr, .ref tr, .ref pa, .int (nI ac), .ref ig, .ref kx, .ref be, .ref tc, .int (nI td)])), (ml, .inl (cy 0, 8, .inl (upd fl k (nI la)))), (mm, .inl (cy 0, 8, .inl (upd fz k (nI m)))), (mit, .inl (cy 0, 320, .inl fi))]) (w2 := [(m0, .inr (7, [.ref ml, .ref mm, .ref mit, .ref ms, .int (st), .ref mt, .int (nI tn), .int (fk), .int (fp), .int (av), .int (sv), .int (ov), .int (vv), .ref nw, .ref dr, .ref tr, .ref pa, .int (nI ac), .ref ig, .ref kx, .ref be, .ref tc, .int (nI td)])), (ml, .inl (cy 0, 8, .inl (upd fl k (nI la)))), (mm, .inl (cy 0, 8, .inl (upd fz k (nI m)))), (mit, .inl (cy 0, 320, .inl (va_cpy (fun _ => nI 0) fi 0 (40 * k) 0)))]) (q_c1 (f := fun z0 => ([(m0, .inr (7, [.ref ml, .ref mm, .ref mit, .ref ms, .int (st), .ref mt, .int (nI tn), .int (fk), .int (fp), .int (av), .int (sv), .int (ov), .int (vv), .ref nw, .ref dr, .ref tr, .ref pa, .int (nI ac), .ref ig, .ref kx, .ref be, .ref tc, .int (nI td)])), (ml, .inl (cy 0, 8, .inl (upd fl k (nI la)))), (mm, .inl (cy 0, 8, .inl (upd fz k (nI m)))), (mit, .inl (cy 0, 320, .inl z0))] : va_W)) (show (fi : Nat → Int32) = va_cpy (fun _ => nI 0) fi 0 (40 * k) 0 from (cpy_0 (fun _ => nI 0) fi 0 (40 * k)).symm)) hD
          exact L52_38 (40 + 1) 0 (by omega) (by omega) H locs hP hD hS ls (lv_sub (l' := [(0, .ref m0), (1, .int (nI k)), (2, .int (nI la)), (3, .int (nI m)), (4, .int (nI 0))]) hl [1, 2, 3, 4, 0] rfl)
        · refine lv_aload_n hx hb dX7_row_29 rfl (lv_at hl 0 rfl) ?_
          refine lv_iconst (v := nI 4) hx hb dX7_row_30 (by decide) ?_
          refine q_wiV (As := [.int (nI 4)]) (rest := []) (wr := [(ml, .inl (cy 0, 8, .inl fl)), (mm, .inl (cy 0, 8, .inl fz)), (mit, .inl (cy 0, 320, .inl fi))]) ⟨hx, hb, hml, hown, hts⟩ (c_X7_found l D cy m0 ml mm mit ms mt nw dr tr pa ig kx be tc st fk fp av sv ov vv tn ac td (nI 4)) (cwV 1 hts gX7_row_X7_found rfl rfl rfl (by decide +kernel) ⟨Nat.le_of_ble_eq_true rfl, Nat.le_of_ble_eq_true rfl⟩) hP hD hS hA hK [0] [1, 2, 3] rfl rfl (by decide) rfl (by decide) (by decide) 0 rfl rfl rfl rfl hl.1 rfl (Nat.le_of_ble_eq_true rfl) dX7_row_31 ⟨Nat.zero_le _, Nat.zero_le _⟩ (fun r10 u11 H locs hr10 hP hD hS => ?_)
          obtain ⟨rfl, rfl⟩ := hr10
          have hP : va_P D vwCl [(ml, .inl (cy 0, 8, .inl fl)), (mm, .inl (cy 0, 8, .inl fz)), (mit, .inl (cy 0, 320, .inl fi)), (m0, .inr (7, [.ref ml, .ref mm, .ref mit, .ref ms, .int (nI 4), .ref mt, .int (nI tn), .int (fk), .int (fp), .int (av), .int (sv), .int (ov), .int (vv), .ref nw, .ref dr, .ref tr, .ref pa, .int (nI ac), .ref ig, .ref kx, .ref be, .ref tc, .int (nI td)]))] H := hP
          have hD : va_D A [(ml, .inl (cy 0, 8, .inl fl)), (mm, .inl (cy 0, 8, .inl fz)), (mit, .inl (cy 0, 320, .inl fi)), (m0, .inr (7, [.ref ml, .ref mm, .ref mit, .ref ms, .int (nI 4), .ref mt, .int (nI tn), .int (fk), .int (fp), .int (av), .int (sv), .int (ov), .int (vv), .ref nw, .ref dr, .ref tr, .ref pa, .int (nI ac), .ref ig, .ref kx, .ref be, .ref tc, .int (nI td)]))] := hD
          refine q_top (y := (-1000014)) (by decide) ?_
          have hP9 := hP.sub (ws' := [(m0, .inr (7, [.ref ml, .ref mm, .ref mit, .ref ms, .int (nI 4), .ref mt, .int (nI tn), .int (fk), .int (fp), .int (av), .int (sv), .int (ov), .int (vv), .ref nw, .ref dr, .ref tr, .ref pa, .int (nI ac), .ref ig, .ref kx, .ref be, .ref tc, .int (nI td)])), (ml, .inl (cy 0, 8, .inl fl)), (mm, .inl (cy 0, 8, .inl fz)), (mit, .inl (cy 0, 320, .inl fi))]) [3, 0, 1, 2] rfl
          have hD9 := hD.sub (ws' := [(m0, .inr (7, [.ref ml, .ref mm, .ref mit, .ref ms, .int (nI 4), .ref mt, .int (nI tn), .int (fk), .int (fp), .int (av), .int (sv), .int (ov), .int (vv), .ref nw, .ref dr, .ref tr, .ref pa, .int (nI ac), .ref ig, .ref kx, .ref be, .ref tc, .int (nI td)])), (ml, .inl (cy 0, 8, .inl fl)), (mm, .inl (cy 0, 8, .inl fz)), (mit, .inl (cy 0, 320, .inl fi))]) [3, 0, 1, 2] (by decide) rfl
          exact q_wiret (v := (-1000014)) hx hb hr hlocks dX7_row_34 hP9 hD9 hS (⟨_, _, _, _, _, _, _, by simp only [oRow, if_pos b2, if_pos b4, if_pos c5, if_neg c6], hrm, rfl⟩)
      · refine lv_ldc (v := (-1000001)) hx hb hown (hts _ mX7_row_4) dX7_row_22 ?_
        have hP9 := hP
        have hD9 := hD
        exact q_wiret (v := (-1000001)) hx hb hr hlocks dX7_row_24 hP9 hD9 hS (⟨_, _, _, _, _, _, _, by simp only [oRow, if_pos b2, if_pos b4, if_neg c5], hrm, rfl⟩)
    · have _ := b4
      refine lv_if_eq (tgt := 22) hx hb dX7_row_13 (by decide) (fun _ => ?_) (fun c9 => absurd (by decide) c9)
      refine lv_ldc (v := (-1000001)) hx hb hown (hts _ mX7_row_4) dX7_row_22 ?_
      have hP9 := hP
      have hD9 := hD
      exact q_wiret (v := (-1000001)) hx hb hr hlocks dX7_row_24 hP9 hD9 hS (⟨_, _, _, _, _, _, _, by simp only [oRow, if_pos b2, if_neg b4], hrm, rfl⟩)
  · have _ := b2
    refine lv_if_eq (tgt := 22) hx hb dX7_row_4 (by decide) (fun _ => ?_) (fun c9 => absurd (by decide) c9)
    refine lv_ldc (v := (-1000001)) hx hb hown (hts _ mX7_row_4) dX7_row_22 ?_
    have hP9 := hP
    have hD9 := hD
    exact q_wiret (v := (-1000001)) hx hb hr hlocks dX7_row_24 hP9 hD9 hS (⟨_, _, _, _, _, _, _, by simp only [oRow, if_neg b2], hrm, rfl⟩)
theorem nX7_set_0 : ∀ w ∈ wsX70, w ∈ wsX7_set := by decide +kernel
theorem mX7_set_1 : Cond.fieldLink RX7 13 "ClueLeaveModel" "many" "[I" ∈ wsX7_set := by decide +kernel
theorem mX7_set_2 : Cond.fieldLink RX7 16 "ClueLeaveModel" "items" "[I" ∈ wsX7_set := by decide +kernel
theorem mX7_set_3 : Cond.fieldLink RX7 7 "ClueLeaveModel" "lane" "[I" ∈ wsX7_set := by decide +kernel
theorem mX7_set_4 : Cond.constant RX7 64 (-1000001) ∈ wsX7_set := by decide +kernel
set_option maxHeartbeats 4000000 in
set_option maxRecDepth 100000 in
theorem c_X7_set (l : Launch) (D : va_G) (cy : Nat → ClassId) (m0 ml mm mit ms mt nw dr tr pa ig kx be tc : Nat) (st fk fp av sv ov vv : Int32) (tn ac td : Nat) (fl fz fi : Nat → Int32) (ln sz : Nat → Nat) (itS : Nat → Nat → Int32) (hrm : rmI ln sz itS fl fz fi) (x i v : Int32) : q_Wi l yX7_set wsX7_set 3 D cy [(m0, .inr (7, [.ref ml, .ref mm, .ref mit, .ref ms, .int (st), .ref mt, .int (nI tn), .int (fk), .int (fp), .int (av), .int (sv), .int (ov), .int (vv), .ref nw, .ref dr, .ref tr, .ref pa, .int (nI ac), .ref ig, .ref kx, .ref be, .ref tc, .int (nI td)])), (ml, .inl (cy 0, 8, .inl fl)), (mm, .inl (cy 0, 8, .inl fz)), (mit, .inl (cy 0, 320, .inl fi))] [.ref m0, .int (x), .int (i), .int (v)] (fun r u => ∃ (st2 : Int32) (ln2 sz2 : Nat → Nat) (itS2 : Nat → Nat → Int32) (fl2 fz2 fi2 : Nat → Int32), oSet ln sz itS st x i v = (r, st2, ln2, sz2, itS2) ∧ rmI ln2 sz2 itS2 fl2 fz2 fi2 ∧ u = [(m0, .inr (7, [.ref ml, .ref mm, .ref mit, .ref ms, .int (st2), .ref mt, .int (nI tn), .int (fk), .int (fp), .int (av), .int (sv), .int (ov), .int (vv), .ref nw, .ref dr, .ref tr, .ref pa, .int (nI ac), .ref ig, .ref kx, .ref be, .ref tc, .int (nI td)])), (ml, .inl (cy 0, 8, .inl fl2)), (mm, .inl (cy 0, 8, .inl fz2)), (mit, .inl (cy 0, 320, .inl fi2))]) := by
  refine q_wi_of (cc := cX7_set) (maxL := 4) (ret := (some .int)) (by decide) rfl (Nat.le_of_ble_eq_true rfl) ?_
  intro pg en s mi args below meth cd A hC hA hK H locs hP hD hS ls hl
  obtain ⟨hx, hb, hr, hml, hown, hts, hlocks⟩ := hC
  have hl : lv_has ls 4 [(0, .ref m0), (1, .int (x)), (2, .int (i)), (3, .int (v))] := hl
  refine lv_iload_n hx hb dX7_set_0 rfl (lv_at hl 1 rfl) ?_
  refine q_rS (As := [.int (x)]) (rest := []) ⟨hx, hb, hml, hown, hts⟩ (c_X7_isRow l D cy x) (va_cwS 1 hts gX7_set_X7_isRow rfl rfl rfl (by decide +kernel) ⟨Nat.le_of_ble_eq_true rfl, Nat.le_of_ble_eq_true rfl⟩) hP hK [] rfl rfl hl.1 rfl (Nat.le_of_ble_eq_true rfl) dX7_set_1 ⟨Nat.zero_le _, Nat.zero_le _⟩ (fun r1 hr1 => ?_)
  rcases hr1 with ⟨rfl, b2⟩ | ⟨rfl, b2⟩
  · have _ := b2
    refine lv_if_ne (tgt := 10) hx hb dX7_set_4 (by decide) (fun _ => ?_) (fun c9 => absurd c9 (by decide))
    obtain ⟨k, -, hx_k, rfl⟩ := q_rng b2 (by decide) (by decide)
    obtain ⟨-, -, hz40, hl3⟩ := hrm.1 k (by omega)
    refine lv_aload_n hx hb dX7_set_10 rfl (lv_at hl 0 rfl) ?_
    refine lv_iload_n hx hb dX7_set_11 rfl (lv_at hl 1 rfl) ?_
    refine q_rV (As := [.int (nI k)]) (rest := []) ⟨hx, hb, hml, hown, hts⟩ (c_X7_isMissing l D cy m0 ml mm mit ms mt nw dr tr pa ig kx be tc st fk fp av sv ov vv tn ac td fl k (ln k) (by omega) (rmI_3 hrm (by omega)) (rmI_0 hrm (by omega))) (cwV 1 hts gX7_set_X7_isMissing rfl rfl rfl (by decide +kernel) ⟨Nat.le_of_ble_eq_true rfl, Nat.le_of_ble_eq_true rfl⟩) hP hK [0, 1] rfl 0 rfl rfl rfl rfl hl.1 rfl (Nat.le_of_ble_eq_true rfl) dX7_set_12 ⟨Nat.zero_le _, Nat.zero_le _⟩ (fun r3 hr3 => ?_)
    rcases hr3 with ⟨rfl, b4⟩ | ⟨rfl, b4⟩
    · have _ := b4
      refine lv_if_eq (tgt := 24) hx hb dX7_set_15 (by decide) (fun c9 => absurd c9 (by decide)) (fun _ => ?_)
      refine lv_aload_n hx hb dX7_set_18 rfl (lv_at hl 0 rfl) ?_
      refine lv_iconst (v := nI 1) hx hb dX7_set_19 (by decide) ?_
      refine q_wiV (As := [.int (nI 1)]) (rest := []) (wr := [(ml, .inl (cy 0, 8, .inl fl)), (mm, .inl (cy 0, 8, .inl fz)), (mit, .inl (cy 0, 320, .inl fi))]) ⟨hx, hb, hml, hown, hts⟩ (c_X7_found l D cy m0 ml mm mit ms mt nw dr tr pa ig kx be tc st fk fp av sv ov vv tn ac td (nI 1)) (cwV 1 hts gX7_set_X7_found rfl rfl rfl (by decide +kernel) ⟨Nat.le_of_ble_eq_true rfl, Nat.le_of_ble_eq_true rfl⟩) hP hD hS hA hK [0] [1, 2, 3] rfl rfl (by decide) rfl (by decide) (by decide) 0 rfl rfl rfl rfl hl.1 rfl (Nat.le_of_ble_eq_true rfl) dX7_set_20 ⟨Nat.zero_le _, Nat.zero_le _⟩ (fun r5 u6 H locs hr5 hP hD hS => ?_)
      obtain ⟨rfl, rfl⟩ := hr5
      have hP : va_P D vwCl [(ml, .inl (cy 0, 8, .inl fl)), (mm, .inl (cy 0, 8, .inl fz)), (mit, .inl (cy 0, 320, .inl fi)), (m0, .inr (7, [.ref ml, .ref mm, .ref mit, .ref ms, .int (nI 1), .ref mt, .int (nI tn), .int (fk), .int (fp), .int (av), .int (sv), .int (ov), .int (vv), .ref nw, .ref dr, .ref tr, .ref pa, .int (nI ac), .ref ig, .ref kx, .ref be, .ref tc, .int (nI td)]))] H := hP
      have hD : va_D A [(ml, .inl (cy 0, 8, .inl fl)), (mm, .inl (cy 0, 8, .inl fz)), (mit, .inl (cy 0, 320, .inl fi)), (m0, .inr (7, [.ref ml, .ref mm, .ref mit, .ref ms, .int (nI 1), .ref mt, .int (nI tn), .int (fk), .int (fp), .int (av), .int (sv), .int (ov), .int (vv), .ref nw, .ref dr, .ref tr, .ref pa, .int (nI ac), .ref ig, .ref kx, .ref be, .ref tc, .int (nI td)]))] := hD
      refine q_top (y := (-1000011)) (by decide) ?_
      have hP9 := hP.sub (ws' := [(m0, .inr (7, [.ref ml, .ref mm, .ref mit, .ref ms, .int (nI 1), .ref mt, .int (nI tn), .int (fk), .int (fp), .int (av), .int (sv), .int (ov), .int (vv), .ref nw, .ref dr, .ref tr, .ref pa, .int (nI ac), .ref ig, .ref kx, .ref be, .ref tc, .int (nI td)])), (ml, .inl (cy 0, 8, .inl fl)), (mm, .inl (cy 0, 8, .inl fz)), (mit, .inl (cy 0, 320, .inl fi))]) [3, 0, 1, 2] rfl
      have hD9 := hD.sub (ws' := [(m0, .inr (7, [.ref ml, .ref mm, .ref mit, .ref ms, .int (nI 1), .ref mt, .int (nI tn), .int (fk), .int (fp), .int (av), .int (sv), .int (ov), .int (vv), .ref nw, .ref dr, .ref tr, .ref pa, .int (nI ac), .ref ig, .ref kx, .ref be, .ref tc, .int (nI td)])), (ml, .inl (cy 0, 8, .inl fl)), (mm, .inl (cy 0, 8, .inl fz)), (mit, .inl (cy 0, 320, .inl fi))]) [3, 0, 1, 2] (by decide) rfl
      exact q_wiret (v := (-1000011)) hx hb hr hlocks dX7_set_23 hP9 hD9 hS (⟨_, _, _, _, _, _, _, by simp only [oSet, q_cl (by omega : k < 2147483648), if_pos b2, if_pos b4], hrm, rfl⟩)
    · have _ := b4
      refine lv_if_eq (tgt := 24) hx hb dX7_set_15 (by decide) (fun _ => ?_) (fun c9 => absurd (by decide) c9)
      refine lv_iload_n hx hb dX7_set_24 rfl (lv_at hl 2 rfl) ?_
      refine lv_iconst (v := nI 0) hx hb dX7_set_25 (by decide) ?_
      refine lv_aload_n hx hb dX7_set_26 rfl (lv_at hl 0 rfl) ?_
      refine va_get (D := D) (ci := 7) (v := .ref mm) (C := RX7) (T := TX7) (N := 23) hx hb hts nX7_set_0 hown hK.1 hP 0 rfl rfl 1 (by decide) (hts _ mX7_set_1) (fun _ h9 => h9) rfl dX7_set_27 ?_
      refine lv_iload_n hx hb dX7_set_30 rfl (lv_at hl 1 rfl) ?_
      refine q_iald (j := k) (v := nI (sz k)) hx hb hK hP 2 rfl (by omega) (by decide) (rmI_1 hrm (by omega)) dX7_set_31 ?_
      refine lv_iconst (v := nI 1) hx hb dX7_set_32 (by decide) ?_
      refine lv_isub hx hb dX7_set_33 ?_
      refine q_rS (As := [.int (i), .int (nI 0), .int ((nI (sz k)) - (nI 1))]) (rest := []) ⟨hx, hb, hml, hown, hts⟩ (c_X7_in l D cy i (nI 0) ((nI (sz k)) - (nI 1))) (va_cwS 3 hts gX7_set_X7_in rfl rfl rfl (by decide +kernel) ⟨Nat.le_of_ble_eq_true rfl, Nat.le_of_ble_eq_true rfl⟩) hP hK [] rfl rfl hl.1 rfl (Nat.le_of_ble_eq_true rfl) dX7_set_34 ⟨Nat.zero_le _, Nat.zero_le _⟩ (fun r7 hr7 => ?_)
      rcases hr7 with ⟨rfl, b8⟩ | ⟨rfl, b8⟩
      · have _ := b8
        replace b8 := (rwB_in hz40).mp b8
        refine lv_if_ne (tgt := 46) hx hb dX7_set_37 (by decide) (fun _ => ?_) (fun c9 => absurd c9 (by decide))
        obtain ⟨j, hj, rfl⟩ := rwB_1 b8
        refine lv_aload_n hx hb dX7_set_46 rfl (lv_at hl 0 rfl) ?_
        refine va_get (D := D) (ci := 7) (v := .ref mit) (C := RX7) (T := TX7) (N := 23) hx hb hts nX7_set_0 hown hK.1 hP 0 rfl rfl 2 (by decide) (hts _ mX7_set_2) (fun _ h9 => h9) rfl dX7_set_47 ?_
        refine lv_bipush (v := nI 40) hx hb dX7_set_50 (by decide) ?_
        refine lv_iload_n hx hb dX7_set_52 rfl (lv_at hl 1 rfl) ?_
        refine lv_imul hx hb dX7_set_53 ?_
        refine q_top (y := nI (40 * k)) (pk_mul _ _) ?_
        refine lv_iload_n hx hb dX7_set_54 rfl (lv_at hl 2 rfl) ?_
        refine lv_iadd hx hb dX7_set_55 ?_
        refine q_top (y := nI ((40 * k) + j)) (nI_add _ _) ?_
        refine lv_aload_n hx hb dX7_set_56 rfl (lv_at hl 0 rfl) ?_
        refine va_get (D := D) (ci := 7) (v := .ref ml) (C := RX7) (T := TX7) (N := 23) hx hb hts nX7_set_0 hown hK.1 hP 0 rfl rfl 0 (by decide) (hts _ mX7_set_3) (fun _ h9 => h9) rfl dX7_set_57 ?_
        refine lv_iload_n hx hb dX7_set_60 rfl (lv_at hl 1 rfl) ?_
        refine q_iald (j := k) (v := mlC (ln k)) hx hb hK hP 1 rfl (by omega) (by decide) (rmI_0 hrm (by omega)) dX7_set_61 ?_
        refine q_top (y := nI (ln k)) (mlC_n (by omega)) ?_
        refine lv_iload_n hx hb dX7_set_62 rfl (lv_at hl 3 rfl) ?_
        refine q_rS (As := [.int (nI (ln k)), .int (v)]) (rest := [.int (nI ((40 * k) + j)), .ref mit]) ⟨hx, hb, hml, hown, hts⟩ (c_X7_cut l D cy (ln k) (by omega) v) (va_cwS 2 hts gX7_set_X7_cut rfl rfl rfl (by decide +kernel) ⟨Nat.le_of_ble_eq_true rfl, Nat.le_of_ble_eq_true rfl⟩) hP hK [] rfl rfl hl.1 rfl (Nat.le_of_ble_eq_true rfl) dX7_set_63 ⟨Nat.zero_le _, Nat.zero_le _⟩ (fun r9 hr9 => ?_)
        obtain rfl := hr9
        refine q_iast (j := ((40 * k) + j)) hx hb hK hP hD hS 3 rfl (by omega) (by decide) dX7_set_66 (fun H locs hP hD hS => ?_)
        have hP : va_P D vwCl [(m0, .inr (7, [.ref ml, .ref mm, .ref mit, .ref ms, .int (st), .ref mt, .int (nI tn), .int (fk), .int (fp), .int (av), .int (sv), .int (ov), .int (vv), .ref nw, .ref dr, .ref tr, .ref pa, .int (nI ac), .ref ig, .ref kx, .ref be, .ref tc, .int (nI td)])), (ml, .inl (cy 0, 8, .inl fl)), (mm, .inl (cy 0, 8, .inl fz)), (mit, .inl (cy 0, 320, .inl (upd fi ((40 * k) + j) (lowB (ln k) v))))] H := hP
        have hD : va_D A [(m0, .inr (7, [.ref ml, .ref mm, .ref mit, .ref ms, .int (st), .ref mt, .int (nI tn), .int (fk), .int (fp), .int (av), .int (sv), .int (ov), .int (vv), .ref nw, .ref dr, .ref tr, .ref pa, .int (nI ac), .ref ig, .ref kx, .ref be, .ref tc, .int (nI td)])), (ml, .inl (cy 0, 8, .inl fl)), (mm, .inl (cy 0, 8, .inl fz)), (mit, .inl (cy 0, 320, .inl (upd fi ((40 * k) + j) (lowB (ln k) v))))] := hD
        refine lv_aload_n hx hb dX7_set_67 rfl (lv_at hl 0 rfl) ?_
        refine lv_aload_n hx hb dX7_set_68 rfl (lv_at hl 0 rfl) ?_
        refine va_get (D := D) (ci := 7) (v := .ref mit) (C := RX7) (T := TX7) (N := 23) hx hb hts nX7_set_0 hown hK.1 hP 0 rfl rfl 2 (by decide) (hts _ mX7_set_2) (fun _ h9 => h9) rfl dX7_set_69 ?_
        refine lv_bipush (v := nI 40) hx hb dX7_set_72 (by decide) ?_
        refine lv_iload_n hx hb dX7_set_74 rfl (lv_at hl 1 rfl) ?_
        refine lv_imul hx hb dX7_set_75 ?_
        refine q_top (y := nI (40 * k)) (pk_mul _ _) ?_
        refine lv_iload_n hx hb dX7_set_76 rfl (lv_at hl 2 rfl) ?_
        refine lv_iadd hx hb dX7_set_77 ?_
        refine q_top (y := nI ((40 * k) + j)) (nI_add _ _) ?_
        refine q_iald (j := ((40 * k) + j)) (v := (upd fi ((40 * k) + j) (lowB (ln k) v)) ((40 * k) + j)) hx hb hK hP 3 rfl (by omega) (by decide) (rfl) dX7_set_78 ?_
        refine q_top (y := lowB (ln k) v) (by rw [pk_us]) ?_
        refine q_wiV (As := [.int (lowB (ln k) v)]) (rest := []) (wr := [(ml, .inl (cy 0, 8, .inl fl)), (mm, .inl (cy 0, 8, .inl fz)), (mit, .inl (cy 0, 320, .inl (upd fi ((40 * k) + j) (lowB (ln k) v))))]) ⟨hx, hb, hml, hown, hts⟩ (c_X7_well l D cy m0 ml mm mit ms mt nw dr tr pa ig kx be tc st fk fp av sv ov vv tn ac td (lowB (ln k) v)) (cwV 1 hts gX7_set_X7_well rfl rfl rfl (by decide +kernel) ⟨Nat.le_of_ble_eq_true rfl, Nat.le_of_ble_eq_true rfl⟩) hP hD hS hA hK [0] [1, 2, 3] rfl rfl (by decide) rfl (by decide) (by decide) 0 rfl rfl rfl rfl hl.1 rfl (Nat.le_of_ble_eq_true rfl) dX7_set_79 ⟨Nat.zero_le _, Nat.zero_le _⟩ (fun r10 u11 H locs hr10 hP hD hS => ?_)
        obtain ⟨rfl, rfl⟩ := hr10
        have hP : va_P D vwCl [(ml, .inl (cy 0, 8, .inl fl)), (mm, .inl (cy 0, 8, .inl fz)), (mit, .inl (cy 0, 320, .inl (upd fi ((40 * k) + j) (lowB (ln k) v)))), (m0, .inr (7, [.ref ml, .ref mm, .ref mit, .ref ms, .int (nI 0), .ref mt, .int (nI tn), .int (fk), .int (fp), .int (av), .int (sv), .int (ov), .int (vv), .ref nw, .ref dr, .ref tr, .ref pa, .int (nI ac), .ref ig, .ref kx, .ref be, .ref tc, .int (nI td)]))] H := hP
        have hD : va_D A [(ml, .inl (cy 0, 8, .inl fl)), (mm, .inl (cy 0, 8, .inl fz)), (mit, .inl (cy 0, 320, .inl (upd fi ((40 * k) + j) (lowB (ln k) v)))), (m0, .inr (7, [.ref ml, .ref mm, .ref mit, .ref ms, .int (nI 0), .ref mt, .int (nI tn), .int (fk), .int (fp), .int (av), .int (sv), .int (ov), .int (vv), .ref nw, .ref dr, .ref tr, .ref pa, .int (nI ac), .ref ig, .ref kx, .ref be, .ref tc, .int (nI td)]))] := hD
        have hP9 := hP.sub (ws' := [(m0, .inr (7, [.ref ml, .ref mm, .ref mit, .ref ms, .int (nI 0), .ref mt, .int (nI tn), .int (fk), .int (fp), .int (av), .int (sv), .int (ov), .int (vv), .ref nw, .ref dr, .ref tr, .ref pa, .int (nI ac), .ref ig, .ref kx, .ref be, .ref tc, .int (nI td)])), (ml, .inl (cy 0, 8, .inl fl)), (mm, .inl (cy 0, 8, .inl fz)), (mit, .inl (cy 0, 320, .inl (upd fi ((40 * k) + j) (lowB (ln k) v))))]) [3, 0, 1, 2] rfl
        have hD9 := hD.sub (ws' := [(m0, .inr (7, [.ref ml, .ref mm, .ref mit, .ref ms, .int (nI 0), .ref mt, .int (nI tn), .int (fk), .int (fp), .int (av), .int (sv), .int (ov), .int (vv), .ref nw, .ref dr, .ref tr, .ref pa, .int (nI ac), .ref ig, .ref kx, .ref be, .ref tc, .int (nI td)])), (ml, .inl (cy 0, 8, .inl fl)), (mm, .inl (cy 0, 8, .inl fz)), (mit, .inl (cy 0, 320, .inl (upd fi ((40 * k) + j) (lowB (ln k) v))))]) [3, 0, 1, 2] (by decide) rfl
        exact q_wiret (v := lowB (ln k) v) hx hb hr hlocks dX7_set_82 hP9 hD9 hS (⟨_, _, _, _, _, _, _, by simp only [oSet, q_cl (by omega : k < 2147483648), q_cl (by omega : j < 2147483648), if_pos b2, if_neg b4, if_pos b8], rmI_set hrm (by omega) (by omega), rfl⟩)
      · have _ := b8
        replace b8 := fun q => b8 ((rwB_in hz40).mpr q)
        refine lv_if_ne (tgt := 46) hx hb dX7_set_37 (by decide) (fun c9 => absurd (by decide) c9) (fun _ => ?_)
        refine lv_aload_n hx hb dX7_set_40 rfl (lv_at hl 0 rfl) ?_
        refine lv_iconst (v := nI 2) hx hb dX7_set_41 (by decide) ?_
        refine q_wiV (As := [.int (nI 2)]) (rest := []) (wr := [(ml, .inl (cy 0, 8, .inl fl)), (mm, .inl (cy 0, 8, .inl fz)), (mit, .inl (cy 0, 320, .inl fi))]) ⟨hx, hb, hml, hown, hts⟩ (c_X7_found l D cy m0 ml mm mit ms mt nw dr tr pa ig kx be tc st fk fp av sv ov vv tn ac td (nI 2)) (cwV 1 hts gX7_set_X7_found rfl rfl rfl (by decide +kernel) ⟨Nat.le_of_ble_eq_true rfl, Nat.le_of_ble_eq_true rfl⟩) hP hD hS hA hK [0] [1, 2, 3] rfl rfl (by decide) rfl (by decide) (by decide) 0 rfl rfl rfl rfl hl.1 rfl (Nat.le_of_ble_eq_true rfl) dX7_set_42 ⟨Nat.zero_le _, Nat.zero_le _⟩ (fun r12 u13 H locs hr12 hP hD hS => ?_)
        obtain ⟨rfl, rfl⟩ := hr12
        have hP : va_P D vwCl [(ml, .inl (cy 0, 8, .inl fl)), (mm, .inl (cy 0, 8, .inl fz)), (mit, .inl (cy 0, 320, .inl fi)), (m0, .inr (7, [.ref ml, .ref mm, .ref mit, .ref ms, .int (nI 2), .ref mt, .int (nI tn), .int (fk), .int (fp), .int (av), .int (sv), .int (ov), .int (vv), .ref nw, .ref dr, .ref tr, .ref pa, .int (nI ac), .ref ig, .ref kx, .ref be, .ref tc, .int (nI td)]))] H := hP
        have hD : va_D A [(ml, .inl (cy 0, 8, .inl fl)), (mm, .inl (cy 0, 8, .inl fz)), (mit, .inl (cy 0, 320, .inl fi)), (m0, .inr (7, [.ref ml, .ref mm, .ref mit, .ref ms, .int (nI 2), .ref mt, .int (nI tn), .int (fk), .int (fp), .int (av), .int (sv), .int (ov), .int (vv), .ref nw, .ref dr, .ref tr, .ref pa, .int (nI ac), .ref ig, .ref kx, .ref be, .ref tc, .int (nI td)]))] := hD
        refine q_top (y := (-1000012)) (by decide) ?_
        have hP9 := hP.sub (ws' := [(m0, .inr (7, [.ref ml, .ref mm, .ref mit, .ref ms, .int (nI 2), .ref mt, .int (nI tn), .int (fk), .int (fp), .int (av), .int (sv), .int (ov), .int (vv), .ref nw, .ref dr, .ref tr, .ref pa, .int (nI ac), .ref ig, .ref kx, .ref be, .ref tc, .int (nI td)])), (ml, .inl (cy 0, 8, .inl fl)), (mm, .inl (cy 0, 8, .inl fz)), (mit, .inl (cy 0, 320, .inl fi))]) [3, 0, 1, 2] rfl
        have hD9 := hD.sub (ws' := [(m0, .inr (7, [.ref ml, .ref mm, .ref mit, .ref ms, .int (nI 2), .ref mt, .int (nI tn), .int (fk), .int (fp), .int (av), .int (sv), .int (ov), .int (vv), .ref nw, .ref dr, .ref tr, .ref pa, .int (nI ac), .ref ig, .ref kx, .ref be, .ref tc, .int (nI td)])), (ml, .inl (cy 0, 8, .inl fl)), (mm, .inl (cy 0, 8, .inl fz)), (mit, .inl (cy 0, 320, .inl fi))]) [3, 0, 1, 2] (by decide) rfl
        exact q_wiret (v := (-1000012)) hx hb hr hlocks dX7_set_45 hP9 hD9 hS (⟨_, _, _, _, _, _, _, by simp only [oSet, q_cl (by omega : k < 2147483648), if_pos b2, if_neg b4, if_neg b8], hrm, rfl⟩)
  · have _ := b2
    refine lv_if_ne (tgt := 10) hx hb dX7_set_4 (by decide) (fun c9 => absurd (by decide) c9) (fun _ => ?_)
    refine lv_ldc (v := (-1000001)) hx hb hown (hts _ mX7_set_4) dX7_set_7 ?_
    have hP9 := hP
    have hD9 := hD
    exact q_wiret (v := (-1000001)) hx hb hr hlocks dX7_set_9 hP9 hD9 hS (⟨_, _, _, _, _, _, _, by simp only [oSet, if_neg b2], hrm, rfl⟩)
theorem nX7_isPart_0 : ∀ w ∈ wsX70, w ∈ wsX7_isPart := by decide +kernel
theorem mX7_isPart_1 : Cond.fieldLink RX7 13 "ClueLeaveModel" "many" "[I" ∈ wsX7_isPart := by decide +kernel
set_option maxHeartbeats 4000000 in
set_option maxRecDepth 100000 in
theorem c_X7_isPart (l : Launch) (D : va_G) (cy : Nat → ClassId) (m0 ml mm mit ms mt nw dr tr pa ig kx be tc : Nat) (st fk fp av sv ov vv : Int32) (tn ac td : Nat) (fz : Nat → Int32) (k z : Nat) (hk : k < 8) (hz : z ≤ 40) (hfz : fz k = nI z) (x n : Int32) : q_Rd l yX7_isPart wsX7_isPart 1 D cy [(m0, .inr (7, [.ref ml, .ref mm, .ref mit, .ref ms, .int (st), .ref mt, .int (nI tn), .int (fk), .int (fp), .int (av), .int (sv), .int (ov), .int (vv), .ref nw, .ref dr, .ref tr, .ref pa, .int (nI ac), .ref ig, .ref kx, .ref be, .ref tc, .int (nI td)])), (mm, .inl (cy 0, 8, .inl fz))] [.ref m0, .int (nI k), .int (x), .int (n)] (fun r => r = nI 1 ∧ rwB z x n = true ∨ r = nI 0 ∧ ¬ rwB z x n = true) := by
  refine q_rd_of (cc := cX7_isPart) (maxL := 4) (ret := (some .boolean)) (by decide) rfl (Nat.le_of_ble_eq_true rfl) ?_
  intro pg en s mi args below meth cd hC hP hK ls hl
  obtain ⟨hx, hb, hr, hml, hown, hts, hlocks⟩ := hC
  have hl : lv_has ls 4 [(0, .ref m0), (1, .int (nI k)), (2, .int (x)), (3, .int (n))] := hl
  refine lv_iload_n hx hb dX7_isPart_0 rfl (lv_at hl 2 rfl) ?_
  refine lv_if_lt (tgt := 34) hx hb dX7_isPart_1 (by decide) (fun c1 => ?_) (fun c1 => ?_)
  · refine lv_iconst (v := nI 0) hx hb dX7_isPart_34 (by decide) ?_
    exact q_zret (v := nI 0) hx hb hr hlocks dX7_isPart_35 (by decide) (Or.inr ⟨rfl, rwB_p2 c1⟩)
  · refine lv_iload_n hx hb dX7_isPart_4 rfl (lv_at hl 3 rfl) ?_
    refine lv_if_lt (tgt := 34) hx hb dX7_isPart_5 (by decide) (fun c2 => ?_) (fun c2 => ?_)
    · refine lv_iconst (v := nI 0) hx hb dX7_isPart_34 (by decide) ?_
      exact q_zret (v := nI 0) hx hb hr hlocks dX7_isPart_35 (by decide) (Or.inr ⟨rfl, rwB_p3 c2⟩)
    · refine lv_iload_n hx hb dX7_isPart_8 rfl (lv_at hl 2 rfl) ?_
      refine lv_aload_n hx hb dX7_isPart_9 rfl (lv_at hl 0 rfl) ?_
      refine va_get (D := D) (ci := 7) (v := .ref mm) (C := RX7) (T := TX7) (N := 23) hx hb hts nX7_isPart_0 hown hK.1 hP 0 rfl rfl 1 (by decide) (hts _ mX7_isPart_1) (fun _ h9 => h9) rfl dX7_isPart_10 ?_
      refine lv_iload_n hx hb dX7_isPart_13 rfl (lv_at hl 1 rfl) ?_
      refine q_iald (j := k) (v := nI z) hx hb hK hP 1 rfl (by omega) (by decide) (hfz) dX7_isPart_14 ?_
      refine lv_icmp_gt (tgt := 34) hx hb dX7_isPart_15 (by decide) (fun c3 => ?_) (fun c3 => ?_)
      · refine lv_iconst (v := nI 0) hx hb dX7_isPart_34 (by decide) ?_
        exact q_zret (v := nI 0) hx hb hr hlocks dX7_isPart_35 (by decide) (Or.inr ⟨rfl, rwB_p4 hz c2 c3⟩)
      · refine lv_iload_n hx hb dX7_isPart_18 rfl (lv_at hl 3 rfl) ?_
        refine lv_aload_n hx hb dX7_isPart_19 rfl (lv_at hl 0 rfl) ?_
        refine va_get (D := D) (ci := 7) (v := .ref mm) (C := RX7) (T := TX7) (N := 23) hx hb hts nX7_isPart_0 hown hK.1 hP 0 rfl rfl 1 (by decide) (hts _ mX7_isPart_1) (fun _ h9 => h9) rfl dX7_isPart_20 ?_
        refine lv_iload_n hx hb dX7_isPart_23 rfl (lv_at hl 1 rfl) ?_
        refine q_iald (j := k) (v := nI z) hx hb hK hP 1 rfl (by omega) (by decide) (hfz) dX7_isPart_24 ?_
        refine lv_iload_n hx hb dX7_isPart_25 rfl (lv_at hl 2 rfl) ?_
        refine lv_isub hx hb dX7_isPart_26 ?_
        refine lv_icmp_gt (tgt := 34) hx hb dX7_isPart_27 (by decide) (fun c4 => ?_) (fun c4 => ?_)
        · refine lv_iconst (v := nI 0) hx hb dX7_isPart_34 (by decide) ?_
          exact q_zret (v := nI 0) hx hb hr hlocks dX7_isPart_35 (by decide) (Or.inr ⟨rfl, rwB_p5 hz c1 c2 c3 c4⟩)
        · refine lv_iconst (v := nI 1) hx hb dX7_isPart_30 (by decide) ?_
          refine lv_goto (tgt := 35) hx hb dX7_isPart_31 (by decide) ?_
          exact q_zret (v := nI 1) hx hb hr hlocks dX7_isPart_35 (by decide) (Or.inl ⟨rfl, rwB_p1 hz c1 c2 c3 c4⟩)
theorem nX7_copy_0 : ∀ w ∈ wsX70, w ∈ wsX7_copy := by decide +kernel
theorem mX7_copy_1 : Cond.fieldLink RX7 7 "ClueLeaveModel" "lane" "[I" ∈ wsX7_copy := by decide +kernel
theorem mX7_copy_2 : Cond.fieldLink RX7 16 "ClueLeaveModel" "items" "[I" ∈ wsX7_copy := by decide +kernel
theorem mX7_copy_3 : Cond.fieldLink RX7 19 "ClueLeaveModel" "spare" "[I" ∈ wsX7_copy := by decide +kernel
theorem mX7_copy_4 : Cond.constant RX7 64 (-1000001) ∈ wsX7_copy := by decide +kernel
set_option maxHeartbeats 4000000 in
set_option maxRecDepth 100000 in
theorem c_X7_copy (l : Launch) (D : va_G) (cy : Nat → ClassId) (m0 ml mm mit ms mt nw dr tr pa ig kx be tc : Nat) (st fk fp av sv ov vv : Int32) (tn ac td : Nat) (fl fz fi : Nat → Int32) (ln sz : Nat → Nat) (itS : Nat → Nat → Int32) (hrm : rmI ln sz itS fl fz fi) (fs : Nat → Int32) (x i y j n : Int32) : q_Wi l yX7_copy wsX7_copy 3 D cy [(m0, .inr (7, [.ref ml, .ref mm, .ref mit, .ref ms, .int (st), .ref mt, .int (nI tn), .int (fk), .int (fp), .int (av), .int (sv), .int (ov), .int (vv), .ref nw, .ref dr, .ref tr, .ref pa, .int (nI ac), .ref ig, .ref kx, .ref be, .ref tc, .int (nI td)])), (ml, .inl (cy 0, 8, .inl fl)), (mm, .inl (cy 0, 8, .inl fz)), (mit, .inl (cy 0, 320, .inl fi)), (ms, .inl (cy 0, 40, .inl fs))] [.ref m0, .int (x), .int (i), .int (y), .int (j), .int (n)] (fun r u => ∃ (st2 : Int32) (ln2 sz2 : Nat → Nat) (itS2 : Nat → Nat → Int32) (fl2 fz2 fi2 fs2 : Nat → Int32), oCopy ln sz itS st x i y j n = (r, st2, ln2, sz2, itS2) ∧ rmI ln2 sz2 itS2 fl2 fz2 fi2 ∧ u = [(m0, .inr (7, [.ref ml, .ref mm, .ref mit, .ref ms, .int (st2), .ref mt, .int (nI tn), .int (fk), .int (fp), .int (av), .int (sv), .int (ov), .int (vv), .ref nw, .ref dr, .ref tr, .ref pa, .int (nI ac), .ref ig, .ref kx, .ref be, .ref tc, .int (nI td)])), (ml, .inl (cy 0, 8, .inl fl2)), (mm, .inl (cy 0, 8, .inl fz2)), (mit, .inl (cy 0, 320, .inl fi2)), (ms, .inl (cy 0, 40, .inl fs2))]) := by
  refine q_wi_of (cc := cX7_copy) (maxL := 7) (ret := (some .int)) (by decide) rfl (Nat.le_of_ble_eq_true rfl) ?_
  intro pg en s mi args below meth cd A hC hA hK H locs hP hD hS ls hl
  obtain ⟨hx, hb, hr, hml, hown, hts, hlocks⟩ := hC
  have hl : lv_has ls 7 [(0, .ref m0), (1, .int (x)), (2, .int (i)), (3, .int (y)), (4, .int (j)), (5, .int (n))] := hl
  refine lv_iload_n hx hb dX7_copy_0 rfl (lv_at hl 1 rfl) ?_
  refine q_rS (As := [.int (x)]) (rest := []) ⟨hx, hb, hml, hown, hts⟩ (c_X7_isRow l D cy x) (va_cwS 1 hts gX7_copy_X7_isRow rfl rfl rfl (by decide +kernel) ⟨Nat.le_of_ble_eq_true rfl, Nat.le_of_ble_eq_true rfl⟩) hP hK [] rfl rfl hl.1 rfl (Nat.le_of_ble_eq_true rfl) dX7_copy_1 ⟨Nat.zero_le _, Nat.zero_le _⟩ (fun r1 hr1 => ?_)
  rcases hr1 with ⟨rfl, b2⟩ | ⟨rfl, b2⟩
  · have _ := b2
    refine lv_if_eq (tgt := 14) hx hb dX7_copy_4 (by decide) (fun c9 => absurd c9 (by decide)) (fun _ => ?_)
    obtain ⟨ka, -, hx_ka, rfl⟩ := q_rng b2 (by decide) (by decide)
    refine lv_iload_n hx hb dX7_copy_7 rfl (lv_at hl 3 rfl) ?_
    refine q_rS (As := [.int (y)]) (rest := []) ⟨hx, hb, hml, hown, hts⟩ (c_X7_isRow l D cy y) (va_cwS 1 hts gX7_copy_X7_isRow rfl rfl rfl (by decide +kernel) ⟨Nat.le_of_ble_eq_true rfl, Nat.le_of_ble_eq_true rfl⟩) hP hK [] rfl rfl hl.1 rfl (Nat.le_of_ble_eq_true rfl) dX7_copy_8 ⟨Nat.zero_le _, Nat.zero_le _⟩ (fun r3 hr3 => ?_)
    rcases hr3 with ⟨rfl, b4⟩ | ⟨rfl, b4⟩
    · have _ := b4
      refine lv_if_ne (tgt := 17) hx hb dX7_copy_11 (by decide) (fun _ => ?_) (fun c9 => absurd c9 (by decide))
      obtain ⟨kb, -, hx_kb, rfl⟩ := q_rng b4 (by decide) (by decide)
      obtain ⟨-, -, hza, hla⟩ := hrm.1 ka (by omega)
      obtain ⟨-, -, hzb, hlb⟩ := hrm.1 kb (by omega)
      refine lv_aload_n hx hb dX7_copy_17 rfl (lv_at hl 0 rfl) ?_
      refine lv_iload_n hx hb dX7_copy_18 rfl (lv_at hl 1 rfl) ?_
      refine q_rV (As := [.int (nI ka)]) (rest := []) ⟨hx, hb, hml, hown, hts⟩ (c_X7_isMissing l D cy m0 ml mm mit ms mt nw dr tr pa ig kx be tc st fk fp av sv ov vv tn ac td fl ka (ln ka) (by omega) (rmI_3 hrm (by omega)) (rmI_0 hrm (by omega))) (cwV 1 hts gX7_copy_X7_isMissing rfl rfl rfl (by decide +kernel) ⟨Nat.le_of_ble_eq_true rfl, Nat.le_of_ble_eq_true rfl⟩) hP hK [0, 1] rfl 0 rfl rfl rfl rfl hl.1 rfl (Nat.le_of_ble_eq_true rfl) dX7_copy_19 ⟨Nat.zero_le _, Nat.zero_le _⟩ (fun r5 hr5 => ?_)
      rcases hr5 with ⟨rfl, b6⟩ | ⟨rfl, b6⟩
      · have _ := b6
        refine lv_if_ne (tgt := 33) hx hb dX7_copy_22 (by decide) (fun _ => ?_) (fun c9 => absurd c9 (by decide))
        refine lv_aload_n hx hb dX7_copy_33 rfl (lv_at hl 0 rfl) ?_
        refine lv_iconst (v := nI 1) hx hb dX7_copy_34 (by decide) ?_
        refine q_wiV (As := [.int (nI 1)]) (rest := []) (wr := [(ml, .inl (cy 0, 8, .inl fl)), (mm, .inl (cy 0, 8, .inl fz)), (mit, .inl (cy 0, 320, .inl fi)), (ms, .inl (cy 0, 40, .inl fs))]) ⟨hx, hb, hml, hown, hts⟩ (c_X7_found l D cy m0 ml mm mit ms mt nw dr tr pa ig kx be tc st fk fp av sv ov vv tn ac td (nI 1)) (cwV 1 hts gX7_copy_X7_found rfl rfl rfl (by decide +kernel) ⟨Nat.le_of_ble_eq_true rfl, Nat.le_of_ble_eq_true rfl⟩) hP hD hS hA hK [0] [1, 2, 3, 4] rfl rfl (by decide) rfl (by decide) (by decide) 0 rfl rfl rfl rfl hl.1 rfl (Nat.le_of_ble_eq_true rfl) dX7_copy_35 ⟨Nat.zero_le _, Nat.zero_le _⟩ (fun r7 u8 H locs hr7 hP hD hS => ?_)
        obtain ⟨rfl, rfl⟩ := hr7
        have hP : va_P D vwCl [(ml, .inl (cy 0, 8, .inl fl)), (mm, .inl (cy 0, 8, .inl fz)), (mit, .inl (cy 0, 320, .inl fi)), (ms, .inl (cy 0, 40, .inl fs)), (m0, .inr (7, [.ref ml, .ref mm, .ref mit, .ref ms, .int (nI 1), .ref mt, .int (nI tn), .int (fk), .int (fp), .int (av), .int (sv), .int (ov), .int (vv), .ref nw, .ref dr, .ref tr, .ref pa, .int (nI ac), .ref ig, .ref kx, .ref be, .ref tc, .int (nI td)]))] H := hP
        have hD : va_D A [(ml, .inl (cy 0, 8, .inl fl)), (mm, .inl (cy 0, 8, .inl fz)), (mit, .inl (cy 0, 320, .inl fi)), (ms, .inl (cy 0, 40, .inl fs)), (m0, .inr (7, [.ref ml, .ref mm, .ref mit, .ref ms, .int (nI 1), .ref mt, .int (nI tn), .int (fk), .int (fp), .int (av), .int (sv), .int (ov), .int (vv), .ref nw, .ref dr, .ref tr, .ref pa, .int (nI ac), .ref ig, .ref kx, .ref be, .ref tc, .int (nI td)]))] := hD
        refine q_top (y := (-1000011)) (by decide) ?_
        have hP9 := hP.sub (ws' := [(m0, .inr (7, [.ref ml, .ref mm, .ref mit, .ref ms, .int (nI 1), .ref mt, .int (nI tn), .int (fk), .int (fp), .int (av), .int (sv), .int (ov), .int (vv), .ref nw, .ref dr, .ref tr, .ref pa, .int (nI ac), .ref ig, .ref kx, .ref be, .ref tc, .int (nI td)])), (ml, .inl (cy 0, 8, .inl fl)), (mm, .inl (cy 0, 8, .inl fz)), (mit, .inl (cy 0, 320, .inl fi)), (ms, .inl (cy 0, 40, .inl fs))]) [4, 0, 1, 2, 3] rfl
        have hD9 := hD.sub (ws' := [(m0, .inr (7, [.ref ml, .ref mm, .ref mit, .ref ms, .int (nI 1), .ref mt, .int (nI tn), .int (fk), .int (fp), .int (av), .int (sv), .int (ov), .int (vv), .ref nw, .ref dr, .ref tr, .ref pa, .int (nI ac), .ref ig, .ref kx, .ref be, .ref tc, .int (nI td)])), (ml, .inl (cy 0, 8, .inl fl)), (mm, .inl (cy 0, 8, .inl fz)), (mit, .inl (cy 0, 320, .inl fi)), (ms, .inl (cy 0, 40, .inl fs))]) [4, 0, 1, 2, 3] (by decide) rfl
        exact q_wiret (v := (-1000011)) hx hb hr hlocks dX7_copy_38 hP9 hD9 hS (⟨_, _, _, _, _, _, _, _, by simp only [oCopy, q_cl (by omega : ka < 2147483648), q_cl (by omega : kb < 2147483648), if_pos b2, if_pos b4, if_pos b6], hrm, rfl⟩)
      · have _ := b6
        refine lv_if_ne (tgt := 33) hx hb dX7_copy_22 (by decide) (fun c9 => absurd (by decide) c9) (fun _ => ?_)
        refine lv_aload_n hx hb dX7_copy_25 rfl (lv_at hl 0 rfl) ?_
        refine lv_iload_n hx hb dX7_copy_26 rfl (lv_at hl 3 rfl) ?_
        refine q_rV (As := [.int (nI kb)]) (rest := []) ⟨hx, hb, hml, hown, hts⟩ (c_X7_isMissing l D cy m0 ml mm mit ms mt nw dr tr pa ig kx be tc st fk fp av sv ov vv tn ac td fl kb (ln kb) (by omega) (rmI_3 hrm (by omega)) (rmI_0 hrm (by omega))) (cwV 1 hts gX7_copy_X7_isMissing rfl rfl rfl (by decide +kernel) ⟨Nat.le_of_ble_eq_true rfl, Nat.le_of_ble_eq_true rfl⟩) hP hK [0, 1] rfl 0 rfl rfl rfl rfl hl.1 rfl (Nat.le_of_ble_eq_true rfl) dX7_copy_27 ⟨Nat.zero_le _, Nat.zero_le _⟩ (fun r9 hr9 => ?_)
        rcases hr9 with ⟨rfl, b10⟩ | ⟨rfl, b10⟩
        · have _ := b10
          refine lv_if_eq (tgt := 39) hx hb dX7_copy_30 (by decide) (fun c9 => absurd c9 (by decide)) (fun _ => ?_)
          refine lv_aload_n hx hb dX7_copy_33 rfl (lv_at hl 0 rfl) ?_
          refine lv_iconst (v := nI 1) hx hb dX7_copy_34 (by decide) ?_
          refine q_wiV (As := [.int (nI 1)]) (rest := []) (wr := [(ml, .inl (cy 0, 8, .inl fl)), (mm, .inl (cy 0, 8, .inl fz)), (mit, .inl (cy 0, 320, .inl fi)), (ms, .inl (cy 0, 40, .inl fs))]) ⟨hx, hb, hml, hown, hts⟩ (c_X7_found l D cy m0 ml mm mit ms mt nw dr tr pa ig kx be tc st fk fp av sv ov vv tn ac td (nI 1)) (cwV 1 hts gX7_copy_X7_found rfl rfl rfl (by decide +kernel) ⟨Nat.le_of_ble_eq_true rfl, Nat.le_of_ble_eq_true rfl⟩) hP hD hS hA hK [0] [1, 2, 3, 4] rfl rfl (by decide) rfl (by decide) (by decide) 0 rfl rfl rfl rfl hl.1 rfl (Nat.le_of_ble_eq_true rfl) dX7_copy_35 ⟨Nat.zero_le _, Nat.zero_le _⟩ (fun r11 u12 H locs hr11 hP hD hS => ?_)
          obtain ⟨rfl, rfl⟩ := hr11
          have hP : va_P D vwCl [(ml, .inl (cy 0, 8, .inl fl)), (mm, .inl (cy 0, 8, .inl fz)), (mit, .inl (cy 0, 320, .inl fi)), (ms, .inl (cy 0, 40, .inl fs)), (m0, .inr (7, [.ref ml, .ref mm, .ref mit, .ref ms, .int (nI 1), .ref mt, .int (nI tn), .int (fk), .int (fp), .int (av), .int (sv), .int (ov), .int (vv), .ref nw, .ref dr, .ref tr, .ref pa, .int (nI ac), .ref ig, .ref kx, .ref be, .ref tc, .int (nI td)]))] H := hP
          have hD : va_D A [(ml, .inl (cy 0, 8, .inl fl)), (mm, .inl (cy 0, 8, .inl fz)), (mit, .inl (cy 0, 320, .inl fi)), (ms, .inl (cy 0, 40, .inl fs)), (m0, .inr (7, [.ref ml, .ref mm, .ref mit, .ref ms, .int (nI 1), .ref mt, .int (nI tn), .int (fk), .int (fp), .int (av), .int (sv), .int (ov), .int (vv), .ref nw, .ref dr, .ref tr, .ref pa, .int (nI ac), .ref ig, .ref kx, .ref be, .ref tc, .int (nI td)]))] := hD
          refine q_top (y := (-1000011)) (by decide) ?_
          have hP9 := hP.sub (ws' := [(m0, .inr (7, [.ref ml, .ref mm, .ref mit, .ref ms, .int (nI 1), .ref mt, .int (nI tn), .int (fk), .int (fp), .int (av), .int (sv), .int (ov), .int (vv), .ref nw, .ref dr, .ref tr, .ref pa, .int (nI ac), .ref ig, .ref kx, .ref be, .ref tc, .int (nI td)])), (ml, .inl (cy 0, 8, .inl fl)), (mm, .inl (cy 0, 8, .inl fz)), (mit, .inl (cy 0, 320, .inl fi)), (ms, .inl (cy 0, 40, .inl fs))]) [4, 0, 1, 2, 3] rfl
          have hD9 := hD.sub (ws' := [(m0, .inr (7, [.ref ml, .ref mm, .ref mit, .ref ms, .int (nI 1), .ref mt, .int (nI tn), .int (fk), .int (fp), .int (av), .int (sv), .int (ov), .int (vv), .ref nw, .ref dr, .ref tr, .ref pa, .int (nI ac), .ref ig, .ref kx, .ref be, .ref tc, .int (nI td)])), (ml, .inl (cy 0, 8, .inl fl)), (mm, .inl (cy 0, 8, .inl fz)), (mit, .inl (cy 0, 320, .inl fi)), (ms, .inl (cy 0, 40, .inl fs))]) [4, 0, 1, 2, 3] (by decide) rfl
          exact q_wiret (v := (-1000011)) hx hb hr hlocks dX7_copy_38 hP9 hD9 hS (⟨_, _, _, _, _, _, _, _, by simp only [oCopy, q_cl (by omega : ka < 2147483648), q_cl (by omega : kb < 2147483648), if_pos b2, if_pos b4, if_neg b6, if_pos b10], hrm, rfl⟩)
        · have _ := b10
          refine lv_if_eq (tgt := 39) hx hb dX7_copy_30 (by decide) (fun _ => ?_) (fun c9 => absurd (by decide) c9)
          refine lv_aload_n hx hb dX7_copy_39 rfl (lv_at hl 0 rfl) ?_
          refine va_get (D := D) (ci := 7) (v := .ref ml) (C := RX7) (T := TX7) (N := 23) hx hb hts nX7_copy_0 hown hK.1 hP 0 rfl rfl 0 (by decide) (hts _ mX7_copy_1) (fun _ h9 => h9) rfl dX7_copy_40 ?_
          refine lv_iload_n hx hb dX7_copy_43 rfl (lv_at hl 1 rfl) ?_
          refine q_iald (j := ka) (v := mlC (ln ka)) hx hb hK hP 1 rfl (by omega) (by decide) (rmI_0 hrm (by omega)) dX7_copy_44 ?_
          refine lv_aload_n hx hb dX7_copy_45 rfl (lv_at hl 0 rfl) ?_
          refine va_get (D := D) (ci := 7) (v := .ref ml) (C := RX7) (T := TX7) (N := 23) hx hb hts nX7_copy_0 hown hK.1 hP 0 rfl rfl 0 (by decide) (hts _ mX7_copy_1) (fun _ h9 => h9) rfl dX7_copy_46 ?_
          refine lv_iload_n hx hb dX7_copy_49 rfl (lv_at hl 3 rfl) ?_
          refine q_iald (j := kb) (v := mlC (ln kb)) hx hb hK hP 1 rfl (by omega) (by decide) (rmI_0 hrm (by omega)) dX7_copy_50 ?_
          refine lv_icmp_eq (tgt := 60) hx hb dX7_copy_51 (by decide) (fun c13 => ?_) (fun c13 => ?_)
          · replace c13 := (mlC_e hla hlb).mp c13
            refine lv_aload_n hx hb dX7_copy_60 rfl (lv_at hl 0 rfl) ?_
            refine lv_iload_n hx hb dX7_copy_61 rfl (lv_at hl 1 rfl) ?_
            refine lv_iload_n hx hb dX7_copy_62 rfl (lv_at hl 2 rfl) ?_
            refine lv_iload hx hb dX7_copy_63 (lv_at hl 5 rfl) ?_
            refine q_rV (As := [.int (nI ka), .int (i), .int (n)]) (rest := []) ⟨hx, hb, hml, hown, hts⟩ (c_X7_isPart l D cy m0 ml mm mit ms mt nw dr tr pa ig kx be tc st fk fp av sv ov vv tn ac td fz ka (sz ka) (by omega) (rmI_2 hrm (by omega)) (rmI_1 hrm (by omega)) i n) (cwV 3 hts gX7_copy_X7_isPart rfl rfl rfl (by decide +kernel) ⟨Nat.le_of_ble_eq_true rfl, Nat.le_of_ble_eq_true rfl⟩) hP hK [0, 2] rfl 0 rfl rfl rfl rfl hl.1 rfl (Nat.le_of_ble_eq_true rfl) dX7_copy_65 ⟨Nat.zero_le _, Nat.zero_le _⟩ (fun r14 hr14 => ?_)
            rcases hr14 with ⟨rfl, b15⟩ | ⟨rfl, b15⟩
            · have _ := b15
              refine lv_if_eq (tgt := 83) hx hb dX7_copy_68 (by decide) (fun c9 => absurd c9 (by decide)) (fun _ => ?_)
              obtain ⟨i1, m, rfl, rfl, him⟩ := rwB_n b15 hza
              refine lv_aload_n hx hb dX7_copy_71 rfl (lv_at hl 0 rfl) ?_
              refine lv_iload_n hx hb dX7_copy_72 rfl (lv_at hl 3 rfl) ?_
              refine lv_iload hx hb dX7_copy_73 (lv_at hl 4 rfl) ?_
              refine lv_iload hx hb dX7_copy_75 (lv_at hl 5 rfl) ?_
              refine q_rV (As := [.int (nI kb), .int (j), .int (nI m)]) (rest := []) ⟨hx, hb, hml, hown, hts⟩ (c_X7_isPart l D cy m0 ml mm mit ms mt nw dr tr pa ig kx be tc st fk fp av sv ov vv tn ac td fz kb (sz kb) (by omega) (rmI_2 hrm (by omega)) (rmI_1 hrm (by omega)) j (nI m)) (cwV 3 hts gX7_copy_X7_isPart rfl rfl rfl (by decide +kernel) ⟨Nat.le_of_ble_eq_true rfl, Nat.le_of_ble_eq_true rfl⟩) hP hK [0, 2] rfl 0 rfl rfl rfl rfl hl.1 rfl (Nat.le_of_ble_eq_true rfl) dX7_copy_77 ⟨Nat.zero_le _, Nat.zero_le _⟩ (fun r16 hr16 => ?_)
              rcases hr16 with ⟨rfl, b17⟩ | ⟨rfl, b17⟩
              · have _ := b17
                refine lv_if_ne (tgt := 89) hx hb dX7_copy_80 (by decide) (fun _ => ?_) (fun c9 => absurd c9 (by decide))
                obtain ⟨j1, rfl, hjm⟩ := rwB_2 b17 hzb (by omega)
                refine lv_iconst (v := nI 0) hx hb dX7_copy_89 (by decide) ?_
                refine lv_istore (lv' := [(6, .int (nI 0)), (0, .ref m0), (1, .int (nI ka)), (2, .int (nI i1)), (3, .int (nI kb)), (4, .int (nI j1)), (5, .int (nI m))]) hx hb dX7_copy_90 hl (by decide) rfl (fun ls hl => ?_)
                have L92_82 : ∀ (fu q1 : Nat), q1 ≤ m → m < q1 + fu → ∀ (H : Heap) (locs : List Loc), va_P D vwCl [(m0, .inr (7, [.ref ml, .ref mm, .ref mit, .ref ms, .int (st), .ref mt, .int (nI tn), .int (fk), .int (fp), .int (av), .int (sv), .int (ov), .int (vv), .ref nw, .ref dr, .ref tr, .ref pa, .int (nI ac), .ref ig, .ref kx, .ref be, .ref tc, .int (nI td)])), (ml, .inl (cy 0, 8, .inl fl)), (mm, .inl (cy 0, 8, .inl fz)), (mit, .inl (cy 0, 320, .inl fi)), (ms, .inl (cy 0, 40, .inl (fa_fill (fun q => fi (40 * ka + i1 + q)) fs q1)))] H → va_D A [(m0, .inr (7, [.ref ml, .ref mm, .ref mit, .ref ms, .int (st), .ref mt, .int (nI tn), .int (fk), .int (fp), .int (av), .int (sv), .int (ov), .int (vv), .ref nw, .ref dr, .ref tr, .ref pa, .int (nI ac), .ref ig, .ref kx, .ref be, .ref tc, .int (nI td)])), (ml, .inl (cy 0, 8, .inl fl)), (mm, .inl (cy 0, 8, .inl fz)), (mit, .inl (cy 0, 320, .inl fi)), (ms, .inl (cy 0, 40, .inl (fa_fill (fun q => fi (40 * ka + i1 + q)) fs q1)))] → va_S A s.heap H locs → ∀ ls : Array Slot, lv_has ls 7 [(0, .ref m0), (1, .int (nI ka)), (2, .int (nI i1)), (3, .int (nI kb)), (4, .int (nI j1)), (5, .int (nI m)), (6, .int (nI q1))] → W pg l en (q_rm 3) s mi args below meth cd H locs 0 0 (MQ below (va_Qi (fun r u => ∃ (st2 : Int32) (ln2 sz2 : Nat → Nat) (itS2 : Nat → Nat → Int32) (fl2 fz2 fi2 fs2 : Nat → Int32), oCopy ln sz itS st (nI ka) (nI i1) (nI kb) (nI j1) (nI m) = (r, st2, ln2, sz2, itS2) ∧ rmI ln2 sz2 itS2 fl2 fz2 fi2 ∧ u = [(m0, .inr (7, [.ref ml, .ref mm, .ref mit, .ref ms, .int (st2), .ref mt, .int (nI tn), .int (fk), .int (fp), .int (av), .int (sv), .int (ov), .int (vv), .ref nw, .ref dr, .ref tr, .ref pa, .int (nI ac), .ref ig, .ref kx, .ref be, .ref tc, .int (nI td)])), (ml, .inl (cy 0, 8, .inl fl2)), (mm, .inl (cy 0, 8, .inl fz2)), (mit, .inl (cy 0, 320, .inl fi2)), (ms, .inl (cy 0, 40, .inl fs2))]) (fun (u : va_W) t => va_P D vwCl u t.heap ∧ va_D A u) A) args s 0 0 A) (F0 mi 92 ls []) := by
                  intro fu
                  induction fu with
                  | zero =>
                    intro q1 h1 h2
                    exact absurd h2 (by omega)
                  | succ fu ih92 =>
                    intro q1 h1_92 h2_92 H locs hP hD hS ls hl
                    refine lv_iload hx hb dX7_copy_92 (lv_at hl 6 rfl) ?_
                    refine lv_iload hx hb dX7_copy_94 (lv_at hl 5 rfl) ?_
                    refine q_icmp_ge (tgt := 126) hx hb dX7_copy_96 (by decide) (by omega) (by omega) (fun c18 => ?_) (fun c18 => ?_)
                    · have hq1 : q1 = m := by omega
                      refine lv_iconst (v := nI 0) hx hb dX7_copy_126 (by decide) ?_
                      refine lv_istore (lv' := [(6, .int (nI 0)), (0, .ref m0), (1, .int (nI ka)), (2, .int (nI i1)), (3, .int (nI kb)), (4, .int (nI j1)), (5, .int (nI m))]) hx hb dX7_copy_127 hl (by decide) rfl (fun ls hl => ?_)
                      have L129_96 : ∀ (fu q2 : Nat), q2 ≤ m → m < q2 + fu → ∀ (H : Heap) (locs : List Loc), va_P D vwCl [(m0, .inr (7, [.ref ml, .ref mm, .ref mit, .ref ms, .int (st), .ref mt, .int (nI tn), .int (fk), .int (fp), .int (av), .int (sv), .int (ov), .int (vv), .ref nw, .ref dr, .ref tr, .ref pa, .int (nI ac), .ref ig, .ref kx, .ref be, .ref tc, .int (nI td)])), (ml, .inl (cy 0, 8, .inl fl)), (mm, .inl (cy 0, 8, .inl fz)), (mit, .inl (cy 0, 320, .inl (va_cpy (fa_fill (fun q => fi (40 * ka + i1 + q)) fs m) fi 0 (40 * kb + j1) q2))), (ms, .inl (cy 0, 40, .inl (fa_fill (fun q => fi (40 * ka + i1 + q)) fs m)))] H → va_D A [(m0, .inr (7, [.ref ml, .ref mm, .ref mit, .ref ms, .int (st), .ref mt, .int (nI tn), .int (fk), .int (fp), .int (av), .int (sv), .int (ov), .int (vv), .ref nw, .ref dr, .ref tr, .ref pa, .int (nI ac), .ref ig, .ref kx, .ref be, .ref tc, .int (nI td)])), (ml, .inl (cy 0, 8, .inl fl)), (mm, .inl (cy 0, 8, .inl fz)), (mit, .inl (cy 0, 320, .inl (va_cpy (fa_fill (fun q => fi (40 * ka + i1 + q)) fs m) fi 0 (40 * kb + j1) q2))), (ms, .inl (cy 0, 40, .inl (fa_fill (fun q => fi (40 * ka + i1 + q)) fs m)))] → va_S A s.heap H locs → ∀ ls : Array Slot, lv_has ls 7 [(0, .ref m0), (1, .int (nI ka)), (2, .int (nI i1)), (3, .int (nI kb)), (4, .int (nI j1)), (5, .int (nI m)), (6, .int (nI q2))] → W pg l en (q_rm 3) s mi args below meth cd H locs 0 0 (MQ below (va_Qi (fun r u => ∃ (st2 : Int32) (ln2 sz2 : Nat → Nat) (itS2 : Nat → Nat → Int32) (fl2 fz2 fi2 fs2 : Nat → Int32), oCopy ln sz itS st (nI ka) (nI i1) (nI kb) (nI j1) (nI m) = (r, st2, ln2, sz2, itS2) ∧ rmI ln2 sz2 itS2 fl2 fz2 fi2 ∧ u = [(m0, .inr (7, [.ref ml, .ref mm, .ref mit, .ref ms, .int (st2), .ref mt, .int (nI tn), .int (fk), .int (fp), .int (av), .int (sv), .int (ov), .int (vv), .ref nw, .ref dr, .ref tr, .ref pa, .int (nI ac), .ref ig, .ref kx, .ref be, .ref tc, .int (nI td)])), (ml, .inl (cy 0, 8, .inl fl2)), (mm, .inl (cy 0, 8, .inl fz2)), (mit, .inl (cy 0, 320, .inl fi2)), (ms, .inl (cy 0, 40, .inl fs2))]) (fun (u : va_W) t => va_P D vwCl u t.heap ∧ va_D A u) A) args s 0 0 A) (F0 mi 129 ls []) := by
                        intro fu
                        induction fu with
                        | zero =>
                          intro q2 h1 h2
                          exact absurd h2 (by omega)
                        | succ fu ih129 =>
                          intro q2 h1_129 h2_129 H locs hP hD hS ls hl
                          refine lv_iload hx hb dX7_copy_129 (lv_at hl 6 rfl) ?_
                          refine lv_iload hx hb dX7_copy_131 (lv_at hl 5 rfl) ?_
                          refine q_icmp_ge (tgt := 164) hx hb dX7_copy_133 (by decide) (by omega) (by omega) (fun c19 => ?_) (fun c19 => ?_)
                          · have hq2 : q2 = m := by omega
                            refine lv_aload_n hx hb dX7_copy_164 rfl (lv_at hl 0 rfl) ?_
                            refine lv_iload hx hb dX7_copy_165 (lv_at hl 5 rfl) ?_
                            refine q_wiV (As := [.int (nI m)]) (rest := []) (wr := [(ml, .inl (cy 0, 8, .inl fl)), (mm, .inl (cy 0, 8, .inl fz)), (mit, .inl (cy 0, 320, .inl (va_cpy (fa_fill (fun q => fi (40 * ka + i1 + q)) fs m) fi 0 (40 * kb + j1) q2))), (ms, .inl (cy 0, 40, .inl (fa_fill (fun q => fi (40 * ka + i1 + q)) fs m)))]) ⟨hx, hb, hml, hown, hts⟩ (c_X7_well l D cy m0 ml mm mit ms mt nw dr tr pa ig kx be tc st fk fp av sv ov vv tn ac td (nI m)) (cwV 1 hts gX7_copy_X7_well rfl rfl rfl (by decide +kernel) ⟨Nat.le_of_ble_eq_true rfl, Nat.le_of_ble_eq_true rfl⟩) hP hD hS hA hK [0] [1, 2, 3, 4] rfl rfl (by decide) rfl (by decide) (by decide) 0 rfl rfl rfl rfl hl.1 rfl (Nat.le_of_ble_eq_true rfl) dX7_copy_167 ⟨Nat.zero_le _, Nat.zero_le _⟩ (fun r20 u21 H locs hr20 hP hD hS => ?_)
                            obtain ⟨rfl, rfl⟩ := hr20
                            have hP : va_P D vwCl [(ml, .inl (cy 0, 8, .inl fl)), (mm, .inl (cy 0, 8, .inl fz)), (mit, .inl (cy 0, 320, .inl (va_cpy (fa_fill (fun q => fi (40 * ka + i1 + q)) fs m) fi 0 (40 * kb + j1) q2))), (ms, .inl (cy 0, 40, .inl (fa_fill (fun q => fi (40 * ka + i1 + q)) fs m))), (m0, .inr (7, [.ref ml, .ref mm, .ref mit, .ref ms, .int (nI 0), .ref mt, .int (nI tn), .int (fk), .int (fp), .int (av), .int (sv), .int (ov), .int (vv), .ref nw, .ref dr, .ref tr, .ref pa, .int (nI ac), .ref ig, .ref kx, .ref be, .ref tc, .int (nI td)]))] H := hP
                            have hD : va_D A [(ml, .inl (cy 0, 8, .inl fl)), (mm, .inl (cy 0, 8, .inl fz)), (mit, .inl (cy 0, 320, .inl (va_cpy (fa_fill (fun q => fi (40 * ka + i1 + q)) fs m) fi 0 (40 * kb + j1) q2))), (ms, .inl (cy 0, 40, .inl (fa_fill (fun q => fi (40 * ka + i1 + q)) fs m))), (m0, .inr (7, [.ref ml, .ref mm, .ref mit, .ref ms, .int (nI 0), .ref mt, .int (nI tn), .int (fk), .int (fp), .int (av), .int (sv), .int (ov), .int (vv), .ref nw, .ref dr, .ref tr, .ref pa, .int (nI ac), .ref ig, .ref kx, .ref be, .ref tc, .int (nI td)]))] := hD
                            have hP9 := hP.sub (ws' := [(m0, .inr (7, [.ref ml, .ref mm, .ref mit, .ref ms, .int (nI 0), .ref mt, .int (nI tn), .int (fk), .int (fp), .int (av), .int (sv), .int (ov), .int (vv), .ref nw, .ref dr, .ref tr, .ref pa, .int (nI ac), .ref ig, .ref kx, .ref be, .ref tc, .int (nI td)])), (ml, .inl (cy 0, 8, .inl fl)), (mm, .inl (cy 0, 8, .inl fz)), (mit, .inl (cy 0, 320, .inl (va_cpy (fa_fill (fun q => fi (40 * ka + i1 + q)) fs m) fi 0 (40 * kb + j1) q2))), (ms, .inl (cy 0, 40, .inl (fa_fill (fun q => fi (40 * ka + i1 + q)) fs m)))]) [4, 0, 1, 2, 3] rfl
                            have hD9 := hD.sub (ws' := [(m0, .inr (7, [.ref ml, .ref mm, .ref mit, .ref ms, .int (nI 0), .ref mt, .int (nI tn), .int (fk), .int (fp), .int (av), .int (sv), .int (ov), .int (vv), .ref nw, .ref dr, .ref tr, .ref pa, .int (nI ac), .ref ig, .ref kx, .ref be, .ref tc, .int (nI td)])), (ml, .inl (cy 0, 8, .inl fl)), (mm, .inl (cy 0, 8, .inl fz)), (mit, .inl (cy 0, 320, .inl (va_cpy (fa_fill (fun q => fi (40 * ka + i1 + q)) fs m) fi 0 (40 * kb + j1) q2))), (ms, .inl (cy 0, 40, .inl (fa_fill (fun q => fi (40 * ka + i1 + q)) fs m)))]) [4, 0, 1, 2, 3] (by decide) rfl
                            exact q_wiret (v := nI m) hx hb hr hlocks dX7_copy_170 hP9 hD9 hS (⟨_, _, _, _, _, _, _, _, by simp only [oCopy, q_cl (by omega : ka < 2147483648), q_cl (by omega : kb < 2147483648), q_cl (by omega : i1 < 2147483648), q_cl (by omega : j1 < 2147483648), q_cl (by omega : m < 2147483648), if_pos b2, if_pos b4, if_neg b6, if_neg b10, if_pos c13, if_pos b15, if_pos b17], rmI_iq hq2 (rmI_copy hrm (by omega) (by omega) (by omega) (by omega)), rfl⟩)
                          · refine lv_aload_n hx hb dX7_copy_136 rfl (lv_at hl 0 rfl) ?_
                            refine va_get (D := D) (ci := 7) (v := .ref mit) (C := RX7) (T := TX7) (N := 23) hx hb hts nX7_copy_0 hown hK.1 hP 0 rfl rfl 2 (by decide) (hts _ mX7_copy_2) (fun _ h9 => h9) rfl dX7_copy_137 ?_
                            refine lv_bipush (v := nI 40) hx hb dX7_copy_140 (by decide) ?_
                            refine lv_iload_n hx hb dX7_copy_142 rfl (lv_at hl 3 rfl) ?_
                            refine lv_imul hx hb dX7_copy_143 ?_
                            refine q_top (y := nI (40 * kb)) (pk_mul _ _) ?_
                            refine lv_iload hx hb dX7_copy_144 (lv_at hl 4 rfl) ?_
                            refine lv_iadd hx hb dX7_copy_146 ?_
                            refine q_top (y := nI ((40 * kb) + j1)) (nI_add _ _) ?_
                            refine lv_iload hx hb dX7_copy_147 (lv_at hl 6 rfl) ?_
                            refine lv_iadd hx hb dX7_copy_149 ?_
                            refine q_top (y := nI (((40 * kb) + j1) + q2)) (nI_add _ _) ?_
                            refine lv_aload_n hx hb dX7_copy_150 rfl (lv_at hl 0 rfl) ?_
                            refine va_get (D := D) (ci := 7) (v := .ref ms) (C := RX7) (T := TX7) (N := 23) hx hb hts nX7_copy_0 hown hK.1 hP 0 rfl rfl 3 (by decide) (hts _ mX7_copy_3) (fun _ h9 => h9) rfl dX7_copy_151 ?_
                            refine lv_iload hx hb dX7_copy_154 (lv_at hl 6 rfl) ?_
                            refine q_iald (j := q2) (v := (fa_fill (fun q => fi (40 * ka + i1 + q)) fs m) q2) hx hb hK hP 4 rfl (by omega) (by decide) (rfl) dX7_copy_156 ?_
                            refine q_iast (j := (((40 * kb) + j1) + q2)) hx hb hK hP hD hS 3 rfl (by omega) (by decide) dX7_copy_157 (fun H locs hP hD hS => ?_)
                            have hP : va_P D vwCl [(m0, .inr (7, [.ref ml, .ref mm, .ref mit, .ref ms, .int (st), .ref mt, .int (nI tn), .int (fk), .int (fp), .int (av), .int (sv), .int (ov), .int (vv), .ref nw, .ref dr, .ref tr, .ref pa, .int (nI ac), .ref ig, .ref kx, .ref be, .ref tc, .int (nI td)])), (ml, .inl (cy 0, 8, .inl fl)), (mm, .inl (cy 0, 8, .inl fz)), (mit, .inl (cy 0, 320, .inl (upd (va_cpy (fa_fill (fun q => fi (40 * ka + i1 + q)) fs m) fi 0 (40 * kb + j1) q2) (((40 * kb) + j1) + q2) ((fa_fill (fun q => fi (40 * ka + i1 + q)) fs m) q2)))), (ms, .inl (cy 0, 40, .inl (fa_fill (fun q => fi (40 * ka + i1 + q)) fs m)))] H := hP
                            have hD : va_D A [(m0, .inr (7, [.ref ml, .ref mm, .ref mit, .ref ms, .int (st), .ref mt, .int (nI tn), .int (fk), .int (fp), .int (av), .int (sv), .int (ov), .int (vv), .ref nw, .ref dr, .ref tr, .ref pa, .int (nI ac), .ref ig, .ref kx, .ref be, .ref tc, .int (nI td)])), (ml, .inl (cy 0, 8, .inl fl)), (mm, .inl (cy 0, 8, .inl fz)), (mit, .inl (cy 0, 320, .inl (upd (va_cpy (fa_fill (fun q => fi (40 * ka + i1 + q)) fs m) fi 0 (40 * kb + j1) q2) (((40 * kb) + j1) + q2) ((fa_fill (fun q => fi (40 * ka + i1 + q)) fs m) q2)))), (ms, .inl (cy 0, 40, .inl (fa_fill (fun q => fi (40 * ka + i1 + q)) fs m)))] := hD
                            refine lv_iinc (v := nI (q2 + 1)) (lv' := [(6, .int (nI (q2 + 1))), (0, .ref m0), (1, .int (nI ka)), (2, .int (nI i1)), (3, .int (nI kb)), (4, .int (nI j1)), (5, .int (nI m))]) hx hb dX7_copy_158 hl (k := 6) rfl (q_inc q2 1) (by decide) rfl (fun ls hl => ?_)
                            refine lv_goto (tgt := 129) hx hb dX7_copy_161 (by decide) ?_
                            have hP := q_Pc (w1 := [(m0, .inr (7, [.ref ml, .ref mm, .ref mit, .ref ms, .int (st), .ref mt, .int (nI tn), .int (fk), .int (fp), .int (av), .int (sv), .int (ov), .int (vv), .ref nw, .ref dr, .ref tr, .ref pa, .int (nI ac), .ref ig, .ref kx, .ref be, .ref tc, .int (nI td)])), (ml, .inl (cy 0, 8, .inl fl)), (mm, .inl (cy 0, 8, .inl fz)), (mit, .inl (cy 0, 320, .inl (upd (va_cpy (fa_fill (fun q => fi (40 * ka + i1 + q)) fs m) fi 0 (40 * kb + j1) q2) (((40 * kb) + j1) + q2) ((fa_fill (fun q => fi (40 * ka + i1 + q)) fs m) q2)))), (ms, .inl (cy 0, 40, .inl (fa_fill (fun q => fi (40 * ka + i1 + q)) fs m)))]) (w2 := [(m0, .inr (7, [.ref ml, .ref mm, .ref mit, .ref ms, .int (st), .ref mt, .int (nI tn), .int (fk), .int (fp), .int (av), .int (sv), .int (ov), .int (vv), .ref nw, .ref dr, .ref tr, .ref pa, .int (nI ac), .ref ig, .ref kx, .ref be, .ref tc, .int (nI td)])), (ml, .inl (cy 0, 8, .inl fl)), (mm, .inl (cy 0, 8, .inl fz)), (mit, .inl (cy 0, 320, .inl (va_cpy (fa_fill (fun q => fi (40 * ka + i1 + q)) fs m) fi 0 (40 * kb + j1) (q2 + 1)))), (ms, .inl (cy 0, 40, .inl (fa_fill (fun q => fi (40 * ka + i1 + q)) fs m)))]) (q_c1 (f := fun z0 => ([(m0, .inr (7, [.ref ml, .ref mm, .ref mit, .ref ms, .int (st), .ref mt, .int (nI tn), .int (fk), .int (fp), .int (av), .int (sv), .int (ov), .int (vv), .ref nw, .ref dr, .ref tr, .ref pa, .int (nI ac), .ref ig, .ref kx, .ref be, .ref tc, .int (nI td)])), (ml, .inl (cy 0, 8, .inl fl)), (mm, .inl (cy 0, 8, .inl fz)), (mit, .inl (cy 0, 320, .inl z0)), (ms, .inl (cy 0, 40, .inl (fa_fill (fun q => fi (40 * ka + i1 + q)) fs m)))] : va_W)) (show (upd (va_cpy (fa_fill (fun q => fi (40 * ka + i1 + q)) fs m) fi 0 (40 * kb + j1) q2) (((40 * kb) + j1) + q2) ((fa_fill (fun q => fi (40 * ka + i1 + q)) fs m) q2) : Nat → Int32) = va_cpy (fa_fill (fun q => fi (40 * ka + i1 + q)) fs m) fi 0 (40 * kb + j1) (q2 + 1) from cpy_s0 _ fi (40 * kb + j1) q2)) hP
                            have hD := q_Dc (w1 := [(m0, .inr (7, [.ref ml, .ref mm, .ref mit, .ref ms, .int (st), .ref mt, .int (nI tn), .int (fk), .int (fp), .int (av), .int (sv), .int (ov), .int (vv), .ref nw, .ref dr, .ref tr, .ref pa, .int (nI ac), .ref ig, .ref kx, .ref be, .ref tc, .int (nI td)])), (ml, .inl (cy 0, 8, .inl fl)), (mm, .inl (cy 0, 8, .inl fz)), (mit, .inl (cy 0, 320, .inl (upd (va_cpy (fa_fill (fun q => fi (40 * ka + i1 + q)) fs m) fi 0 (40 * kb + j1) q2) (((40 * kb) + j1) + q2) ((fa_fill (fun q => fi (40 * ka + i1 + q)) fs m) q2)))), (ms, .inl (cy 0, 40, .inl (fa_fill (fun q => fi (40 * ka + i1 + q)) fs m)))]) (w2 := [(m0, .inr (7, [.ref ml, .ref mm, .ref mit, .ref ms, .int (st), .ref mt, .int (nI tn), .int (fk), .int (fp), .int (av), .int (sv), .int (ov), .int (vv), .ref nw, .ref dr, .ref tr, .ref pa, .int (nI ac), .ref ig, .ref kx, .ref be, .ref tc, .int (nI td)])), (ml, .inl (cy 0, 8, .inl fl)), (mm, .inl (cy 0, 8, .inl fz)), (mit, .inl (cy 0, 320, .inl (va_cpy (fa_fill (fun q => fi (40 * ka + i1 + q)) fs m) fi 0 (40 * kb + j1) (q2 + 1)))), (ms, .inl (cy 0, 40, .inl (fa_fill (fun q => fi (40 * ka + i1 + q)) fs m)))]) (q_c1 (f := fun z0 => ([(m0, .inr (7, [.ref ml, .ref mm, .ref mit, .ref ms, .int (st), .ref mt, .int (nI tn), .int (fk), .int (fp), .int (av), .int (sv), .int (ov), .int (vv), .ref nw, .ref dr, .ref tr, .ref pa, .int (nI ac), .ref ig, .ref kx, .ref be, .ref tc, .int (nI td)])), (ml, .inl (cy 0, 8, .inl fl)), (mm, .inl (cy 0, 8, .inl fz)), (mit, .inl (cy 0, 320, .inl z0)), (ms, .inl (cy 0, 40, .inl (fa_fill (fun q => fi (40 * ka + i1 + q)) fs m)))] : va_W)) (show (upd (va_cpy (fa_fill (fun q => fi (40 * ka + i1 + q)) fs m) fi 0 (40 * kb + j1) q2) (((40 * kb) + j1) + q2) ((fa_fill (fun q => fi (40 * ka + i1 + q)) fs m) q2) : Nat → Int32) = va_cpy (fa_fill (fun q => fi (40 * ka + i1 + q)) fs m) fi 0 (40 * kb + j1) (q2 + 1) from cpy_s0 _ fi (40 * kb + j1) q2)) hD
                            exact ih129 (q2 + 1) (by omega) (by omega) H locs hP hD hS ls (lv_sub (l' := [(0, .ref m0), (1, .int (nI ka)), (2, .int (nI i1)), (3, .int (nI kb)), (4, .int (nI j1)), (5, .int (nI m)), (6, .int (nI (q2 + 1)))]) hl [1, 2, 3, 4, 5, 6, 0] rfl)
                      have hP := q_Pc (w1 := [(m0, .inr (7, [.ref ml, .ref mm, .ref mit, .ref ms, .int (st), .ref mt, .int (nI tn), .int (fk), .int (fp), .int (av), .int (sv), .int (ov), .int (vv), .ref nw, .ref dr, .ref tr, .ref pa, .int (nI ac), .ref ig, .ref kx, .ref be, .ref tc, .int (nI td)])), (ml, .inl (cy 0, 8, .inl fl)), (mm, .inl (cy 0, 8, .inl fz)), (mit, .inl (cy 0, 320, .inl fi)), (ms, .inl (cy 0, 40, .inl (fa_fill (fun q => fi (40 * ka + i1 + q)) fs q1)))]) (w2 := [(m0, .inr (7, [.ref ml, .ref mm, .ref mit, .ref ms, .int (st), .ref mt, .int (nI tn), .int (fk), .int (fp), .int (av), .int (sv), .int (ov), .int (vv), .ref nw, .ref dr, .ref tr, .ref pa, .int (nI ac), .ref ig, .ref kx, .ref be, .ref tc, .int (nI td)])), (ml, .inl (cy 0, 8, .inl fl)), (mm, .inl (cy 0, 8, .inl fz)), (mit, .inl (cy 0, 320, .inl (va_cpy (fa_fill (fun q => fi (40 * ka + i1 + q)) fs m) fi 0 (40 * kb + j1) 0))), (ms, .inl (cy 0, 40, .inl (fa_fill (fun q => fi (40 * ka + i1 + q)) fs m)))]) (q_c2 (f := fun z0 z1 => ([(m0, .inr (7, [.ref ml, .ref mm, .ref mit, .ref ms, .int (st), .ref mt, .int (nI tn), .int (fk), .int (fp), .int (av), .int (sv), .int (ov), .int (vv), .ref nw, .ref dr, .ref tr, .ref pa, .int (nI ac), .ref ig, .ref kx, .ref be, .ref tc, .int (nI td)])), (ml, .inl (cy 0, 8, .inl fl)), (mm, .inl (cy 0, 8, .inl fz)), (mit, .inl (cy 0, 320, .inl z0)), (ms, .inl (cy 0, 40, .inl z1))] : va_W)) (show (fi : Nat → Int32) = va_cpy (fa_fill (fun q => fi (40 * ka + i1 + q)) fs m) fi 0 (40 * kb + j1) 0 from (cpy_0 _ fi 0 (40 * kb + j1)).symm) (show (fa_fill (fun q => fi (40 * ka + i1 + q)) fs q1 : Nat → Int32) = fa_fill (fun q => fi (40 * ka + i1 + q)) fs m from by rw [hq1])) hP
                      have hD := q_Dc (w1 := [(m0, .inr (7, [.ref ml, .ref mm, .ref mit, .ref ms, .int (st), .ref mt, .int (nI tn), .int (fk), .int (fp), .int (av), .int (sv), .int (ov), .int (vv), .ref nw, .ref dr, .ref tr, .ref pa, .int (nI ac), .ref ig, .ref kx, .ref be, .ref tc, .int (nI td)])), (ml, .inl (cy 0, 8, .inl fl)), (mm, .inl (cy 0, 8, .inl fz)), (mit, .inl (cy 0, 320, .inl fi)), (ms, .inl (cy 0, 40, .inl (fa_fill (fun q => fi (40 * ka + i1 + q)) fs q1)))]) (w2 := [(m0, .inr (7, [.ref ml, .ref mm, .ref mit, .ref ms, .int (st), .ref mt, .int (nI tn), .int (fk), .int (fp), .int (av), .int (sv), .int (ov), .int (vv), .ref nw, .ref dr, .ref tr, .ref pa, .int (nI ac), .ref ig, .ref kx, .ref be, .ref tc, .int (nI td)])), (ml, .inl (cy 0, 8, .inl fl)), (mm, .inl (cy 0, 8, .inl fz)), (mit, .inl (cy 0, 320, .inl (va_cpy (fa_fill (fun q => fi (40 * ka + i1 + q)) fs m) fi 0 (40 * kb + j1) 0))), (ms, .inl (cy 0, 40, .inl (fa_fill (fun q => fi (40 * ka + i1 + q)) fs m)))]) (q_c2 (f := fun z0 z1 => ([(m0, .inr (7, [.ref ml, .ref mm, .ref mit, .ref ms, .int (st), .ref mt, .int (nI tn), .int (fk), .int (fp), .int (av), .int (sv), .int (ov), .int (vv), .ref nw, .ref dr, .ref tr, .ref pa, .int (nI ac), .ref ig, .ref kx, .ref be, .ref tc, .int (nI td)])), (ml, .inl (cy 0, 8, .inl fl)), (mm, .inl (cy 0, 8, .inl fz)), (mit, .inl (cy 0, 320, .inl z0)), (ms, .inl (cy 0, 40, .inl z1))] : va_W)) (show (fi : Nat → Int32) = va_cpy (fa_fill (fun q => fi (40 * ka + i1 + q)) fs m) fi 0 (40 * kb + j1) 0 from (cpy_0 _ fi 0 (40 * kb + j1)).symm) (show (fa_fill (fun q => fi (40 * ka + i1 + q)) fs q1 : Nat → Int32) = fa_fill (fun q => fi (40 * ka + i1 + q)) fs m from by rw [hq1])) hD
                      exact L129_96 (m + 1) 0 (by omega) (by omega) H locs hP hD hS ls (lv_sub (l' := [(0, .ref m0), (1, .int (nI ka)), (2, .int (nI i1)), (3, .int (nI kb)), (4, .int (nI j1)), (5, .int (nI m)), (6, .int (nI 0))]) hl [1, 2, 3, 4, 5, 6, 0] rfl)
                    · refine lv_aload_n hx hb dX7_copy_99 rfl (lv_at hl 0 rfl) ?_
                      refine va_get (D := D) (ci := 7) (v := .ref ms) (C := RX7) (T := TX7) (N := 23) hx hb hts nX7_copy_0 hown hK.1 hP 0 rfl rfl 3 (by decide) (hts _ mX7_copy_3) (fun _ h9 => h9) rfl dX7_copy_100 ?_
                      refine lv_iload hx hb dX7_copy_103 (lv_at hl 6 rfl) ?_
                      refine lv_aload_n hx hb dX7_copy_105 rfl (lv_at hl 0 rfl) ?_
                      refine va_get (D := D) (ci := 7) (v := .ref mit) (C := RX7) (T := TX7) (N := 23) hx hb hts nX7_copy_0 hown hK.1 hP 0 rfl rfl 2 (by decide) (hts _ mX7_copy_2) (fun _ h9 => h9) rfl dX7_copy_106 ?_
                      refine lv_bipush (v := nI 40) hx hb dX7_copy_109 (by decide) ?_
                      refine lv_iload_n hx hb dX7_copy_111 rfl (lv_at hl 1 rfl) ?_
                      refine lv_imul hx hb dX7_copy_112 ?_
                      refine q_top (y := nI (40 * ka)) (pk_mul _ _) ?_
                      refine lv_iload_n hx hb dX7_copy_113 rfl (lv_at hl 2 rfl) ?_
                      refine lv_iadd hx hb dX7_copy_114 ?_
                      refine q_top (y := nI ((40 * ka) + i1)) (nI_add _ _) ?_
                      refine lv_iload hx hb dX7_copy_115 (lv_at hl 6 rfl) ?_
                      refine lv_iadd hx hb dX7_copy_117 ?_
                      refine q_top (y := nI (((40 * ka) + i1) + q1)) (nI_add _ _) ?_
                      refine q_iald (j := (((40 * ka) + i1) + q1)) (v := fi (((40 * ka) + i1) + q1)) hx hb hK hP 3 rfl (by omega) (by decide) (rfl) dX7_copy_118 ?_
                      refine q_iast (j := q1) hx hb hK hP hD hS 4 rfl (by omega) (by decide) dX7_copy_119 (fun H locs hP hD hS => ?_)
                      have hP : va_P D vwCl [(m0, .inr (7, [.ref ml, .ref mm, .ref mit, .ref ms, .int (st), .ref mt, .int (nI tn), .int (fk), .int (fp), .int (av), .int (sv), .int (ov), .int (vv), .ref nw, .ref dr, .ref tr, .ref pa, .int (nI ac), .ref ig, .ref kx, .ref be, .ref tc, .int (nI td)])), (ml, .inl (cy 0, 8, .inl fl)), (mm, .inl (cy 0, 8, .inl fz)), (mit, .inl (cy 0, 320, .inl fi)), (ms, .inl (cy 0, 40, .inl (upd (fa_fill (fun q => fi (40 * ka + i1 + q)) fs q1) q1 (fi (((40 * ka) + i1) + q1)))))] H := hP
                      have hD : va_D A [(m0, .inr (7, [.ref ml, .ref mm, .ref mit, .ref ms, .int (st), .ref mt, .int (nI tn), .int (fk), .int (fp), .int (av), .int (sv), .int (ov), .int (vv), .ref nw, .ref dr, .ref tr, .ref pa, .int (nI ac), .ref ig, .ref kx, .ref be, .ref tc, .int (nI td)])), (ml, .inl (cy 0, 8, .inl fl)), (mm, .inl (cy 0, 8, .inl fz)), (mit, .inl (cy 0, 320, .inl fi)), (ms, .inl (cy 0, 40, .inl (upd (fa_fill (fun q => fi (40 * ka + i1 + q)) fs q1) q1 (fi (((40 * ka) + i1) + q1)))))] := hD
                      refine lv_iinc (v := nI (q1 + 1)) (lv' := [(6, .int (nI (q1 + 1))), (0, .ref m0), (1, .int (nI ka)), (2, .int (nI i1)), (3, .int (nI kb)), (4, .int (nI j1)), (5, .int (nI m))]) hx hb dX7_copy_120 hl (k := 6) rfl (q_inc q1 1) (by decide) rfl (fun ls hl => ?_)
                      refine lv_goto (tgt := 92) hx hb dX7_copy_123 (by decide) ?_
                      have hP := q_Pc (w1 := [(m0, .inr (7, [.ref ml, .ref mm, .ref mit, .ref ms, .int (st), .ref mt, .int (nI tn), .int (fk), .int (fp), .int (av), .int (sv), .int (ov), .int (vv), .ref nw, .ref dr, .ref tr, .ref pa, .int (nI ac), .ref ig, .ref kx, .ref be, .ref tc, .int (nI td)])), (ml, .inl (cy 0, 8, .inl fl)), (mm, .inl (cy 0, 8, .inl fz)), (mit, .inl (cy 0, 320, .inl fi)), (ms, .inl (cy 0, 40, .inl (upd (fa_fill (fun q => fi (40 * ka + i1 + q)) fs q1) q1 (fi (((40 * ka) + i1) + q1)))))]) (w2 := [(m0, .inr (7, [.ref ml, .ref mm, .ref mit, .ref ms, .int (st), .ref mt, .int (nI tn), .int (fk), .int (fp), .int (av), .int (sv), .int (ov), .int (vv), .ref nw, .ref dr, .ref tr, .ref pa, .int (nI ac), .ref ig, .ref kx, .ref be, .ref tc, .int (nI td)])), (ml, .inl (cy 0, 8, .inl fl)), (mm, .inl (cy 0, 8, .inl fz)), (mit, .inl (cy 0, 320, .inl fi)), (ms, .inl (cy 0, 40, .inl (fa_fill (fun q => fi (40 * ka + i1 + q)) fs (q1 + 1))))]) (q_c1 (f := fun z0 => ([(m0, .inr (7, [.ref ml, .ref mm, .ref mit, .ref ms, .int (st), .ref mt, .int (nI tn), .int (fk), .int (fp), .int (av), .int (sv), .int (ov), .int (vv), .ref nw, .ref dr, .ref tr, .ref pa, .int (nI ac), .ref ig, .ref kx, .ref be, .ref tc, .int (nI td)])), (ml, .inl (cy 0, 8, .inl fl)), (mm, .inl (cy 0, 8, .inl fz)), (mit, .inl (cy 0, 320, .inl fi)), (ms, .inl (cy 0, 40, .inl z0))] : va_W)) (show (upd (fa_fill (fun q => fi (40 * ka + i1 + q)) fs q1) q1 (fi (((40 * ka) + i1) + q1)) : Nat → Int32) = fa_fill (fun q => fi (40 * ka + i1 + q)) fs (q1 + 1) from fa_fill_succ (fun q => fi (40 * ka + i1 + q)) fs q1)) hP
                      have hD := q_Dc (w1 := [(m0, .inr (7, [.ref ml, .ref mm, .ref mit, .ref ms, .int (st), .ref mt, .int (nI tn), .int (fk), .int (fp), .int (av), .int (sv), .int (ov), .int (vv), .ref nw, .ref dr, .ref tr, .ref pa, .int (nI ac), .ref ig, .ref kx, .ref be, .ref tc, .int (nI td)])), (ml, .inl (cy 0, 8, .inl fl)), (mm, .inl (cy 0, 8, .inl fz)), (mit, .inl (cy 0, 320, .inl fi)), (ms, .inl (cy 0, 40, .inl (upd (fa_fill (fun q => fi (40 * ka + i1 + q)) fs q1) q1 (fi (((40 * ka) + i1) + q1)))))]) (w2 := [(m0, .inr (7, [.ref ml, .ref mm, .ref mit, .ref ms, .int (st), .ref mt, .int (nI tn), .int (fk), .int (fp), .int (av), .int (sv), .int (ov), .int (vv), .ref nw, .ref dr, .ref tr, .ref pa, .int (nI ac), .ref ig, .ref kx, .ref be, .ref tc, .int (nI td)])), (ml, .inl (cy 0, 8, .inl fl)), (mm, .inl (cy 0, 8, .inl fz)), (mit, .inl (cy 0, 320, .inl fi)), (ms, .inl (cy 0, 40, .inl (fa_fill (fun q => fi (40 * ka + i1 + q)) fs (q1 + 1))))]) (q_c1 (f := fun z0 => ([(m0, .inr (7, [.ref ml, .ref mm, .ref mit, .ref ms, .int (st), .ref mt, .int (nI tn), .int (fk), .int (fp), .int (av), .int (sv), .int (ov), .int (vv), .ref nw, .ref dr, .ref tr, .ref pa, .int (nI ac), .ref ig, .ref kx, .ref be, .ref tc, .int (nI td)])), (ml, .inl (cy 0, 8, .inl fl)), (mm, .inl (cy 0, 8, .inl fz)), (mit, .inl (cy 0, 320, .inl fi)), (ms, .inl (cy 0, 40, .inl z0))] : va_W)) (show (upd (fa_fill (fun q => fi (40 * ka + i1 + q)) fs q1) q1 (fi (((40 * ka) + i1) + q1)) : Nat → Int32) = fa_fill (fun q => fi (40 * ka + i1 + q)) fs (q1 + 1) from fa_fill_succ (fun q => fi (40 * ka + i1 + q)) fs q1)) hD
                      exact ih92 (q1 + 1) (by omega) (by omega) H locs hP hD hS ls (lv_sub (l' := [(0, .ref m0), (1, .int (nI ka)), (2, .int (nI i1)), (3, .int (nI kb)), (4, .int (nI j1)), (5, .int (nI m)), (6, .int (nI (q1 + 1)))]) hl [1, 2, 3, 4, 5, 6, 0] rfl)
                have hP := q_Pc (w1 := [(m0, .inr (7, [.ref ml, .ref mm, .ref mit, .ref ms, .int (st), .ref mt, .int (nI tn), .int (fk), .int (fp), .int (av), .int (sv), .int (ov), .int (vv), .ref nw, .ref dr, .ref tr, .ref pa, .int (nI ac), .ref ig, .ref kx, .ref be, .ref tc, .int (nI td)])), (ml, .inl (cy 0, 8, .inl fl)), (mm, .inl (cy 0, 8, .inl fz)), (mit, .inl (cy 0, 320, .inl fi)), (ms, .inl (cy 0, 40, .inl fs))]) (w2 := [(m0, .inr (7, [.ref ml, .ref mm, .ref mit, .ref ms, .int (st), .ref mt, .int (nI tn), .int (fk), .int (fp), .int (av), .int (sv), .int (ov), .int (vv), .ref nw, .ref dr, .ref tr, .ref pa, .int (nI ac), .ref ig, .ref kx, .ref be, .ref tc, .int (nI td)])), (ml, .inl (cy 0, 8, .inl fl)), (mm, .inl (cy 0, 8, .inl fz)), (mit, .inl (cy 0, 320, .inl fi)), (ms, .inl (cy 0, 40, .inl (fa_fill (fun q => fi (40 * ka + i1 + q)) fs 0)))]) (q_c1 (f := fun z0 => ([(m0, .inr (7, [.ref ml, .ref mm, .ref mit, .ref ms, .int (st), .ref mt, .int (nI tn), .int (fk), .int (fp), .int (av), .int (sv), .int (ov), .int (vv), .ref nw, .ref dr, .ref tr, .ref pa, .int (nI ac), .ref ig, .ref kx, .ref be, .ref tc, .int (nI td)])), (ml, .inl (cy 0, 8, .inl fl)), (mm, .inl (cy 0, 8, .inl fz)), (mit, .inl (cy 0, 320, .inl fi)), (ms, .inl (cy 0, 40, .inl z0))] : va_W)) (show (fs : Nat → Int32) = fa_fill (fun q => fi (40 * ka + i1 + q)) fs 0 from (fa_fill_0 (fun q => fi (40 * ka + i1 + q)) fs).symm)) hP
                have hD := q_Dc (w1 := [(m0, .inr (7, [.ref ml, .ref mm, .ref mit, .ref ms, .int (st), .ref mt, .int (nI tn), .int (fk), .int (fp), .int (av), .int (sv), .int (ov), .int (vv), .ref nw, .ref dr, .ref tr, .ref pa, .int (nI ac), .ref ig, .ref kx, .ref be, .ref tc, .int (nI td)])), (ml, .inl (cy 0, 8, .inl fl)), (mm, .inl (cy 0, 8, .inl fz)), (mit, .inl (cy 0, 320, .inl fi)), (ms, .inl (cy 0, 40, .inl fs))]) (w2 := [(m0, .inr (7, [.ref ml, .ref mm, .ref mit, .ref ms, .int (st), .ref mt, .int (nI tn), .int (fk), .int (fp), .int (av), .int (sv), .int (ov), .int (vv), .ref nw, .ref dr, .ref tr, .ref pa, .int (nI ac), .ref ig, .ref kx, .ref be, .ref tc, .int (nI td)])), (ml, .inl (cy 0, 8, .inl fl)), (mm, .inl (cy 0, 8, .inl fz)), (mit, .inl (cy 0, 320, .inl fi)), (ms, .inl (cy 0, 40, .inl (fa_fill (fun q => fi (40 * ka + i1 + q)) fs 0)))]) (q_c1 (f := fun z0 => ([(m0, .inr (7, [.ref ml, .ref mm, .ref mit, .ref ms, .int (st), .ref mt, .int (nI tn), .int (fk), .int (fp), .int (av), .int (sv), .int (ov), .int (vv), .ref nw, .ref dr, .ref tr, .ref pa, .int (nI ac), .ref ig, .ref kx, .ref be, .ref tc, .int (nI td)])), (ml, .inl (cy 0, 8, .inl fl)), (mm, .inl (cy 0, 8, .inl fz)), (mit, .inl (cy 0, 320, .inl fi)), (ms, .inl (cy 0, 40, .inl z0))] : va_W)) (show (fs : Nat → Int32) = fa_fill (fun q => fi (40 * ka + i1 + q)) fs 0 from (fa_fill_0 (fun q => fi (40 * ka + i1 + q)) fs).symm)) hD
                exact L92_82 (m + 1) 0 (by omega) (by omega) H locs hP hD hS ls (lv_sub (l' := [(0, .ref m0), (1, .int (nI ka)), (2, .int (nI i1)), (3, .int (nI kb)), (4, .int (nI j1)), (5, .int (nI m)), (6, .int (nI 0))]) hl [1, 2, 3, 4, 5, 6, 0] rfl)
              · have _ := b17
                refine lv_if_ne (tgt := 89) hx hb dX7_copy_80 (by decide) (fun c9 => absurd (by decide) c9) (fun _ => ?_)
                refine lv_aload_n hx hb dX7_copy_83 rfl (lv_at hl 0 rfl) ?_
                refine lv_iconst (v := nI 2) hx hb dX7_copy_84 (by decide) ?_
                refine q_wiV (As := [.int (nI 2)]) (rest := []) (wr := [(ml, .inl (cy 0, 8, .inl fl)), (mm, .inl (cy 0, 8, .inl fz)), (mit, .inl (cy 0, 320, .inl fi)), (ms, .inl (cy 0, 40, .inl fs))]) ⟨hx, hb, hml, hown, hts⟩ (c_X7_found l D cy m0 ml mm mit ms mt nw dr tr pa ig kx be tc st fk fp av sv ov vv tn ac td (nI 2)) (cwV 1 hts gX7_copy_X7_found rfl rfl rfl (by decide +kernel) ⟨Nat.le_of_ble_eq_true rfl, Nat.le_of_ble_eq_true rfl⟩) hP hD hS hA hK [0] [1, 2, 3, 4] rfl rfl (by decide) rfl (by decide) (by decide) 0 rfl rfl rfl rfl hl.1 rfl (Nat.le_of_ble_eq_true rfl) dX7_copy_85 ⟨Nat.zero_le _, Nat.zero_le _⟩ (fun r22 u23 H locs hr22 hP hD hS => ?_)
                obtain ⟨rfl, rfl⟩ := hr22
                have hP : va_P D vwCl [(ml, .inl (cy 0, 8, .inl fl)), (mm, .inl (cy 0, 8, .inl fz)), (mit, .inl (cy 0, 320, .inl fi)), (ms, .inl (cy 0, 40, .inl fs)), (m0, .inr (7, [.ref ml, .ref mm, .ref mit, .ref ms, .int (nI 2), .ref mt, .int (nI tn), .int (fk), .int (fp), .int (av), .int (sv), .int (ov), .int (vv), .ref nw, .ref dr, .ref tr, .ref pa, .int (nI ac), .ref ig, .ref kx, .ref be, .ref tc, .int (nI td)]))] H := hP
                have hD : va_D A [(ml, .inl (cy 0, 8, .inl fl)), (mm, .inl (cy 0, 8, .inl fz)), (mit, .inl (cy 0, 320, .inl fi)), (ms, .inl (cy 0, 40, .inl fs)), (m0, .inr (7, [.ref ml, .ref mm, .ref mit, .ref ms, .int (nI 2), .ref mt, .int (nI tn), .int (fk), .int (fp), .int (av), .int (sv), .int (ov), .int (vv), .ref nw, .ref dr, .ref tr, .ref pa, .int (nI ac), .ref ig, .ref kx, .ref be, .ref tc, .int (nI td)]))] := hD
                refine q_top (y := (-1000012)) (by decide) ?_
                have hP9 := hP.sub (ws' := [(m0, .inr (7, [.ref ml, .ref mm, .ref mit, .ref ms, .int (nI 2), .ref mt, .int (nI tn), .int (fk), .int (fp), .int (av), .int (sv), .int (ov), .int (vv), .ref nw, .ref dr, .ref tr, .ref pa, .int (nI ac), .ref ig, .ref kx, .ref be, .ref tc, .int (nI td)])), (ml, .inl (cy 0, 8, .inl fl)), (mm, .inl (cy 0, 8, .inl fz)), (mit, .inl (cy 0, 320, .inl fi)), (ms, .inl (cy 0, 40, .inl fs))]) [4, 0, 1, 2, 3] rfl
                have hD9 := hD.sub (ws' := [(m0, .inr (7, [.ref ml, .ref mm, .ref mit, .ref ms, .int (nI 2), .ref mt, .int (nI tn), .int (fk), .int (fp), .int (av), .int (sv), .int (ov), .int (vv), .ref nw, .ref dr, .ref tr, .ref pa, .int (nI ac), .ref ig, .ref kx, .ref be, .ref tc, .int (nI td)])), (ml, .inl (cy 0, 8, .inl fl)), (mm, .inl (cy 0, 8, .inl fz)), (mit, .inl (cy 0, 320, .inl fi)), (ms, .inl (cy 0, 40, .inl fs))]) [4, 0, 1, 2, 3] (by decide) rfl
                exact q_wiret (v := (-1000012)) hx hb hr hlocks dX7_copy_88 hP9 hD9 hS (⟨_, _, _, _, _, _, _, _, by simp only [oCopy, q_cl (by omega : ka < 2147483648), q_cl (by omega : kb < 2147483648), if_pos b2, if_pos b4, if_neg b6, if_neg b10, if_pos c13, if_pos b15, if_neg b17], hrm, rfl⟩)
            · have _ := b15
              refine lv_if_eq (tgt := 83) hx hb dX7_copy_68 (by decide) (fun _ => ?_) (fun c9 => absurd (by decide) c9)
              refine lv_aload_n hx hb dX7_copy_83 rfl (lv_at hl 0 rfl) ?_
              refine lv_iconst (v := nI 2) hx hb dX7_copy_84 (by decide) ?_
              refine q_wiV (As := [.int (nI 2)]) (rest := []) (wr := [(ml, .inl (cy 0, 8, .inl fl)), (mm, .inl (cy 0, 8, .inl fz)), (mit, .inl (cy 0, 320, .inl fi)), (ms, .inl (cy 0, 40, .inl fs))]) ⟨hx, hb, hml, hown, hts⟩ (c_X7_found l D cy m0 ml mm mit ms mt nw dr tr pa ig kx be tc st fk fp av sv ov vv tn ac td (nI 2)) (cwV 1 hts gX7_copy_X7_found rfl rfl rfl (by decide +kernel) ⟨Nat.le_of_ble_eq_true rfl, Nat.le_of_ble_eq_true rfl⟩) hP hD hS hA hK [0] [1, 2, 3, 4] rfl rfl (by decide) rfl (by decide) (by decide) 0 rfl rfl rfl rfl hl.1 rfl (Nat.le_of_ble_eq_true rfl) dX7_copy_85 ⟨Nat.zero_le _, Nat.zero_le _⟩ (fun r24 u25 H locs hr24 hP hD hS => ?_)
              obtain ⟨rfl, rfl⟩ := hr24
              have hP : va_P D vwCl [(ml, .inl (cy 0, 8, .inl fl)), (mm, .inl (cy 0, 8, .inl fz)), (mit, .inl (cy 0, 320, .inl fi)), (ms, .inl (cy 0, 40, .inl fs)), (m0, .inr (7, [.ref ml, .ref mm, .ref mit, .ref ms, .int (nI 2), .ref mt, .int (nI tn), .int (fk), .int (fp), .int (av), .int (sv), .int (ov), .int (vv), .ref nw, .ref dr, .ref tr, .ref pa, .int (nI ac), .ref ig, .ref kx, .ref be, .ref tc, .int (nI td)]))] H := hP
              have hD : va_D A [(ml, .inl (cy 0, 8, .inl fl)), (mm, .inl (cy 0, 8, .inl fz)), (mit, .inl (cy 0, 320, .inl fi)), (ms, .inl (cy 0, 40, .inl fs)), (m0, .inr (7, [.ref ml, .ref mm, .ref mit, .ref ms, .int (nI 2), .ref mt, .int (nI tn), .int (fk), .int (fp), .int (av), .int (sv), .int (ov), .int (vv), .ref nw, .ref dr, .ref tr, .ref pa, .int (nI ac), .ref ig, .ref kx, .ref be, .ref tc, .int (nI td)]))] := hD
              refine q_top (y := (-1000012)) (by decide) ?_
              have hP9 := hP.sub (ws' := [(m0, .inr (7, [.ref ml, .ref mm, .ref mit, .ref ms, .int (nI 2), .ref mt, .int (nI tn), .int (fk), .int (fp), .int (av), .int (sv), .int (ov), .int (vv), .ref nw, .ref dr, .ref tr, .ref pa, .int (nI ac), .ref ig, .ref kx, .ref be, .ref tc, .int (nI td)])), (ml, .inl (cy 0, 8, .inl fl)), (mm, .inl (cy 0, 8, .inl fz)), (mit, .inl (cy 0, 320, .inl fi)), (ms, .inl (cy 0, 40, .inl fs))]) [4, 0, 1, 2, 3] rfl
              have hD9 := hD.sub (ws' := [(m0, .inr (7, [.ref ml, .ref mm, .ref mit, .ref ms, .int (nI 2), .ref mt, .int (nI tn), .int (fk), .int (fp), .int (av), .int (sv), .int (ov), .int (vv), .ref nw, .ref dr, .ref tr, .ref pa, .int (nI ac), .ref ig, .ref kx, .ref be, .ref tc, .int (nI td)])), (ml, .inl (cy 0, 8, .inl fl)), (mm, .inl (cy 0, 8, .inl fz)), (mit, .inl (cy 0, 320, .inl fi)), (ms, .inl (cy 0, 40, .inl fs))]) [4, 0, 1, 2, 3] (by decide) rfl
              exact q_wiret (v := (-1000012)) hx hb hr hlocks dX7_copy_88 hP9 hD9 hS (⟨_, _, _, _, _, _, _, _, by simp only [oCopy, q_cl (by omega : ka < 2147483648), q_cl (by omega : kb < 2147483648), if_pos b2, if_pos b4, if_neg b6, if_neg b10, if_pos c13, if_neg b15], hrm, rfl⟩)
          · replace c13 := fun q => c13 ((mlC_e hla hlb).mpr q)
            refine lv_aload_n hx hb dX7_copy_54 rfl (lv_at hl 0 rfl) ?_
            refine lv_iconst (v := nI 5) hx hb dX7_copy_55 (by decide) ?_
            refine q_wiV (As := [.int (nI 5)]) (rest := []) (wr := [(ml, .inl (cy 0, 8, .inl fl)), (mm, .inl (cy 0, 8, .inl fz)), (mit, .inl (cy 0, 320, .inl fi)), (ms, .inl (cy 0, 40, .inl fs))]) ⟨hx, hb, hml, hown, hts⟩ (c_X7_found l D cy m0 ml mm mit ms mt nw dr tr pa ig kx be tc st fk fp av sv ov vv tn ac td (nI 5)) (cwV 1 hts gX7_copy_X7_found rfl rfl rfl (by decide +kernel) ⟨Nat.le_of_ble_eq_true rfl, Nat.le_of_ble_eq_true rfl⟩) hP hD hS hA hK [0] [1, 2, 3, 4] rfl rfl (by decide) rfl (by decide) (by decide) 0 rfl rfl rfl rfl hl.1 rfl (Nat.le_of_ble_eq_true rfl) dX7_copy_56 ⟨Nat.zero_le _, Nat.zero_le _⟩ (fun r26 u27 H locs hr26 hP hD hS => ?_)
            obtain ⟨rfl, rfl⟩ := hr26
            have hP : va_P D vwCl [(ml, .inl (cy 0, 8, .inl fl)), (mm, .inl (cy 0, 8, .inl fz)), (mit, .inl (cy 0, 320, .inl fi)), (ms, .inl (cy 0, 40, .inl fs)), (m0, .inr (7, [.ref ml, .ref mm, .ref mit, .ref ms, .int (nI 5), .ref mt, .int (nI tn), .int (fk), .int (fp), .int (av), .int (sv), .int (ov), .int (vv), .ref nw, .ref dr, .ref tr, .ref pa, .int (nI ac), .ref ig, .ref kx, .ref be, .ref tc, .int (nI td)]))] H := hP
            have hD : va_D A [(ml, .inl (cy 0, 8, .inl fl)), (mm, .inl (cy 0, 8, .inl fz)), (mit, .inl (cy 0, 320, .inl fi)), (ms, .inl (cy 0, 40, .inl fs)), (m0, .inr (7, [.ref ml, .ref mm, .ref mit, .ref ms, .int (nI 5), .ref mt, .int (nI tn), .int (fk), .int (fp), .int (av), .int (sv), .int (ov), .int (vv), .ref nw, .ref dr, .ref tr, .ref pa, .int (nI ac), .ref ig, .ref kx, .ref be, .ref tc, .int (nI td)]))] := hD
            refine q_top (y := (-1000015)) (by decide) ?_
            have hP9 := hP.sub (ws' := [(m0, .inr (7, [.ref ml, .ref mm, .ref mit, .ref ms, .int (nI 5), .ref mt, .int (nI tn), .int (fk), .int (fp), .int (av), .int (sv), .int (ov), .int (vv), .ref nw, .ref dr, .ref tr, .ref pa, .int (nI ac), .ref ig, .ref kx, .ref be, .ref tc, .int (nI td)])), (ml, .inl (cy 0, 8, .inl fl)), (mm, .inl (cy 0, 8, .inl fz)), (mit, .inl (cy 0, 320, .inl fi)), (ms, .inl (cy 0, 40, .inl fs))]) [4, 0, 1, 2, 3] rfl
            have hD9 := hD.sub (ws' := [(m0, .inr (7, [.ref ml, .ref mm, .ref mit, .ref ms, .int (nI 5), .ref mt, .int (nI tn), .int (fk), .int (fp), .int (av), .int (sv), .int (ov), .int (vv), .ref nw, .ref dr, .ref tr, .ref pa, .int (nI ac), .ref ig, .ref kx, .ref be, .ref tc, .int (nI td)])), (ml, .inl (cy 0, 8, .inl fl)), (mm, .inl (cy 0, 8, .inl fz)), (mit, .inl (cy 0, 320, .inl fi)), (ms, .inl (cy 0, 40, .inl fs))]) [4, 0, 1, 2, 3] (by decide) rfl
            exact q_wiret (v := (-1000015)) hx hb hr hlocks dX7_copy_59 hP9 hD9 hS (⟨_, _, _, _, _, _, _, _, by simp only [oCopy, q_cl (by omega : ka < 2147483648), q_cl (by omega : kb < 2147483648), if_pos b2, if_pos b4, if_neg b6, if_neg b10, if_neg c13], hrm, rfl⟩)
    · have _ := b4
      refine lv_if_ne (tgt := 17) hx hb dX7_copy_11 (by decide) (fun c9 => absurd (by decide) c9) (fun _ => ?_)
      refine lv_ldc (v := (-1000001)) hx hb hown (hts _ mX7_copy_4) dX7_copy_14 ?_
      have hP9 := hP
      have hD9 := hD
      exact q_wiret (v := (-1000001)) hx hb hr hlocks dX7_copy_16 hP9 hD9 hS (⟨_, _, _, _, _, _, _, _, by simp only [oCopy, if_pos b2, if_neg b4], hrm, rfl⟩)
  · have _ := b2
    refine lv_if_eq (tgt := 14) hx hb dX7_copy_4 (by decide) (fun _ => ?_) (fun c9 => absurd (by decide) c9)
    refine lv_ldc (v := (-1000001)) hx hb hown (hts _ mX7_copy_4) dX7_copy_14 ?_
    have hP9 := hP
    have hD9 := hD
    exact q_wiret (v := (-1000001)) hx hb hr hlocks dX7_copy_16 hP9 hD9 hS (⟨_, _, _, _, _, _, _, _, by simp only [oCopy, if_neg b2], hrm, rfl⟩)
theorem nX7_drop_0 : ∀ w ∈ wsX70, w ∈ wsX7_drop := by decide +kernel
theorem mX7_drop_1 : Cond.fieldLink RX7 7 "ClueLeaveModel" "lane" "[I" ∈ wsX7_drop := by decide +kernel
theorem mX7_drop_2 : Cond.constant RX7 50 (-1000000) ∈ wsX7_drop := by decide +kernel
theorem mX7_drop_3 : Cond.fieldLink RX7 13 "ClueLeaveModel" "many" "[I" ∈ wsX7_drop := by decide +kernel
theorem mX7_drop_4 : Cond.constant RX7 64 (-1000001) ∈ wsX7_drop := by decide +kernel
set_option maxHeartbeats 4000000 in
set_option maxRecDepth 100000 in
theorem c_X7_drop (l : Launch) (D : va_G) (cy : Nat → ClassId) (m0 ml mm mit ms mt nw dr tr pa ig kx be tc : Nat) (st fk fp av sv ov vv : Int32) (tn ac td : Nat) (fl fz fi : Nat → Int32) (ln sz : Nat → Nat) (itS : Nat → Nat → Int32) (hrm : rmI ln sz itS fl fz fi) (x : Int32) : q_Wi l yX7_drop wsX7_drop 3 D cy [(m0, .inr (7, [.ref ml, .ref mm, .ref mit, .ref ms, .int (st), .ref mt, .int (nI tn), .int (fk), .int (fp), .int (av), .int (sv), .int (ov), .int (vv), .ref nw, .ref dr, .ref tr, .ref pa, .int (nI ac), .ref ig, .ref kx, .ref be, .ref tc, .int (nI td)])), (ml, .inl (cy 0, 8, .inl fl)), (mm, .inl (cy 0, 8, .inl fz)), (mit, .inl (cy 0, 320, .inl fi))] [.ref m0, .int (x)] (fun r u => ∃ (st2 : Int32) (ln2 sz2 : Nat → Nat) (itS2 : Nat → Nat → Int32) (fl2 fz2 fi2 : Nat → Int32), oDrop ln sz itS st x = (r, st2, ln2, sz2, itS2) ∧ rmI ln2 sz2 itS2 fl2 fz2 fi2 ∧ u = [(m0, .inr (7, [.ref ml, .ref mm, .ref mit, .ref ms, .int (st2), .ref mt, .int (nI tn), .int (fk), .int (fp), .int (av), .int (sv), .int (ov), .int (vv), .ref nw, .ref dr, .ref tr, .ref pa, .int (nI ac), .ref ig, .ref kx, .ref be, .ref tc, .int (nI td)])), (ml, .inl (cy 0, 8, .inl fl2)), (mm, .inl (cy 0, 8, .inl fz2)), (mit, .inl (cy 0, 320, .inl fi2))]) := by
  refine q_wi_of (cc := cX7_drop) (maxL := 2) (ret := (some .int)) (by decide) rfl (Nat.le_of_ble_eq_true rfl) ?_
  intro pg en s mi args below meth cd A hC hA hK H locs hP hD hS ls hl
  obtain ⟨hx, hb, hr, hml, hown, hts, hlocks⟩ := hC
  have hl : lv_has ls 2 [(0, .ref m0), (1, .int (x))] := hl
  refine lv_iload_n hx hb dX7_drop_0 rfl (lv_at hl 1 rfl) ?_
  refine q_rS (As := [.int (x)]) (rest := []) ⟨hx, hb, hml, hown, hts⟩ (c_X7_isRow l D cy x) (va_cwS 1 hts gX7_drop_X7_isRow rfl rfl rfl (by decide +kernel) ⟨Nat.le_of_ble_eq_true rfl, Nat.le_of_ble_eq_true rfl⟩) hP hK [] rfl rfl hl.1 rfl (Nat.le_of_ble_eq_true rfl) dX7_drop_1 ⟨Nat.zero_le _, Nat.zero_le _⟩ (fun r1 hr1 => ?_)
  rcases hr1 with ⟨rfl, b2⟩ | ⟨rfl, b2⟩
  · have _ := b2
    refine lv_if_ne (tgt := 10) hx hb dX7_drop_4 (by decide) (fun _ => ?_) (fun c9 => absurd c9 (by decide))
    obtain ⟨k, -, hx_k, rfl⟩ := q_rng b2 (by decide) (by decide)
    obtain ⟨-, -, hz40, hl3⟩ := hrm.1 k (by omega)
    refine lv_aload_n hx hb dX7_drop_10 rfl (lv_at hl 0 rfl) ?_
    refine lv_iload_n hx hb dX7_drop_11 rfl (lv_at hl 1 rfl) ?_
    refine q_rV (As := [.int (nI k)]) (rest := []) ⟨hx, hb, hml, hown, hts⟩ (c_X7_isMissing l D cy m0 ml mm mit ms mt nw dr tr pa ig kx be tc st fk fp av sv ov vv tn ac td fl k (ln k) (by omega) (rmI_3 hrm (by omega)) (rmI_0 hrm (by omega))) (cwV 1 hts gX7_drop_X7_isMissing rfl rfl rfl (by decide +kernel) ⟨Nat.le_of_ble_eq_true rfl, Nat.le_of_ble_eq_true rfl⟩) hP hK [0, 1] rfl 0 rfl rfl rfl rfl hl.1 rfl (Nat.le_of_ble_eq_true rfl) dX7_drop_12 ⟨Nat.zero_le _, Nat.zero_le _⟩ (fun r3 hr3 => ?_)
    rcases hr3 with ⟨rfl, b4⟩ | ⟨rfl, b4⟩
    · have _ := b4
      refine lv_if_eq (tgt := 24) hx hb dX7_drop_15 (by decide) (fun c9 => absurd c9 (by decide)) (fun _ => ?_)
      refine lv_aload_n hx hb dX7_drop_18 rfl (lv_at hl 0 rfl) ?_
      refine lv_iconst (v := nI 1) hx hb dX7_drop_19 (by decide) ?_
      refine q_wiV (As := [.int (nI 1)]) (rest := []) (wr := [(ml, .inl (cy 0, 8, .inl fl)), (mm, .inl (cy 0, 8, .inl fz)), (mit, .inl (cy 0, 320, .inl fi))]) ⟨hx, hb, hml, hown, hts⟩ (c_X7_found l D cy m0 ml mm mit ms mt nw dr tr pa ig kx be tc st fk fp av sv ov vv tn ac td (nI 1)) (cwV 1 hts gX7_drop_X7_found rfl rfl rfl (by decide +kernel) ⟨Nat.le_of_ble_eq_true rfl, Nat.le_of_ble_eq_true rfl⟩) hP hD hS hA hK [0] [1, 2, 3] rfl rfl (by decide) rfl (by decide) (by decide) 0 rfl rfl rfl rfl hl.1 rfl (Nat.le_of_ble_eq_true rfl) dX7_drop_20 ⟨Nat.zero_le _, Nat.zero_le _⟩ (fun r5 u6 H locs hr5 hP hD hS => ?_)
      obtain ⟨rfl, rfl⟩ := hr5
      have hP : va_P D vwCl [(ml, .inl (cy 0, 8, .inl fl)), (mm, .inl (cy 0, 8, .inl fz)), (mit, .inl (cy 0, 320, .inl fi)), (m0, .inr (7, [.ref ml, .ref mm, .ref mit, .ref ms, .int (nI 1), .ref mt, .int (nI tn), .int (fk), .int (fp), .int (av), .int (sv), .int (ov), .int (vv), .ref nw, .ref dr, .ref tr, .ref pa, .int (nI ac), .ref ig, .ref kx, .ref be, .ref tc, .int (nI td)]))] H := hP
      have hD : va_D A [(ml, .inl (cy 0, 8, .inl fl)), (mm, .inl (cy 0, 8, .inl fz)), (mit, .inl (cy 0, 320, .inl fi)), (m0, .inr (7, [.ref ml, .ref mm, .ref mit, .ref ms, .int (nI 1), .ref mt, .int (nI tn), .int (fk), .int (fp), .int (av), .int (sv), .int (ov), .int (vv), .ref nw, .ref dr, .ref tr, .ref pa, .int (nI ac), .ref ig, .ref kx, .ref be, .ref tc, .int (nI td)]))] := hD
      refine q_top (y := (-1000011)) (by decide) ?_
      have hP9 := hP.sub (ws' := [(m0, .inr (7, [.ref ml, .ref mm, .ref mit, .ref ms, .int (nI 1), .ref mt, .int (nI tn), .int (fk), .int (fp), .int (av), .int (sv), .int (ov), .int (vv), .ref nw, .ref dr, .ref tr, .ref pa, .int (nI ac), .ref ig, .ref kx, .ref be, .ref tc, .int (nI td)])), (ml, .inl (cy 0, 8, .inl fl)), (mm, .inl (cy 0, 8, .inl fz)), (mit, .inl (cy 0, 320, .inl fi))]) [3, 0, 1, 2] rfl
      have hD9 := hD.sub (ws' := [(m0, .inr (7, [.ref ml, .ref mm, .ref mit, .ref ms, .int (nI 1), .ref mt, .int (nI tn), .int (fk), .int (fp), .int (av), .int (sv), .int (ov), .int (vv), .ref nw, .ref dr, .ref tr, .ref pa, .int (nI ac), .ref ig, .ref kx, .ref be, .ref tc, .int (nI td)])), (ml, .inl (cy 0, 8, .inl fl)), (mm, .inl (cy 0, 8, .inl fz)), (mit, .inl (cy 0, 320, .inl fi))]) [3, 0, 1, 2] (by decide) rfl
      exact q_wiret (v := (-1000011)) hx hb hr hlocks dX7_drop_23 hP9 hD9 hS (⟨_, _, _, _, _, _, _, by simp only [oDrop, q_cl (by omega : k < 2147483648), if_pos b2, if_pos b4], hrm, rfl⟩)
    · have _ := b4
      refine lv_if_eq (tgt := 24) hx hb dX7_drop_15 (by decide) (fun _ => ?_) (fun c9 => absurd (by decide) c9)
      refine lv_aload_n hx hb dX7_drop_24 rfl (lv_at hl 0 rfl) ?_
      refine va_get (D := D) (ci := 7) (v := .ref ml) (C := RX7) (T := TX7) (N := 23) hx hb hts nX7_drop_0 hown hK.1 hP 0 rfl rfl 0 (by decide) (hts _ mX7_drop_1) (fun _ h9 => h9) rfl dX7_drop_25 ?_
      refine lv_iload_n hx hb dX7_drop_28 rfl (lv_at hl 1 rfl) ?_
      refine lv_ldc (v := (-1000000)) hx hb hown (hts _ mX7_drop_2) dX7_drop_29 ?_
      refine q_iast (j := k) hx hb hK hP hD hS 1 rfl (by omega) (by decide) dX7_drop_31 (fun H locs hP hD hS => ?_)
      have hP : va_P D vwCl [(m0, .inr (7, [.ref ml, .ref mm, .ref mit, .ref ms, .int (st), .ref mt, .int (nI tn), .int (fk), .int (fp), .int (av), .int (sv), .int (ov), .int (vv), .ref nw, .ref dr, .ref tr, .ref pa, .int (nI ac), .ref ig, .ref kx, .ref be, .ref tc, .int (nI td)])), (ml, .inl (cy 0, 8, .inl (upd fl k (-1000000)))), (mm, .inl (cy 0, 8, .inl fz)), (mit, .inl (cy 0, 320, .inl fi))] H := hP
      have hD : va_D A [(m0, .inr (7, [.ref ml, .ref mm, .ref mit, .ref ms, .int (st), .ref mt, .int (nI tn), .int (fk), .int (fp), .int (av), .int (sv), .int (ov), .int (vv), .ref nw, .ref dr, .ref tr, .ref pa, .int (nI ac), .ref ig, .ref kx, .ref be, .ref tc, .int (nI td)])), (ml, .inl (cy 0, 8, .inl (upd fl k (-1000000)))), (mm, .inl (cy 0, 8, .inl fz)), (mit, .inl (cy 0, 320, .inl fi))] := hD
      refine lv_aload_n hx hb dX7_drop_32 rfl (lv_at hl 0 rfl) ?_
      refine lv_aload_n hx hb dX7_drop_33 rfl (lv_at hl 0 rfl) ?_
      refine va_get (D := D) (ci := 7) (v := .ref mm) (C := RX7) (T := TX7) (N := 23) hx hb hts nX7_drop_0 hown hK.1 hP 0 rfl rfl 1 (by decide) (hts _ mX7_drop_3) (fun _ h9 => h9) rfl dX7_drop_34 ?_
      refine lv_iload_n hx hb dX7_drop_37 rfl (lv_at hl 1 rfl) ?_
      refine q_iald (j := k) (v := nI (sz k)) hx hb hK hP 2 rfl (by omega) (by decide) (rmI_1 hrm (by omega)) dX7_drop_38 ?_
      refine q_wiV (As := [.int (nI (sz k))]) (rest := []) (wr := [(ml, .inl (cy 0, 8, .inl (upd fl k (-1000000)))), (mm, .inl (cy 0, 8, .inl fz)), (mit, .inl (cy 0, 320, .inl fi))]) ⟨hx, hb, hml, hown, hts⟩ (c_X7_well l D cy m0 ml mm mit ms mt nw dr tr pa ig kx be tc st fk fp av sv ov vv tn ac td (nI (sz k))) (cwV 1 hts gX7_drop_X7_well rfl rfl rfl (by decide +kernel) ⟨Nat.le_of_ble_eq_true rfl, Nat.le_of_ble_eq_true rfl⟩) hP hD hS hA hK [0] [1, 2, 3] rfl rfl (by decide) rfl (by decide) (by decide) 0 rfl rfl rfl rfl hl.1 rfl (Nat.le_of_ble_eq_true rfl) dX7_drop_39 ⟨Nat.zero_le _, Nat.zero_le _⟩ (fun r7 u8 H locs hr7 hP hD hS => ?_)
      obtain ⟨rfl, rfl⟩ := hr7
      have hP : va_P D vwCl [(ml, .inl (cy 0, 8, .inl (upd fl k (-1000000)))), (mm, .inl (cy 0, 8, .inl fz)), (mit, .inl (cy 0, 320, .inl fi)), (m0, .inr (7, [.ref ml, .ref mm, .ref mit, .ref ms, .int (nI 0), .ref mt, .int (nI tn), .int (fk), .int (fp), .int (av), .int (sv), .int (ov), .int (vv), .ref nw, .ref dr, .ref tr, .ref pa, .int (nI ac), .ref ig, .ref kx, .ref be, .ref tc, .int (nI td)]))] H := hP
      have hD : va_D A [(ml, .inl (cy 0, 8, .inl (upd fl k (-1000000)))), (mm, .inl (cy 0, 8, .inl fz)), (mit, .inl (cy 0, 320, .inl fi)), (m0, .inr (7, [.ref ml, .ref mm, .ref mit, .ref ms, .int (nI 0), .ref mt, .int (nI tn), .int (fk), .int (fp), .int (av), .int (sv), .int (ov), .int (vv), .ref nw, .ref dr, .ref tr, .ref pa, .int (nI ac), .ref ig, .ref kx, .ref be, .ref tc, .int (nI td)]))] := hD
      have hP9 := hP.sub (ws' := [(m0, .inr (7, [.ref ml, .ref mm, .ref mit, .ref ms, .int (nI 0), .ref mt, .int (nI tn), .int (fk), .int (fp), .int (av), .int (sv), .int (ov), .int (vv), .ref nw, .ref dr, .ref tr, .ref pa, .int (nI ac), .ref ig, .ref kx, .ref be, .ref tc, .int (nI td)])), (ml, .inl (cy 0, 8, .inl (upd fl k (-1000000)))), (mm, .inl (cy 0, 8, .inl fz)), (mit, .inl (cy 0, 320, .inl fi))]) [3, 0, 1, 2] rfl
      have hD9 := hD.sub (ws' := [(m0, .inr (7, [.ref ml, .ref mm, .ref mit, .ref ms, .int (nI 0), .ref mt, .int (nI tn), .int (fk), .int (fp), .int (av), .int (sv), .int (ov), .int (vv), .ref nw, .ref dr, .ref tr, .ref pa, .int (nI ac), .ref ig, .ref kx, .ref be, .ref tc, .int (nI td)])), (ml, .inl (cy 0, 8, .inl (upd fl k (-1000000)))), (mm, .inl (cy 0, 8, .inl fz)), (mit, .inl (cy 0, 320, .inl fi))]) [3, 0, 1, 2] (by decide) rfl
      exact q_wiret (v := nI (sz k)) hx hb hr hlocks dX7_drop_42 hP9 hD9 hS (⟨_, _, _, _, _, _, _, by simp only [oDrop, q_cl (by omega : k < 2147483648), if_pos b2, if_neg b4], rmI_drop hrm (by omega), rfl⟩)
  · have _ := b2
    refine lv_if_ne (tgt := 10) hx hb dX7_drop_4 (by decide) (fun c9 => absurd (by decide) c9) (fun _ => ?_)
    refine lv_ldc (v := (-1000001)) hx hb hown (hts _ mX7_drop_4) dX7_drop_7 ?_
    have hP9 := hP
    have hD9 := hD
    exact q_wiret (v := (-1000001)) hx hb hr hlocks dX7_drop_9 hP9 hD9 hS (⟨_, _, _, _, _, _, _, by simp only [oDrop, if_neg b2], hrm, rfl⟩)
theorem nX7_feed_0 : ∀ w ∈ wsX70, w ∈ wsX7_feed := by decide +kernel
theorem mX7_feed_1 : Cond.fieldLink RX7 82 "ClueLeaveModel" "taped" "I" ∈ wsX7_feed := by decide +kernel
theorem mX7_feed_2 : Cond.fieldLink RX7 22 "ClueLeaveModel" "tape" "[I" ∈ wsX7_feed := by decide +kernel
theorem mX7_feed_3 : Cond.constant RX7 85 (-1000003) ∈ wsX7_feed := by decide +kernel
theorem mX7_feed_4 : Cond.constant RX7 64 (-1000001) ∈ wsX7_feed := by decide +kernel
set_option maxHeartbeats 4000000 in
set_option maxRecDepth 100000 in
theorem c_X7_feed (l : Launch) (D : va_G) (cy : Nat → ClassId) (m0 ml mm mit ms mt nw dr tr pa ig kx be tc : Nat) (st fk fp av sv ov vv : Int32) (tn ac td : Nat) (ft : Nat → Int32) (tp : Nat → Nat) (htn : tn ≤ 100) (htp : tpIs tn tp ft) (x : Int32) : q_Wi l yX7_feed wsX7_feed 2 D cy [(m0, .inr (7, [.ref ml, .ref mm, .ref mit, .ref ms, .int (st), .ref mt, .int (nI tn), .int (fk), .int (fp), .int (av), .int (sv), .int (ov), .int (vv), .ref nw, .ref dr, .ref tr, .ref pa, .int (nI ac), .ref ig, .ref kx, .ref be, .ref tc, .int (nI td)])), (mt, .inl (cy 0, 100, .inl ft))] [.ref m0, .int (x)] (fun r u => ∃ (n2 : Nat) (tp2 : Nat → Nat) (ft2 : Nat → Int32), oFeed tn tp x = (r, n2, tp2) ∧ n2 ≤ 100 ∧ tpIs n2 tp2 ft2 ∧ u = [(m0, .inr (7, [.ref ml, .ref mm, .ref mit, .ref ms, .int (st), .ref mt, .int (nI n2), .int (fk), .int (fp), .int (av), .int (sv), .int (ov), .int (vv), .ref nw, .ref dr, .ref tr, .ref pa, .int (nI ac), .ref ig, .ref kx, .ref be, .ref tc, .int (nI td)])), (mt, .inl (cy 0, 100, .inl ft2))]) := by
  refine q_wi_of (cc := cX7_feed) (maxL := 2) (ret := (some .int)) (by decide) rfl (Nat.le_of_ble_eq_true rfl) ?_
  intro pg en s mi args below meth cd A hC hA hK H locs hP hD hS ls hl
  obtain ⟨hx, hb, hr, hml, hown, hts, hlocks⟩ := hC
  have hl : lv_has ls 2 [(0, .ref m0), (1, .int (x))] := hl
  refine lv_iload_n hx hb dX7_feed_0 rfl (lv_at hl 1 rfl) ?_
  refine lv_iconst (v := nI 0) hx hb dX7_feed_1 (by decide) ?_
  refine lv_sipush (v := nI 255) hx hb dX7_feed_2 (by decide) ?_
  refine q_rS (As := [.int (x), .int (nI 0), .int (nI 255)]) (rest := []) ⟨hx, hb, hml, hown, hts⟩ (c_X7_in l D cy x (nI 0) (nI 255)) (va_cwS 3 hts gX7_feed_X7_in rfl rfl rfl (by decide +kernel) ⟨Nat.le_of_ble_eq_true rfl, Nat.le_of_ble_eq_true rfl⟩) hP hK [] rfl rfl hl.1 rfl (Nat.le_of_ble_eq_true rfl) dX7_feed_5 ⟨Nat.zero_le _, Nat.zero_le _⟩ (fun r1 hr1 => ?_)
  rcases hr1 with ⟨rfl, b2⟩ | ⟨rfl, b2⟩
  · have _ := b2
    refine lv_if_ne (tgt := 14) hx hb dX7_feed_8 (by decide) (fun _ => ?_) (fun c9 => absurd c9 (by decide))
    obtain ⟨k, -, hx_k, rfl⟩ := q_rng b2 (by decide) (by decide)
    refine lv_aload_n hx hb dX7_feed_14 rfl (lv_at hl 0 rfl) ?_
    refine va_get (D := D) (ci := 7) (v := .int (nI tn)) (C := RX7) (T := TX7) (N := 23) hx hb hts nX7_feed_0 hown hK.1 hP 0 rfl rfl 6 (by decide) (hts _ mX7_feed_1) (fun _ h9 => h9) rfl dX7_feed_15 ?_
    refine lv_bipush (v := nI 100) hx hb dX7_feed_18 (by decide) ?_
    refine q_icmp_ne (tgt := 26) hx hb dX7_feed_20 (by decide) (by omega) (by decide) (fun c3 => ?_) (fun c3 => ?_)
    · refine lv_aload_n hx hb dX7_feed_26 rfl (lv_at hl 0 rfl) ?_
      refine va_get (D := D) (ci := 7) (v := .ref mt) (C := RX7) (T := TX7) (N := 23) hx hb hts nX7_feed_0 hown hK.1 hP 0 rfl rfl 5 (by decide) (hts _ mX7_feed_2) (fun _ h9 => h9) rfl dX7_feed_27 ?_
      refine lv_aload_n hx hb dX7_feed_30 rfl (lv_at hl 0 rfl) ?_
      refine va_get (D := D) (ci := 7) (v := .int (nI tn)) (C := RX7) (T := TX7) (N := 23) hx hb hts nX7_feed_0 hown hK.1 hP 0 rfl rfl 6 (by decide) (hts _ mX7_feed_1) (fun _ h9 => h9) rfl dX7_feed_31 ?_
      refine lv_iload_n hx hb dX7_feed_34 rfl (lv_at hl 1 rfl) ?_
      refine q_iast (j := tn) hx hb hK hP hD hS 1 rfl (by omega) (by decide) dX7_feed_35 (fun H locs hP hD hS => ?_)
      have hP : va_P D vwCl [(m0, .inr (7, [.ref ml, .ref mm, .ref mit, .ref ms, .int (st), .ref mt, .int (nI tn), .int (fk), .int (fp), .int (av), .int (sv), .int (ov), .int (vv), .ref nw, .ref dr, .ref tr, .ref pa, .int (nI ac), .ref ig, .ref kx, .ref be, .ref tc, .int (nI td)])), (mt, .inl (cy 0, 100, .inl (upd ft tn (nI k))))] H := hP
      have hD : va_D A [(m0, .inr (7, [.ref ml, .ref mm, .ref mit, .ref ms, .int (st), .ref mt, .int (nI tn), .int (fk), .int (fp), .int (av), .int (sv), .int (ov), .int (vv), .ref nw, .ref dr, .ref tr, .ref pa, .int (nI ac), .ref ig, .ref kx, .ref be, .ref tc, .int (nI td)])), (mt, .inl (cy 0, 100, .inl (upd ft tn (nI k))))] := hD
      refine lv_aload_n hx hb dX7_feed_36 rfl (lv_at hl 0 rfl) ?_
      refine lv_dup hx hb dX7_feed_37 rfl ?_
      refine va_get (D := D) (ci := 7) (v := .int (nI tn)) (C := RX7) (T := TX7) (N := 23) hx hb hts nX7_feed_0 hown hK.1 hP 0 rfl rfl 6 (by decide) (hts _ mX7_feed_1) (fun _ h9 => h9) rfl dX7_feed_38 ?_
      refine lv_iconst (v := nI 1) hx hb dX7_feed_41 (by decide) ?_
      refine lv_iadd hx hb dX7_feed_42 ?_
      refine q_top (y := nI (tn + 1)) (nI_add _ _) ?_
      refine va_put (D := D) (ci := 7) (v := .int (nI (tn + 1))) (ty := .int) (C := RX7) (T := TX7) (N := 23) hx hb hts nX7_feed_0 tyX7 tyX7_ok nmX7 hown hK.1 hP hD hS 0 rfl rfl 6 (by decide) (hts _ mX7_feed_1) (fun _ h9 => h9) rfl (by decide +kernel) rfl rfl (Nat.le_of_ble_eq_true rfl) dX7_feed_43 (fun H locs hP hD hS => ?_)
      have hP : va_P D vwCl [(m0, .inr (7, [.ref ml, .ref mm, .ref mit, .ref ms, .int (st), .ref mt, .int (nI (tn + 1)), .int (fk), .int (fp), .int (av), .int (sv), .int (ov), .int (vv), .ref nw, .ref dr, .ref tr, .ref pa, .int (nI ac), .ref ig, .ref kx, .ref be, .ref tc, .int (nI td)])), (mt, .inl (cy 0, 100, .inl (upd ft tn (nI k))))] H := hP
      have hD : va_D A [(m0, .inr (7, [.ref ml, .ref mm, .ref mit, .ref ms, .int (st), .ref mt, .int (nI (tn + 1)), .int (fk), .int (fp), .int (av), .int (sv), .int (ov), .int (vv), .ref nw, .ref dr, .ref tr, .ref pa, .int (nI ac), .ref ig, .ref kx, .ref be, .ref tc, .int (nI td)])), (mt, .inl (cy 0, 100, .inl (upd ft tn (nI k))))] := hD
      refine lv_aload_n hx hb dX7_feed_46 rfl (lv_at hl 0 rfl) ?_
      refine va_get (D := D) (ci := 7) (v := .int (nI (tn + 1))) (C := RX7) (T := TX7) (N := 23) hx hb hts nX7_feed_0 hown hK.1 hP 0 rfl rfl 6 (by decide) (hts _ mX7_feed_1) (fun _ h9 => h9) rfl dX7_feed_47 ?_
      have hP9 := hP
      have hD9 := hD
      exact q_wiret (v := nI (tn + 1)) hx hb hr hlocks dX7_feed_50 hP9 hD9 hS (⟨_, _, _, by simp only [oFeed, q_cl (by omega : k < 2147483648), if_pos b2, if_neg (by omega : ¬ 100 ≤ tn)], by omega, tpIs_f htp hx_k, rfl⟩)
    · refine lv_ldc (v := (-1000003)) hx hb hown (hts _ mX7_feed_3) dX7_feed_23 ?_
      have hP9 := hP
      have hD9 := hD
      exact q_wiret (v := (-1000003)) hx hb hr hlocks dX7_feed_25 hP9 hD9 hS (⟨_, _, _, by simp only [oFeed, if_pos b2, if_pos (by omega : 100 ≤ tn)], htn, htp, rfl⟩)
  · have _ := b2
    refine lv_if_ne (tgt := 14) hx hb dX7_feed_8 (by decide) (fun c9 => absurd (by decide) c9) (fun _ => ?_)
    refine lv_ldc (v := (-1000001)) hx hb hown (hts _ mX7_feed_4) dX7_feed_11 ?_
    have hP9 := hP
    have hD9 := hD
    exact q_wiret (v := (-1000001)) hx hb hr hlocks dX7_feed_13 hP9 hD9 hS (⟨_, _, _, by simp only [oFeed, if_neg b2], htn, htp, rfl⟩)
theorem nX7_status_0 : ∀ w ∈ wsX70, w ∈ wsX7_status := by decide +kernel
theorem mX7_status_1 : Cond.fieldLink RX7 51 "ClueLeaveModel" "status" "I" ∈ wsX7_status := by decide +kernel
set_option maxHeartbeats 4000000 in
set_option maxRecDepth 100000 in
theorem c_X7_status (l : Launch) (D : va_G) (cy : Nat → ClassId) (m0 ml mm mit ms mt nw dr tr pa ig kx be tc : Nat) (st fk fp av sv ov vv : Int32) (tn ac td : Nat) : q_Rd l yX7_status wsX7_status 1 D cy [(m0, .inr (7, [.ref ml, .ref mm, .ref mit, .ref ms, .int (st), .ref mt, .int (nI tn), .int (fk), .int (fp), .int (av), .int (sv), .int (ov), .int (vv), .ref nw, .ref dr, .ref tr, .ref pa, .int (nI ac), .ref ig, .ref kx, .ref be, .ref tc, .int (nI td)]))] [.ref m0] (fun r => r = st) := by
  refine q_rd_of (cc := cX7_status) (maxL := 1) (ret := (some .int)) (by decide) rfl (Nat.le_of_ble_eq_true rfl) ?_
  intro pg en s mi args below meth cd hC hP hK ls hl
  obtain ⟨hx, hb, hr, hml, hown, hts, hlocks⟩ := hC
  have hl : lv_has ls 1 [(0, .ref m0)] := hl
  refine lv_aload_n hx hb dX7_status_0 rfl (lv_at hl 0 rfl) ?_
  refine va_get (D := D) (ci := 7) (v := .int (st)) (C := RX7) (T := TX7) (N := 23) hx hb hts nX7_status_0 hown hK.1 hP 0 rfl rfl 4 (by decide) (hts _ mX7_status_1) (fun _ h9 => h9) rfl dX7_status_1 ?_
  exact q_iret (v := st) hx hb hr hlocks dX7_status_4 (rfl)
theorem nX7_fault_0 : ∀ w ∈ wsX70, w ∈ wsX7_fault := by decide +kernel
theorem mX7_fault_1 : Cond.fieldLink RX7 108 "ClueLeaveModel" "faultKind" "I" ∈ wsX7_fault := by decide +kernel
set_option maxHeartbeats 4000000 in
set_option maxRecDepth 100000 in
theorem c_X7_fault (l : Launch) (D : va_G) (cy : Nat → ClassId) (m0 ml mm mit ms mt nw dr tr pa ig kx be tc : Nat) (st fk fp av sv ov vv : Int32) (tn ac td : Nat) : q_Rd l yX7_fault wsX7_fault 1 D cy [(m0, .inr (7, [.ref ml, .ref mm, .ref mit, .ref ms, .int (st), .ref mt, .int (nI tn), .int (fk), .int (fp), .int (av), .int (sv), .int (ov), .int (vv), .ref nw, .ref dr, .ref tr, .ref pa, .int (nI ac), .ref ig, .ref kx, .ref be, .ref tc, .int (nI td)]))] [.ref m0] (fun r => r = fk) := by
  refine q_rd_of (cc := cX7_fault) (maxL := 1) (ret := (some .int)) (by decide) rfl (Nat.le_of_ble_eq_true rfl) ?_
  intro pg en s mi args below meth cd hC hP hK ls hl
  obtain ⟨hx, hb, hr, hml, hown, hts, hlocks⟩ := hC
  have hl : lv_has ls 1 [(0, .ref m0)] := hl
  refine lv_aload_n hx hb dX7_fault_0 rfl (lv_at hl 0 rfl) ?_
  refine va_get (D := D) (ci := 7) (v := .int (fk)) (C := RX7) (T := TX7) (N := 23) hx hb hts nX7_fault_0 hown hK.1 hP 0 rfl rfl 7 (by decide) (hts _ mX7_fault_1) (fun _ h9 => h9) rfl dX7_fault_1 ?_
  exact q_iret (v := fk) hx hb hr hlocks dX7_fault_4 (rfl)
theorem nX7_trace_0 : ∀ w ∈ wsX70, w ∈ wsX7_trace := by decide +kernel
theorem mX7_trace_1 : Cond.fieldLink RX7 205 "ClueLeaveModel" "traced" "I" ∈ wsX7_trace := by decide +kernel
theorem mX7_trace_2 : Cond.fieldLink RX7 47 "ClueLeaveModel" "trace" "[I" ∈ wsX7_trace := by decide +kernel
theorem mX7_trace_3 : Cond.constant RX7 50 (-1000000) ∈ wsX7_trace := by decide +kernel
set_option maxHeartbeats 4000000 in
set_option maxRecDepth 100000 in
theorem c_X7_trace (l : Launch) (D : va_G) (cy : Nat → ClassId) (m0 ml mm mit ms mt nw dr tr pa ig kx be tc : Nat) (st fk fp av sv ov vv : Int32) (tn ac td : Nat) (tf : Nat → Int32) (htd : td ≤ 16) (x : Int32) : q_Rd l yX7_trace wsX7_trace 2 D cy [(m0, .inr (7, [.ref ml, .ref mm, .ref mit, .ref ms, .int (st), .ref mt, .int (nI tn), .int (fk), .int (fp), .int (av), .int (sv), .int (ov), .int (vv), .ref nw, .ref dr, .ref tr, .ref pa, .int (nI ac), .ref ig, .ref kx, .ref be, .ref tc, .int (nI td)])), (tc, .inl (cy 0, 16, .inl tf))] [.ref m0, .int (x)] (fun r => r = trA tf td x) := by
  refine q_rd_of (cc := cX7_trace) (maxL := 2) (ret := (some .int)) (by decide) rfl (Nat.le_of_ble_eq_true rfl) ?_
  intro pg en s mi args below meth cd hC hP hK ls hl
  obtain ⟨hx, hb, hr, hml, hown, hts, hlocks⟩ := hC
  have hl : lv_has ls 2 [(0, .ref m0), (1, .int (x))] := hl
  refine lv_iload_n hx hb dX7_trace_0 rfl (lv_at hl 1 rfl) ?_
  refine lv_iconst (v := nI 0) hx hb dX7_trace_1 (by decide) ?_
  refine lv_aload_n hx hb dX7_trace_2 rfl (lv_at hl 0 rfl) ?_
  refine va_get (D := D) (ci := 7) (v := .int (nI td)) (C := RX7) (T := TX7) (N := 23) hx hb hts nX7_trace_0 hown hK.1 hP 0 rfl rfl 22 (by decide) (hts _ mX7_trace_1) (fun _ h9 => h9) rfl dX7_trace_3 ?_
  refine lv_iconst (v := nI 1) hx hb dX7_trace_6 (by decide) ?_
  refine lv_isub hx hb dX7_trace_7 ?_
  refine q_rS (As := [.int (x), .int (nI 0), .int ((nI td) - (nI 1))]) (rest := []) ⟨hx, hb, hml, hown, hts⟩ (c_X7_in l D cy x (nI 0) ((nI td) - (nI 1))) (va_cwS 3 hts gX7_trace_X7_in rfl rfl rfl (by decide +kernel) ⟨Nat.le_of_ble_eq_true rfl, Nat.le_of_ble_eq_true rfl⟩) hP hK [] rfl rfl hl.1 rfl (Nat.le_of_ble_eq_true rfl) dX7_trace_8 ⟨Nat.zero_le _, Nat.zero_le _⟩ (fun r1 hr1 => ?_)
  rcases hr1 with ⟨rfl, b2⟩ | ⟨rfl, b2⟩
  · have _ := b2
    refine lv_if_eq (tgt := 23) hx hb dX7_trace_11 (by decide) (fun c9 => absurd c9 (by decide)) (fun _ => ?_)
    obtain ⟨k, hk, rfl⟩ := trM_1 (by omega) b2
    refine lv_aload_n hx hb dX7_trace_14 rfl (lv_at hl 0 rfl) ?_
    refine va_get (D := D) (ci := 7) (v := .ref tc) (C := RX7) (T := TX7) (N := 23) hx hb hts nX7_trace_0 hown hK.1 hP 0 rfl rfl 21 (by decide) (hts _ mX7_trace_2) (fun _ h9 => h9) rfl dX7_trace_15 ?_
    refine lv_iload_n hx hb dX7_trace_18 rfl (lv_at hl 1 rfl) ?_
    refine q_iald (j := k) (v := tf k) hx hb hK hP 1 rfl (by omega) (by decide) (rfl) dX7_trace_19 ?_
    refine lv_goto (tgt := 25) hx hb dX7_trace_20 (by decide) ?_
    exact q_iret (v := tf k) hx hb hr hlocks dX7_trace_25 ((trM_y hk (by omega)).symm)
  · have _ := b2
    refine lv_if_eq (tgt := 23) hx hb dX7_trace_11 (by decide) (fun _ => ?_) (fun c9 => absurd (by decide) c9)
    refine lv_ldc (v := (-1000000)) hx hb hown (hts _ mX7_trace_3) dX7_trace_23 ?_
    exact q_iret (v := (-1000000)) hx hb hr hlocks dX7_trace_25 ((trM_n (by omega) b2).symm)

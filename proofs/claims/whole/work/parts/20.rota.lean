/-! rotas: a city with other days off -/
def ctOff (w o : Nat → Nat) : Nat → Nat := fun j => if j < 5 then w j else if (j - 5) % 4 = 3 then o ((j - 5) / 4) else w j
def ctI3 (w : Nat → Nat) (fk ft fe : Nat → Int32) : Prop := ∀ c, c < w 4 → fk c = nI (ctK w c) ∧ ft c = nI (ctT w c) ∧ fe c = nI (ctE w c)
theorem ctI3_0 {w : Nat → Nat} {fk ft fe : Nat → Int32} (h : ctI3 w fk ft fe) {c : Nat} (hc : c < w 4) : fk c = nI (ctK w c) := (h c hc).1
theorem ctI3_1 {w : Nat → Nat} {fk ft fe : Nat → Int32} (h : ctI3 w fk ft fe) {c : Nat} (hc : c < w 4) : ft c = nI (ctT w c) := (h c hc).2.1
theorem ctI3_2 {w : Nat → Nat} {fk ft fe : Nat → Int32} (h : ctI3 w fk ft fe) {c : Nat} (hc : c < w 4) : fe c = nI (ctE w c) := (h c hc).2.2
theorem ctOff_K (w o : Nat → Nat) (c : Nat) : ctK (ctOff w o) c = ctK w c := by
  unfold ctK ctOff
  rw [if_neg (by omega), if_neg (by omega)]
theorem ctOff_T (w o : Nat → Nat) (c : Nat) : ctT (ctOff w o) c = ctT w c := by
  unfold ctT ctOff
  rw [if_neg (by omega), if_neg (by omega)]
theorem ctOff_E (w o : Nat → Nat) (c : Nat) : ctE (ctOff w o) c = ctE w c := by
  unfold ctE ctOff
  rw [if_neg (by omega), if_neg (by omega)]
theorem ctOff_O (w o : Nat → Nat) (c : Nat) : ctO (ctOff w o) c = o c := by
  unfold ctO ctOff
  rw [if_neg (by omega), if_pos (by omega), show (8 + 4 * c - 5) / 4 = c by omega]
theorem ctIs_off {w o : Nat → Nat} {fk ft fe fo : Nat → Int32} (h : ctI3 w fk ft fe) (ho : ∀ c, c < w 4 → fo c = nI (o c)) : ctIs (ctOff w o) fk ft fe fo := fun c hc => by
  have hc : c < w 4 := hc
  rw [ctOff_K, ctOff_T, ctOff_E, ctOff_O]
  exact ⟨(h c hc).1, (h c hc).2.1, (h c hc).2.2, ho c hc⟩
theorem ctOk_off {w o : Nat → Nat} (h : ctOk w) (ho : ∀ c, c < w 4 → o c < ctE w c) : ctOk (ctOff w o) := by
  obtain ⟨h0, h1, h2, h3, h4, hc⟩ := h
  refine ⟨h0, h1, h2, h3, h4, fun c hc2 => ?_⟩
  have hc2 : c < w 4 := hc2
  rw [ctOff_K, ctOff_T, ctOff_E, ctOff_O]
  obtain ⟨a1, a2, a3, a4, a5, a6, -⟩ := hc c hc2
  exact ⟨a1, a2, a3, a4, a5, a6, ho c hc2⟩
/-- the days (bits) of the first n on which clue c is off -/
def awN (w : Nat → Nat) (c : Nat) : Nat → Nat
  | 0 => 0
  | d + 1 => if ctWk w c (w 2 + d) then awN w c d else awN w c d ||| 1 * 2 ^ d
theorem q_pw14 (n : Nat) (h : n < 14) : 1 ≤ 2 ^ n ∧ 2 ^ n ≤ 8192 := by
  have : ∀ n, n < 14 → 1 ≤ 2 ^ n ∧ 2 ^ n ≤ 8192 := by decide
  exact this n h
/-- the next days off: of the first m clues, the last first; and which clue is another, the clues behind it are 0 -/
def otN (e : Nat → Nat) : Nat → (Nat → Nat) → Option ((Nat → Nat) × Nat)
  | 0, _ => none
  | m + 1, o => if o m + 1 < e m then some (fun z => if z = m then o m + 1 else o z, m) else otN e m (fun z => if z = m then 0 else o z)
theorem otN_s {e o : Nat → Nat} {m : Nat} (h : 0 < m) (h2 : o (m - 1) + 1 < e (m - 1)) : otN e m o = some (fun z => if z = m - 1 then o (m - 1) + 1 else o z, m - 1) := by
  cases m with
  | zero => omega
  | succ m =>
    rw [Nat.add_sub_cancel] at h2 ⊢
    rw [otN, if_pos h2]
theorem otN_c {e o : Nat → Nat} {M i : Nat} (h : i < M) (h3 : True = True ∨ i < M) (h2 : ¬ o (M - i - 1) + 1 < e (M - i - 1)) : otN e (M - i) o = otN e (M - (i + 1)) (fun z => if z = M - i - 1 then 0 else o z) := by
  rw [show M - i = (M - (i + 1)) + 1 by omega, otN, show M - (i + 1) + 1 - 1 = M - (i + 1) by omega]
  rw [show M - i - 1 = M - (i + 1) by omega] at h2
  rw [if_neg h2]
theorem ot_u1 {o : Nat → Nat} {fo : Nat → Int32} {M m x : Nat} (h : ∀ c, c < M → fo c = nI (o c)) : ∀ c, c < M → upd fo m (nI x) c = nI ((fun z => if z = m then x else o z) c) := fun c hc => by
  by_cases e : c = m
  · subst e; simp [pk_us]
  · rw [pk_un e]; simp [e, h c hc]
theorem ot_u2 {o : Nat → Nat} {fo : Nat → Int32} {M m x y : Nat} (h : ∀ c, c < M → fo c = nI (o c)) : ∀ c, c < M → upd (upd fo m (nI x)) m (nI y) c = nI ((fun z => if z = m then y else o z) c) := fun c hc => by
  by_cases e : c = m
  · subst e; simp [pk_us]
  · rw [pk_un e, pk_un e]; simp [e, h c hc]
theorem ot_0 {o e : Nat → Nat} {M m : Nat} (h : ∀ c, c < M → o c < e c) (he : ∀ c, c < M → 0 < e c) : ∀ c, c < M → (fun z => if z = m then 0 else o z) c < e c := fun c hc => by
  by_cases e1 : c = m
  · simp [e1]; exact he m (e1 ▸ hc)
  · simp [e1]; exact h c hc
theorem q_dn {M i : Nat} (hM : M ≤ 6) (hi : i ≤ M) (c : ¬ nI (M - i) - nI 1 < 0) : i < M := by
  rcases Nat.lt_or_ge i M with h | h
  · exact h
  · rw [show M - i = 0 by omega] at c
    exact absurd (by decide) c
theorem q_dn0 {M i : Nat} (hM : M ≤ 6) (c : nI (M - i) - nI 1 < 0) : M - i = 0 := by
  rcases Nat.eq_zero_or_pos (M - i) with h | h
  · exact h
  · rw [show nI 1 = nI 1 from rfl, pk_sub h] at c
    exact absurd c (nI_pos (by omega))
theorem q_decR (a k : Nat) : nI a + Int32.ofInt (-(k : Int)) = nI a - nI k := by
  rw [Int32.sub_eq_add_neg, Int32.ofInt_neg]; rfl
theorem nX3_daysOff_0 : ∀ w ∈ wsX20, w ∈ wsX3_daysOff := by decide +kernel
theorem mX3_daysOff_1 : Cond.fieldLink RX3 79 "ClueLeave$City" "day" "I" ∈ wsX3_daysOff := by decide +kernel
set_option maxHeartbeats 4000000 in
set_option maxRecDepth 100000 in
theorem c_X3_daysOff (l : Launch) (D : va_G) (cy : Nat → ClassId) (h kA tA eA oA : Nat) (w : Nat → Nat) (fk ft fe fo : Nat → Int32) (hw : ctIs w fk ft fe fo) (hv : ctOk w) (c n : Nat) (hc : c < w 4) (hn : n ≤ 14) : q_Rd l yX3_daysOff wsX3_daysOff 2 D cy [(h, .inr (2, [.int (nI (w 0)), .int (nI (w 1)), .int (nI (w 2)), .int (nI (w 4)), .int (nI (w 3)), .ref kA, .ref tA, .ref eA, .ref oA])), (kA, .inl (cy 0, 6, .inl fk)), (tA, .inl (cy 0, 6, .inl ft)), (eA, .inl (cy 0, 6, .inl fe)), (oA, .inl (cy 0, 6, .inl fo))] [.ref h, .int (nI c), .int (nI n)] (fun r => r = nI (awN w c n)) := by
  refine q_rd_of (cc := cX3_daysOff) (maxL := 5) (ret := (some .int)) (by decide) rfl (Nat.le_of_ble_eq_true rfl) ?_
  intro pg en s mi args below meth cd hC hP hK ls hl
  obtain ⟨hx, hb, hr, hml, hown, hts, hlocks⟩ := hC
  have hl : lv_has ls 5 [(0, .ref h), (1, .int (nI c)), (2, .int (nI n))] := hl
  obtain ⟨hv0, hv1, hv2, hv3, hv4, hvc⟩ := id hv
  refine lv_iconst (v := nI 0) hx hb dX3_daysOff_0 (by decide) ?_
  refine lv_istore_n (lv' := [(3, .int (nI 0)), (0, .ref h), (1, .int (nI c)), (2, .int (nI n))]) hx hb dX3_daysOff_1 rfl hl (by decide) rfl (fun ls hl => ?_)
  refine lv_iconst (v := nI 0) hx hb dX3_daysOff_2 (by decide) ?_
  refine lv_istore (lv' := [(4, .int (nI 0)), (3, .int (nI 0)), (0, .ref h), (1, .int (nI c)), (2, .int (nI n))]) hx hb dX3_daysOff_3 hl (by decide) rfl (fun ls hl => ?_)
  have L5_7 : ∀ (fu d : Nat), d ≤ n → n < d + fu → ∀ ls : Array Slot, lv_has ls 5 [(0, .ref h), (1, .int (nI c)), (2, .int (nI n)), (3, .int (nI (awN w c d))), (4, .int (nI d))] → W pg l en (q_rm 2) s mi args below meth cd s.heap [] 0 0 (MQ below (vp_Si (fun r => r = nI (awN w c n))) args s 0 0 (fun _ => False)) (F0 mi 5 ls []) := by
    intro fu
    induction fu with
    | zero =>
      intro d h1 h2
      exact absurd h2 (by omega)
    | succ fu ih5 =>
      intro d h1_5 h2_5 ls hl
      refine lv_iload hx hb dX3_daysOff_5 (lv_at hl 4 rfl) ?_
      refine lv_iload_n hx hb dX3_daysOff_7 rfl (lv_at hl 2 rfl) ?_
      refine q_icmp_ge (tgt := 39) hx hb dX3_daysOff_8 (by decide) (by omega) (by omega) (fun c1 => ?_) (fun c1 => ?_)
      · refine lv_iload_n hx hb dX3_daysOff_39 rfl (lv_at hl 3 rfl) ?_
        exact q_iret (v := nI (awN w c d)) hx hb hr hlocks dX3_daysOff_40 (by rw [show d = n by omega])
      · refine lv_aload_n hx hb dX3_daysOff_11 rfl (lv_at hl 0 rfl) ?_
        refine lv_iload_n hx hb dX3_daysOff_12 rfl (lv_at hl 1 rfl) ?_
        refine lv_aload_n hx hb dX3_daysOff_13 rfl (lv_at hl 0 rfl) ?_
        refine va_get (D := D) (ci := 2) (v := .int (nI (w 2))) (C := RX2) (T := TX2) (N := 9) hx hb hts nX3_daysOff_0 hown hK.1 hP 0 rfl rfl 2 (by decide) (hts _ mX3_daysOff_1) (fun _ h9 => h9) rfl dX3_daysOff_14 ?_
        refine lv_iload hx hb dX3_daysOff_17 (lv_at hl 4 rfl) ?_
        refine lv_iadd hx hb dX3_daysOff_19 ?_
        refine q_top (y := nI ((w 2) + d)) (nI_add _ _) ?_
        refine q_rV (As := [.int (nI c), .int (nI ((w 2) + d))]) (rest := []) ⟨hx, hb, hml, hown, hts⟩ (c_X2_worksOn l D cy h kA tA eA oA w fk ft fe fo hw hv c ((w 2) + d) (by omega) (by omega)) (cwV 2 hts gX3_daysOff_X2_worksOn rfl rfl rfl (by decide +kernel) ⟨Nat.le_of_ble_eq_true rfl, Nat.le_of_ble_eq_true rfl⟩) hP hK [0, 1, 2, 3, 4] rfl 0 rfl rfl rfl rfl hl.1 rfl (Nat.le_of_ble_eq_true rfl) dX3_daysOff_20 ⟨Nat.zero_le _, Nat.zero_le _⟩ (fun r2 hr2 => ?_)
        rcases hr2 with ⟨rfl, b3⟩ | ⟨rfl, b3⟩
        · refine lv_if_ne (tgt := 33) hx hb dX3_daysOff_23 (by decide) (fun _ => ?_) (fun c9 => absurd c9 (by decide))
          refine lv_iinc (v := nI (d + 1)) (lv' := [(4, .int (nI (d + 1))), (0, .ref h), (1, .int (nI c)), (2, .int (nI n)), (3, .int (nI (awN w c d)))]) hx hb dX3_daysOff_33 hl (k := 4) rfl (q_inc d 1) (by decide) rfl (fun ls hl => ?_)
          refine lv_goto (tgt := 5) hx hb dX3_daysOff_36 (by decide) ?_
          exact ih5 (d + 1) (by omega) (by omega) ls (q_lset (lv_sub (l' := [(0, .ref h), (1, .int (nI c)), (2, .int (nI n)), (3, .int (nI (awN w c d))), (4, .int (nI (d + 1)))]) hl [1, 2, 3, 4, 0] rfl) (q_c1 (f := fun z3 => ([(0, .ref h), (1, .int (nI c)), (2, .int (nI n)), (3, .int (z3)), (4, .int (nI (d + 1)))] : List (Nat × Value))) (show (nI (awN w c d) : Int32) = nI (awN w c (d + 1)) from by simp [awN, b3])))
        · refine lv_if_ne (tgt := 33) hx hb dX3_daysOff_23 (by decide) (fun c9 => absurd (by decide) c9) (fun _ => ?_)
          refine lv_iload_n hx hb dX3_daysOff_26 rfl (lv_at hl 3 rfl) ?_
          refine lv_iconst (v := nI 1) hx hb dX3_daysOff_27 (by decide) ?_
          refine lv_iload hx hb dX3_daysOff_28 (lv_at hl 4 rfl) ?_
          have hpw := q_pw14 d (by omega)
          refine lv_ishl hx hb dX3_daysOff_30 ?_
          refine q_top (y := nI (1 * 2 ^ d)) (q_shl (by omega) (by omega)) ?_
          refine lv_ior hx hb dX3_daysOff_31 ?_
          refine q_top (y := nI ((awN w c d) ||| (1 * 2 ^ d))) (q_or _ _) ?_
          refine lv_istore_n (lv' := [(3, .int (nI ((awN w c d) ||| (1 * 2 ^ d)))), (0, .ref h), (1, .int (nI c)), (2, .int (nI n)), (4, .int (nI d))]) hx hb dX3_daysOff_32 rfl hl (by decide) rfl (fun ls hl => ?_)
          refine lv_iinc (v := nI (d + 1)) (lv' := [(4, .int (nI (d + 1))), (3, .int (nI ((awN w c d) ||| (1 * 2 ^ d)))), (0, .ref h), (1, .int (nI c)), (2, .int (nI n))]) hx hb dX3_daysOff_33 hl (k := 4) rfl (q_inc d 1) (by decide) rfl (fun ls hl => ?_)
          refine lv_goto (tgt := 5) hx hb dX3_daysOff_36 (by decide) ?_
          exact ih5 (d + 1) (by omega) (by omega) ls (q_lset (lv_sub (l' := [(0, .ref h), (1, .int (nI c)), (2, .int (nI n)), (3, .int (nI ((awN w c d) ||| (1 * 2 ^ d)))), (4, .int (nI (d + 1)))]) hl [2, 3, 4, 1, 0] rfl) (q_c1 (f := fun z3 => ([(0, .ref h), (1, .int (nI c)), (2, .int (nI n)), (3, .int (z3)), (4, .int (nI (d + 1)))] : List (Nat × Value))) (show (nI ((awN w c d) ||| (1 * 2 ^ d)) : Int32) = nI (awN w c (d + 1)) from by simp [awN, b3])))
  exact L5_7 (n + 1) 0 (by omega) (by omega) ls (q_lset (lv_sub (l' := [(0, .ref h), (1, .int (nI c)), (2, .int (nI n)), (3, .int (nI 0)), (4, .int (nI 0))]) hl [2, 3, 4, 1, 0] rfl) (q_c1 (f := fun z3 => ([(0, .ref h), (1, .int (nI c)), (2, .int (nI n)), (3, .int (z3)), (4, .int (nI 0))] : List (Nat × Value))) (show (nI 0 : Int32) = nI (awN w c 0) from rfl)))
theorem nX3_turn_0 : ∀ w ∈ wsX20, w ∈ wsX3_turn := by decide +kernel
theorem mX3_turn_1 : Cond.fieldLink RX3 58 "ClueLeave$City" "clues" "I" ∈ wsX3_turn := by decide +kernel
theorem mX3_turn_2 : Cond.fieldLink RX3 31 "ClueLeave$City" "off" "[I" ∈ wsX3_turn := by decide +kernel
theorem mX3_turn_3 : Cond.fieldLink RX3 61 "ClueLeave$City" "every" "[I" ∈ wsX3_turn := by decide +kernel
set_option maxHeartbeats 4000000 in
set_option maxRecDepth 100000 in
theorem c_X3_turn (l : Launch) (D : va_G) (cy : Nat → ClassId) (j0 jk jt je jo : Nat) (w : Nat → Nat) (gk gt ge : Nat → Int32) (hw3 : ctI3 w gk gt ge) (hv : ctOk w) (o : Nat → Nat) (fo : Nat → Int32) (hfo : ∀ c, c < w 4 → fo c = nI (o c)) (ho : ∀ c, c < w 4 → o c < ctE w c) : q_Wi l yX3_turn wsX3_turn 1 D cy [(j0, .inr (2, [.int (nI (w 0)), .int (nI (w 1)), .int (nI (w 2)), .int (nI (w 4)), .int (nI (w 3)), .ref jk, .ref jt, .ref je, .ref jo])), (jk, .inl (cy 0, 6, .inl gk)), (jt, .inl (cy 0, 6, .inl gt)), (je, .inl (cy 0, 6, .inl ge)), (jo, .inl (cy 0, 6, .inl fo))] [.ref j0] (fun r u => (∃ (c : Nat) (o2 : Nat → Nat) (fo2 : Nat → Int32), otN (ctE w) (w 4) o = some (o2, c) ∧ c < w 4 ∧ (∀ c, c < w 4 → fo2 c = nI (o2 c)) ∧ r = nI c ∧ u = [(j0, .inr (2, [.int (nI (w 0)), .int (nI (w 1)), .int (nI (w 2)), .int (nI (w 4)), .int (nI (w 3)), .ref jk, .ref jt, .ref je, .ref jo])), (jk, .inl (cy 0, 6, .inl gk)), (jt, .inl (cy 0, 6, .inl gt)), (je, .inl (cy 0, 6, .inl ge)), (jo, .inl (cy 0, 6, .inl fo2))]) ∨ (∃ (fo2 : Nat → Int32), otN (ctE w) (w 4) o = none ∧ r = -1 ∧ u = [(j0, .inr (2, [.int (nI (w 0)), .int (nI (w 1)), .int (nI (w 2)), .int (nI (w 4)), .int (nI (w 3)), .ref jk, .ref jt, .ref je, .ref jo])), (jk, .inl (cy 0, 6, .inl gk)), (jt, .inl (cy 0, 6, .inl gt)), (je, .inl (cy 0, 6, .inl ge)), (jo, .inl (cy 0, 6, .inl fo2))])) := by
  refine q_wi_of (cc := cX3_turn) (maxL := 2) (ret := (some .int)) (by decide) rfl (Nat.le_of_ble_eq_true rfl) ?_
  intro pg en s mi args below meth cd A hC hA hK H locs hP hD hS ls hl
  obtain ⟨hx, hb, hr, hml, hown, hts, hlocks⟩ := hC
  have hl : lv_has ls 2 [(0, .ref j0)] := hl
  obtain ⟨hv0, hv1, hv2, hv3, hv4, hvc⟩ := id hv
  refine lv_aload_n hx hb dX3_turn_0 rfl (lv_at hl 0 rfl) ?_
  refine va_get (D := D) (ci := 2) (v := .int (nI (w 4))) (C := RX2) (T := TX2) (N := 9) hx hb hts nX3_turn_0 hown hK.1 hP 0 rfl rfl 3 (by decide) (hts _ mX3_turn_1) (fun _ h9 => h9) rfl dX3_turn_1 ?_
  refine lv_iconst (v := nI 1) hx hb dX3_turn_4 (by decide) ?_
  refine lv_isub hx hb dX3_turn_5 ?_
  refine lv_istore_n (lv' := [(1, .int ((nI (w 4)) - (nI 1))), (0, .ref j0)]) hx hb dX3_turn_6 rfl hl (by decide) rfl (fun ls hl => ?_)
  have L7_8 : ∀ (fu i : Nat), i ≤ w 4 → w 4 < i + fu → ∀ (o1 : Nat → Nat), ∀ (fo1 : Nat → Int32), otN (ctE w) (w 4 - i) o1 = otN (ctE w) (w 4) o → (∀ c, c < w 4 → fo1 c = nI (o1 c)) → (∀ c, c < w 4 → o1 c < ctE w c) → ∀ (H : Heap) (locs : List Loc), va_P D vwCl [(j0, .inr (2, [.int (nI (w 0)), .int (nI (w 1)), .int (nI (w 2)), .int (nI (w 4)), .int (nI (w 3)), .ref jk, .ref jt, .ref je, .ref jo])), (jk, .inl (cy 0, 6, .inl gk)), (jt, .inl (cy 0, 6, .inl gt)), (je, .inl (cy 0, 6, .inl ge)), (jo, .inl (cy 0, 6, .inl fo1))] H → va_D A [(j0, .inr (2, [.int (nI (w 0)), .int (nI (w 1)), .int (nI (w 2)), .int (nI (w 4)), .int (nI (w 3)), .ref jk, .ref jt, .ref je, .ref jo])), (jk, .inl (cy 0, 6, .inl gk)), (jt, .inl (cy 0, 6, .inl gt)), (je, .inl (cy 0, 6, .inl ge)), (jo, .inl (cy 0, 6, .inl fo1))] → va_S A s.heap H locs → ∀ ls : Array Slot, lv_has ls 2 [(0, .ref j0), (1, .int (nI (w 4 - i) - nI 1))] → W pg l en (q_rm 1) s mi args below meth cd H locs 0 0 (MQ below (va_Qi (fun r u => (∃ (c : Nat) (o2 : Nat → Nat) (fo2 : Nat → Int32), otN (ctE w) (w 4) o = some (o2, c) ∧ c < w 4 ∧ (∀ c, c < w 4 → fo2 c = nI (o2 c)) ∧ r = nI c ∧ u = [(j0, .inr (2, [.int (nI (w 0)), .int (nI (w 1)), .int (nI (w 2)), .int (nI (w 4)), .int (nI (w 3)), .ref jk, .ref jt, .ref je, .ref jo])), (jk, .inl (cy 0, 6, .inl gk)), (jt, .inl (cy 0, 6, .inl gt)), (je, .inl (cy 0, 6, .inl ge)), (jo, .inl (cy 0, 6, .inl fo2))]) ∨ (∃ (fo2 : Nat → Int32), otN (ctE w) (w 4) o = none ∧ r = -1 ∧ u = [(j0, .inr (2, [.int (nI (w 0)), .int (nI (w 1)), .int (nI (w 2)), .int (nI (w 4)), .int (nI (w 3)), .ref jk, .ref jt, .ref je, .ref jo])), (jk, .inl (cy 0, 6, .inl gk)), (jt, .inl (cy 0, 6, .inl gt)), (je, .inl (cy 0, 6, .inl ge)), (jo, .inl (cy 0, 6, .inl fo2))])) (fun (u : va_W) t => va_P D vwCl u t.heap ∧ va_D A u) A) args s 0 0 A) (F0 mi 7 ls []) := by
    intro fu
    induction fu with
    | zero =>
      intro i h1 h2
      exact absurd h2 (by omega)
    | succ fu ih7 =>
      intro i h1_7 h2_7 o1 fo1 hf7_0 hf7_1 hf7_2 H locs hP hD hS ls hl
      refine lv_iload_n hx hb dX3_turn_7 rfl (lv_at hl 1 rfl) ?_
      refine lv_if_lt (tgt := 51) hx hb dX3_turn_8 (by decide) (fun c1 => ?_) (fun c1 => ?_)
      · refine lv_iconst (v := (-1)) hx hb dX3_turn_51 (by decide) ?_
        have hP9 := hP
        have hD9 := hD
        exact q_wiret (v := (-1)) hx hb hr hlocks dX3_turn_52 hP9 hD9 hS (Or.inr ⟨_, hf7_0.symm.trans (by rw [show w 4 - i = 0 from q_dn0 hv4 c1]; rfl), rfl, rfl⟩)
      · have hi4 : i < w 4 := q_dn hv4 h1_7 c1
        have hl : lv_has ls 2 [(0, .ref j0), (1, .int (nI (w 4 - i - 1)))] := q_lset hl (q_c1 (f := fun z9 => ([(0, .ref j0), (1, .int (z9))] : List (Nat × Value))) (pk_sub (by omega)))
        obtain ⟨hk1, hk5, ht1, ht2, he2, he4, ho1⟩ := hvc (w 4 - i - 1) (by omega)
        have hol := hf7_2 (w 4 - i - 1) (by omega)
        refine lv_aload_n hx hb dX3_turn_11 rfl (lv_at hl 0 rfl) ?_
        refine va_get (D := D) (ci := 2) (v := .ref jo) (C := RX2) (T := TX2) (N := 9) hx hb hts nX3_turn_0 hown hK.1 hP 0 rfl rfl 8 (by decide) (hts _ mX3_turn_2) (fun _ h9 => h9) rfl dX3_turn_12 ?_
        refine lv_iload_n hx hb dX3_turn_15 rfl (lv_at hl 1 rfl) ?_
        refine lv_dup2_11 hx hb dX3_turn_16 rfl rfl ?_
        refine q_iald (j := (w 4 - i - 1)) (v := nI (o1 (w 4 - i - 1))) hx hb hK hP 4 rfl (by omega) (by decide) (hf7_1 _ (by omega)) dX3_turn_17 ?_
        refine lv_iconst (v := nI 1) hx hb dX3_turn_18 (by decide) ?_
        refine lv_iadd hx hb dX3_turn_19 ?_
        refine q_top (y := nI ((o1 (w 4 - i - 1)) + 1)) (nI_add _ _) ?_
        refine q_iast (j := (w 4 - i - 1)) hx hb hK hP hD hS 4 rfl (by omega) (by decide) dX3_turn_20 (fun H locs hP hD hS => ?_)
        have hP : va_P D vwCl [(j0, .inr (2, [.int (nI (w 0)), .int (nI (w 1)), .int (nI (w 2)), .int (nI (w 4)), .int (nI (w 3)), .ref jk, .ref jt, .ref je, .ref jo])), (jk, .inl (cy 0, 6, .inl gk)), (jt, .inl (cy 0, 6, .inl gt)), (je, .inl (cy 0, 6, .inl ge)), (jo, .inl (cy 0, 6, .inl (upd fo1 (w 4 - i - 1) (nI ((o1 (w 4 - i - 1)) + 1)))))] H := hP
        have hD : va_D A [(j0, .inr (2, [.int (nI (w 0)), .int (nI (w 1)), .int (nI (w 2)), .int (nI (w 4)), .int (nI (w 3)), .ref jk, .ref jt, .ref je, .ref jo])), (jk, .inl (cy 0, 6, .inl gk)), (jt, .inl (cy 0, 6, .inl gt)), (je, .inl (cy 0, 6, .inl ge)), (jo, .inl (cy 0, 6, .inl (upd fo1 (w 4 - i - 1) (nI ((o1 (w 4 - i - 1)) + 1)))))] := hD
        refine lv_aload_n hx hb dX3_turn_21 rfl (lv_at hl 0 rfl) ?_
        refine va_get (D := D) (ci := 2) (v := .ref jo) (C := RX2) (T := TX2) (N := 9) hx hb hts nX3_turn_0 hown hK.1 hP 0 rfl rfl 8 (by decide) (hts _ mX3_turn_2) (fun _ h9 => h9) rfl dX3_turn_22 ?_
        refine lv_iload_n hx hb dX3_turn_25 rfl (lv_at hl 1 rfl) ?_
        refine q_iald (j := (w 4 - i - 1)) (v := (upd fo1 (w 4 - i - 1) (nI ((o1 (w 4 - i - 1)) + 1))) (w 4 - i - 1)) hx hb hK hP 4 rfl (by omega) (by decide) (rfl) dX3_turn_26 ?_
        refine q_top (y := nI (o1 (w 4 - i - 1) + 1)) (by rw [pk_us]) ?_
        refine lv_aload_n hx hb dX3_turn_27 rfl (lv_at hl 0 rfl) ?_
        refine va_get (D := D) (ci := 2) (v := .ref je) (C := RX2) (T := TX2) (N := 9) hx hb hts nX3_turn_0 hown hK.1 hP 0 rfl rfl 7 (by decide) (hts _ mX3_turn_3) (fun _ h9 => h9) rfl dX3_turn_28 ?_
        refine lv_iload_n hx hb dX3_turn_31 rfl (lv_at hl 1 rfl) ?_
        refine q_iald (j := (w 4 - i - 1)) (v := nI (ctE w (w 4 - i - 1))) hx hb hK hP 3 rfl (by omega) (by decide) (ctI3_2 hw3 (by omega)) dX3_turn_32 ?_
        refine q_icmp_ge (tgt := 38) hx hb dX3_turn_33 (by decide) (by omega) (by omega) (fun c2 => ?_) (fun c2 => ?_)
        · have hlt2 : ¬ o1 (w 4 - i - 1) + 1 < ctE w (w 4 - i - 1) := by omega
          refine lv_aload_n hx hb dX3_turn_38 rfl (lv_at hl 0 rfl) ?_
          refine va_get (D := D) (ci := 2) (v := .ref jo) (C := RX2) (T := TX2) (N := 9) hx hb hts nX3_turn_0 hown hK.1 hP 0 rfl rfl 8 (by decide) (hts _ mX3_turn_2) (fun _ h9 => h9) rfl dX3_turn_39 ?_
          refine lv_iload_n hx hb dX3_turn_42 rfl (lv_at hl 1 rfl) ?_
          refine lv_iconst (v := nI 0) hx hb dX3_turn_43 (by decide) ?_
          refine q_iast (j := (w 4 - i - 1)) hx hb hK hP hD hS 4 rfl (by omega) (by decide) dX3_turn_44 (fun H locs hP hD hS => ?_)
          have hP : va_P D vwCl [(j0, .inr (2, [.int (nI (w 0)), .int (nI (w 1)), .int (nI (w 2)), .int (nI (w 4)), .int (nI (w 3)), .ref jk, .ref jt, .ref je, .ref jo])), (jk, .inl (cy 0, 6, .inl gk)), (jt, .inl (cy 0, 6, .inl gt)), (je, .inl (cy 0, 6, .inl ge)), (jo, .inl (cy 0, 6, .inl (upd (upd fo1 (w 4 - i - 1) (nI ((o1 (w 4 - i - 1)) + 1))) (w 4 - i - 1) (nI 0))))] H := hP
          have hD : va_D A [(j0, .inr (2, [.int (nI (w 0)), .int (nI (w 1)), .int (nI (w 2)), .int (nI (w 4)), .int (nI (w 3)), .ref jk, .ref jt, .ref je, .ref jo])), (jk, .inl (cy 0, 6, .inl gk)), (jt, .inl (cy 0, 6, .inl gt)), (je, .inl (cy 0, 6, .inl ge)), (jo, .inl (cy 0, 6, .inl (upd (upd fo1 (w 4 - i - 1) (nI ((o1 (w 4 - i - 1)) + 1))) (w 4 - i - 1) (nI 0))))] := hD
          refine lv_iinc (v := nI (w 4 - i - 1) - nI 1) (lv' := [(1, .int (nI (w 4 - i - 1) - nI 1)), (0, .ref j0)]) hx hb dX3_turn_45 hl (k := 1) rfl (q_decR _ _) (by decide) rfl (fun ls hl => ?_)
          refine lv_goto (tgt := 7) hx hb dX3_turn_48 (by decide) ?_
          have hP := q_Pc (w1 := [(j0, .inr (2, [.int (nI (w 0)), .int (nI (w 1)), .int (nI (w 2)), .int (nI (w 4)), .int (nI (w 3)), .ref jk, .ref jt, .ref je, .ref jo])), (jk, .inl (cy 0, 6, .inl gk)), (jt, .inl (cy 0, 6, .inl gt)), (je, .inl (cy 0, 6, .inl ge)), (jo, .inl (cy 0, 6, .inl (upd (upd fo1 (w 4 - i - 1) (nI ((o1 (w 4 - i - 1)) + 1))) (w 4 - i - 1) (nI 0))))]) (w2 := [(j0, .inr (2, [.int (nI (w 0)), .int (nI (w 1)), .int (nI (w 2)), .int (nI (w 4)), .int (nI (w 3)), .ref jk, .ref jt, .ref je, .ref jo])), (jk, .inl (cy 0, 6, .inl gk)), (jt, .inl (cy 0, 6, .inl gt)), (je, .inl (cy 0, 6, .inl ge)), (jo, .inl (cy 0, 6, .inl (upd (upd fo1 (w 4 - i - 1) (nI (o1 (w 4 - i - 1) + 1))) (w 4 - i - 1) (nI 0))))]) (q_c1 (f := fun z0 => ([(j0, .inr (2, [.int (nI (w 0)), .int (nI (w 1)), .int (nI (w 2)), .int (nI (w 4)), .int (nI (w 3)), .ref jk, .ref jt, .ref je, .ref jo])), (jk, .inl (cy 0, 6, .inl gk)), (jt, .inl (cy 0, 6, .inl gt)), (je, .inl (cy 0, 6, .inl ge)), (jo, .inl (cy 0, 6, .inl z0))] : va_W)) (show (upd (upd fo1 (w 4 - i - 1) (nI ((o1 (w 4 - i - 1)) + 1))) (w 4 - i - 1) (nI 0) : Nat → Int32) = (upd (upd fo1 (w 4 - i - 1) (nI (o1 (w 4 - i - 1) + 1))) (w 4 - i - 1) (nI 0)) from rfl)) hP
          have hD := q_Dc (w1 := [(j0, .inr (2, [.int (nI (w 0)), .int (nI (w 1)), .int (nI (w 2)), .int (nI (w 4)), .int (nI (w 3)), .ref jk, .ref jt, .ref je, .ref jo])), (jk, .inl (cy 0, 6, .inl gk)), (jt, .inl (cy 0, 6, .inl gt)), (je, .inl (cy 0, 6, .inl ge)), (jo, .inl (cy 0, 6, .inl (upd (upd fo1 (w 4 - i - 1) (nI ((o1 (w 4 - i - 1)) + 1))) (w 4 - i - 1) (nI 0))))]) (w2 := [(j0, .inr (2, [.int (nI (w 0)), .int (nI (w 1)), .int (nI (w 2)), .int (nI (w 4)), .int (nI (w 3)), .ref jk, .ref jt, .ref je, .ref jo])), (jk, .inl (cy 0, 6, .inl gk)), (jt, .inl (cy 0, 6, .inl gt)), (je, .inl (cy 0, 6, .inl ge)), (jo, .inl (cy 0, 6, .inl (upd (upd fo1 (w 4 - i - 1) (nI (o1 (w 4 - i - 1) + 1))) (w 4 - i - 1) (nI 0))))]) (q_c1 (f := fun z0 => ([(j0, .inr (2, [.int (nI (w 0)), .int (nI (w 1)), .int (nI (w 2)), .int (nI (w 4)), .int (nI (w 3)), .ref jk, .ref jt, .ref je, .ref jo])), (jk, .inl (cy 0, 6, .inl gk)), (jt, .inl (cy 0, 6, .inl gt)), (je, .inl (cy 0, 6, .inl ge)), (jo, .inl (cy 0, 6, .inl z0))] : va_W)) (show (upd (upd fo1 (w 4 - i - 1) (nI ((o1 (w 4 - i - 1)) + 1))) (w 4 - i - 1) (nI 0) : Nat → Int32) = (upd (upd fo1 (w 4 - i - 1) (nI (o1 (w 4 - i - 1) + 1))) (w 4 - i - 1) (nI 0)) from rfl)) hD
          exact ih7 (i + 1) (by omega) (by omega) (fun z => if z = w 4 - i - 1 then 0 else o1 z) (upd (upd fo1 (w 4 - i - 1) (nI (o1 (w 4 - i - 1) + 1))) (w 4 - i - 1) (nI 0)) ((otN_c (by omega) (by omega) hlt2).symm.trans hf7_0) (ot_u2 hf7_1) (ot_0 hf7_2 (fun c hc => by have := hvc c hc; omega)) H locs hP hD hS ls (q_lset (lv_sub (l' := [(0, .ref j0), (1, .int (nI (w 4 - i - 1) - nI 1))]) hl [1, 0] rfl) (q_c1 (f := fun z1 => ([(0, .ref j0), (1, .int (z1))] : List (Nat × Value))) (show (nI (w 4 - i - 1) - nI 1 : Int32) = nI (w 4 - (i + 1)) - nI 1 from by rw [Nat.sub_sub])))
        · refine lv_iload_n hx hb dX3_turn_36 rfl (lv_at hl 1 rfl) ?_
          have hP9 := hP
          have hD9 := hD
          exact q_wiret (v := nI (w 4 - i - 1)) hx hb hr hlocks dX3_turn_37 hP9 hD9 hS (Or.inl ⟨_, _, _, hf7_0.symm.trans (otN_s (by omega) (by omega)), by omega, ot_u1 hf7_1, rfl, rfl⟩)
  exact L7_8 ((w 4) + 1) 0 (by omega) (by omega) o fo rfl hfo ho H locs hP hD hS ls (q_lset (lv_sub (l' := [(0, .ref j0), (1, .int ((nI (w 4)) - (nI 1)))]) hl [1, 0] rfl) (q_c1 (f := fun z1 => ([(0, .ref j0), (1, .int (z1))] : List (Nat × Value))) (show ((nI (w 4)) - (nI 1) : Int32) = nI (w 4 - 0) - nI 1 from rfl)))

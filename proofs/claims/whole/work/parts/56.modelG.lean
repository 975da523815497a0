/-! the model's tokens: where the one at p ends, its kind, its value -/
def tkE (tp : Nat → Nat) (n p : Nat) : Nat := if n ≤ p then p else if tkRun tp n p = 0 then p + 1 else p + tkRun tp n p
def tkK (tp : Nat → Nat) (n p : Nat) : Nat := if n ≤ p then 0 else if tkRun tp n p = 0 then (if 97 ≤ tp p ∧ tp p ≤ 122 then 1 else if tp p = 44 then 3 else if tp p = 59 then 4 else 5) else if tkRun tp n p < 3 then 2 else 5
def tkV (tp : Nat → Nat) (n p : Nat) : Int32 := if n ≤ p then -1 else if tkRun tp n p = 0 then nI (tp p) else nI (tkNum tp p (tkRun tp n p))
def tvJ (tp : Nat → Nat) (p j : Nat) : Int32 := if j = 0 then nI 0 else if j = 1 then nI (tp p - 48) else nI (tkNum tp p 2)
theorem tvJ_2 {tp : Nat → Nat} {p j : Nat} (h : 2 ≤ j) : tvJ tp p (j + 1) = tvJ tp p j := by
  unfold tvJ
  rw [if_neg (by omega), if_neg (by omega), if_neg (by omega), if_neg (by omega)]
theorem tvJ_s {tp : Nat → Nat} {p j : Nat} (hj : j < 2) (h : 48 ≤ tp (p + j) ∧ tp (p + j) ≤ 57) (h0 : ∀ i, i < j → 48 ≤ tp (p + i) ∧ tp (p + i) ≤ 57) : (nI 10) * (tvJ tp p j) + nI (tp (p + j)) - nI 48 = tvJ tp p (j + 1) := by
  unfold tvJ
  rcases (show j = 0 ∨ j = 1 by omega) with rfl | rfl
  · rw [if_pos rfl, if_neg (by decide), if_pos rfl]
    rw [Nat.add_zero] at h ⊢
    rw [pk_mul, nI_add, Nat.mul_zero, Nat.zero_add]
    exact pk_sub h.1
  · have h1 := h0 0 (by omega)
    rw [Nat.add_zero] at h1
    rw [if_neg (by decide), if_pos rfl, if_neg (by decide), if_neg (by decide)]
    rw [pk_mul, nI_add, pk_sub (by omega)]
    congr 1
    unfold tkNum
    rw [if_neg (by decide)]
    omega
theorem tvJ_n {tp : Nat → Nat} {p j : Nat} (h : 0 < j) : tvJ tp p j = nI (tkNum tp p j) := by
  unfold tvJ tkNum
  rw [if_neg (by omega)]
  by_cases h1 : j = 1
  · rw [if_pos h1, if_pos h1]
  · rw [if_neg h1, if_neg h1, if_neg (by decide)]
theorem tkDig_lt {tp : Nat → Nat} {n p : Nat} (h : tkDig tp n p = true) : p < n := by simp [tkDig] at h; exact h.1
theorem tkRunF_e {tp : Nat → Nat} {n : Nat} : ∀ (k p : Nat), n ≤ p → tkRunF tp n k p = 0
  | 0, _, _ => rfl
  | k + 1, p, h => by
    rw [tkRunF, if_neg (tkDig_end h)]
theorem tkRunF_le {tp : Nat → Nat} {n : Nat} : ∀ (k p : Nat), p ≤ n → p + tkRunF tp n k p ≤ n
  | 0, p, h => h
  | k + 1, p, h => by
    rw [tkRunF]
    split
    · next q =>
      have h2 : p < n := by simp [tkDig] at q; exact q.1
      have := tkRunF_le (tp := tp) k (p + 1) h2
      omega
    · omega
theorem tkE_le {tp : Nat → Nat} {n p : Nat} (h : p ≤ n) : tkE tp n p ≤ n := by
  unfold tkE
  have := tkRunF_le (tp := tp) (n - p) p h
  split
  · exact h
  · split
    · omega
    · exact this
theorem tkK_le (tp : Nat → Nat) (n p : Nat) : tkK tp n p ≤ 5 := by
  unfold tkK
  repeat' split
  all_goals omega
theorem tkE_0 {tp : Nat → Nat} {n p : Nat} (h : n ≤ p) : tkE tp n p = p := if_pos h
theorem tkK_0 {tp : Nat → Nat} {n p : Nat} (h : n ≤ p) : tkK tp n p = 0 := if_pos h
theorem tkV_0 {tp : Nat → Nat} {n p : Nat} (h : n ≤ p) : tkV tp n p = -1 := if_pos h
theorem tkE_1 {tp : Nat → Nat} {n p : Nat} (h : p < n) (hr : tkRun tp n p = 0) : tkE tp n p = p + 1 := by unfold tkE; rw [if_neg (by omega), if_pos hr]
theorem tkV_1 {tp : Nat → Nat} {n p : Nat} (h : p < n) (hr : tkRun tp n p = 0) : tkV tp n p = nI (tp p) := by unfold tkV; rw [if_neg (by omega), if_pos hr]
theorem tkK_1x {tp : Nat → Nat} {n p : Nat} (h : p < n) (hr : tkRun tp n p = 0) (hl : 97 ≤ tp p ∧ tp p ≤ 122) : tkK tp n p = 1 := by unfold tkK; rw [if_neg (by omega), if_pos hr, if_pos hl]
theorem tkK_3x {tp : Nat → Nat} {n p : Nat} (h : p < n) (hr : tkRun tp n p = 0) (hl : ¬ (97 ≤ tp p ∧ tp p ≤ 122)) (h3 : tp p = 44) : tkK tp n p = 3 := by unfold tkK; rw [if_neg (by omega), if_pos hr, if_neg hl, if_pos h3]
theorem tkK_4x {tp : Nat → Nat} {n p : Nat} (h : p < n) (hr : tkRun tp n p = 0) (hl : ¬ (97 ≤ tp p ∧ tp p ≤ 122)) (h4 : tp p = 59) : tkK tp n p = 4 := by unfold tkK; rw [if_neg (by omega), if_pos hr, if_neg hl, if_neg (by omega), if_pos h4]
theorem tkK_5x {tp : Nat → Nat} {n p : Nat} (h : p < n) (hr : tkRun tp n p = 0) (hl : ¬ (97 ≤ tp p ∧ tp p ≤ 122)) (h3 : tp p ≠ 44) (h4 : tp p ≠ 59) : tkK tp n p = 5 := by unfold tkK; rw [if_neg (by omega), if_pos hr, if_neg hl, if_neg h3, if_neg h4]
theorem tkE_d {tp : Nat → Nat} {n p j : Nat} (hr : tkRun tp n p = j) (hj : 0 < j) (h : p < n) : tkE tp n p = p + j := by unfold tkE; rw [if_neg (by omega), if_neg (by omega), hr]
theorem tkK_dn {tp : Nat → Nat} {n p j : Nat} (hr : tkRun tp n p = j) (hj : 0 < j) (h : p < n) (h3 : j < 3) : tkK tp n p = 2 := by unfold tkK; rw [if_neg (by omega), if_neg (by omega), if_pos (by omega)]
theorem tkK_ds {tp : Nat → Nat} {n p j : Nat} (hr : tkRun tp n p = j) (hj : 0 < j) (h : p < n) (h3 : 3 ≤ j) : tkK tp n p = 5 := by unfold tkK; rw [if_neg (by omega), if_neg (by omega), if_neg (by omega)]
theorem tkV_d {tp : Nat → Nat} {n p j : Nat} {fb : Nat → Int32} (hr : tkRun tp n p = j) (hj : 0 < j) (h : p < n) (htp : tpIs n tp fb) : tkV tp n p = tvJ tp p j := by unfold tkV; rw [if_neg (by omega), if_neg (by omega), hr, tvJ_n hj]
theorem tkK_c (tp : Nat → Nat) (n p : Nat) : (n ≤ p ∧ tkK tp n p = 0 ∧ tkRun tp n p = 0) ∨ (p < n ∧ tkRun tp n p = 0 ∧ ((97 ≤ tp p ∧ tp p ≤ 122 ∧ tkK tp n p = 1) ∨ (tp p = 44 ∧ tkK tp n p = 3) ∨ (tp p = 59 ∧ tkK tp n p = 4) ∨ (¬ (97 ≤ tp p ∧ tp p ≤ 122) ∧ tp p ≠ 44 ∧ tp p ≠ 59 ∧ tkK tp n p = 5))) ∨ (p < n ∧ 0 < tkRun tp n p ∧ 48 ≤ tp p ∧ tp p ≤ 57 ∧ ((tkRun tp n p < 3 ∧ tkK tp n p = 2) ∨ (3 ≤ tkRun tp n p ∧ tkK tp n p = 5))) := by
  rcases Nat.lt_or_ge p n with h | h
  · rcases Nat.eq_zero_or_pos (tkRun tp n p) with hr | hr
    · refine Or.inr (Or.inl ⟨h, hr, ?_⟩)
      by_cases h1 : 97 ≤ tp p ∧ tp p ≤ 122
      · exact Or.inl ⟨h1.1, h1.2, tkK_1x h hr h1⟩
      · by_cases h3 : tp p = 44
        · exact Or.inr (Or.inl ⟨h3, tkK_3x h hr h1 h3⟩)
        · by_cases h4 : tp p = 59
          · exact Or.inr (Or.inr (Or.inl ⟨h4, tkK_4x h hr h1 h4⟩))
          · exact Or.inr (Or.inr (Or.inr ⟨h1, h3, h4, tkK_5x h hr h1 h3 h4⟩))
    · have hd : tkDig tp n p = true := by
        unfold tkRun at hr
        obtain ⟨k, hk⟩ : ∃ k, n - p = k + 1 := ⟨n - p - 1, by omega⟩
        rw [hk, tkRunF] at hr
        split at hr
        · assumption
        · exact absurd hr (by decide)
      have hd2 := tkDig_r hd
      refine Or.inr (Or.inr ⟨h, hr, hd2.1, hd2.2, ?_⟩)
      rcases Nat.lt_or_ge (tkRun tp n p) 3 with h3 | h3
      · exact Or.inl ⟨h3, tkK_dn rfl hr h h3⟩
      · exact Or.inr ⟨h3, tkK_ds rfl hr h h3⟩
  · exact Or.inl ⟨h, tkK_0 h, tkRunF_e _ _ h⟩
theorem tkK_1 {tp : Nat → Nat} {n p : Nat} (h : tkK tp n p = 1) : p < n ∧ (97 ≤ tp p ∧ tp p ≤ 122) ∧ tkV tp n p = nI (tp p) := by
  have hc := tkK_c tp n p
  have h1 : p < n := by omega
  have h2 : tkRun tp n p = 0 := by omega
  exact ⟨h1, by omega, tkV_1 h1 h2⟩
theorem tkL_e {tp : Nat → Nat} {n p : Nat} (h : tkK tp n p = 1) : tkE tp n p = p + 1 := by
  have hc := tkK_c tp n p
  exact tkE_1 (by omega) (by omega)
theorem tkK_2 {tp : Nat → Nat} {n p : Nat} (h : tkK tp n p = 2) : 1 ≤ tkRun tp n p ∧ tkRun tp n p ≤ 2 ∧ p < n := by
  have hc := tkK_c tp n p
  omega
theorem tkK_n2 {tp : Nat → Nat} {n p : Nat} (h : tkK tp n p ≠ 2) : tkRun tp n p = 0 ∨ 2 < tkRun tp n p := by
  have hc := tkK_c tp n p
  omega
theorem tkV_2 {tp : Nat → Nat} {n p : Nat} (h : tkK tp n p = 2) : tkV tp n p = nI (tkNum tp p (tkRun tp n p)) := by
  have hc := tkK_2 h
  unfold tkV
  rw [if_neg (by omega), if_neg (by omega)]
theorem tkE_2 {tp : Nat → Nat} {n p : Nat} (h : tkK tp n p = 2) : tkE tp n p = p + tkRun tp n p := by
  have hc := tkK_2 h
  exact tkE_d rfl (by omega) hc.2.2
theorem tkE_gt {tp : Nat → Nat} {n p : Nat} (h : tkK tp n p = 2) : p < tkE tp n p := by
  have hc := tkK_2 h
  rw [tkE_2 h]; omega
theorem tkN_lt {tp : Nat → Nat} {n p : Nat} {fb : Nat → Int32} (htp : tpIs n tp fb) (h : tkK tp n p = 2) : tkNum tp p (tkRun tp n p) < 4000 := by
  have hc := tkK_2 h
  have h0 := (htp p hc.2.2).2
  unfold tkNum
  split
  · omega
  · next q =>
    have h3 := tkRunF_le (tp := tp) (n - p) p (Nat.le_of_lt hc.2.2)
    have h4 : p + tkRun tp n p ≤ n := h3
    have h1 := (htp (p + 1) (by omega)).2
    omega
theorem tkK_3 {tp : Nat → Nat} {n p : Nat} (h : tkK tp n p = 3) : pTake tp n 44 p = .ok (tkE tp n p) ∧ tkE tp n p = p + 1 := by
  have hc := tkK_c tp n p
  have e := tkE_1 (tp := tp) (n := n) (p := p) (by omega) (by omega)
  exact ⟨by rw [e]; exact if_pos ⟨by omega, by omega⟩, e⟩
theorem tkK_n3 {tp : Nat → Nat} {n p : Nat} (h : tkK tp n p ≠ 3) : pTake tp n 44 p = .error (p, 1) := if_neg (fun q => by
  have hc := tkK_c tp n p
  omega)
theorem tkK_z {tp : Nat → Nat} {n p : Nat} (h : tkK tp n p = 0) : n ≤ p := by
  have hc := tkK_c tp n p
  omega
theorem tkK_pos {tp : Nat → Nat} {n p : Nat} (h : 0 < tkK tp n p) : p < n := by
  have hc := tkK_c tp n p
  omega
theorem tkK_4 {tp : Nat → Nat} {n p : Nat} (h : tkK tp n p = 4) : pTake tp n 59 p = .ok (tkE tp n p) ∧ tkE tp n p = p + 1 := by
  have hc := tkK_c tp n p
  have e := tkE_1 (tp := tp) (n := n) (p := p) (by omega) (by omega)
  exact ⟨by rw [e]; exact if_pos ⟨by omega, by omega⟩, e⟩
theorem tkK_n4 {tp : Nat → Nat} {n p : Nat} (h : tkK tp n p ≠ 4) : pTake tp n 59 p = .error (p, 1) := if_neg (fun q => by
  have hc := tkK_c tp n p
  omega)
theorem tkC_n1 {tp : Nat → Nat} {n p : Nat} (h : tkK tp n p ≠ 1) : pTake tp n 99 p = .error (p, 1) := if_neg (fun q => by
  have hc := tkK_c tp n p
  omega)
theorem pKind_r {x : Nat} (h : 0 < pKind x) : 97 ≤ x ∧ x ≤ 122 := by
  unfold pKind at h
  repeat' split at h
  all_goals omega
theorem tkL_1 {tp : Nat → Nat} {n p : Nat} (h : p < n) (hk : 0 < pKind (tp p)) : tkE tp n p = p + 1 ∧ tkV tp n p = nI (tp p) := by
  have hc := tkK_c tp n p
  have hr := pKind_r hk
  exact ⟨tkE_1 h (by omega), tkV_1 h (by omega)⟩
theorem tkK_nk {tp : Nat → Nat} {n p : Nat} (h : p < n) (hk : tkK tp n p ≠ 1) : pKind (tp p) = 0 := by
  have hc := tkK_c tp n p
  rcases Nat.eq_zero_or_pos (pKind (tp p)) with q | q
  · exact q
  · have hr := pKind_r q
    omega
theorem pClue_0 {tp : Nat → Nat} {n al k p : Nat} (h : pKind (tp p) = 0) : pClue tp n al k p = .error (p, 1) := by unfold pClue; rw [if_pos h]
theorem pCl_e {tp : Nat → Nat} {n f p : Nat} {w : Nat → Nat} {e : Nat × Nat} (hf : 0 < f) (hp : p < n) (h : pClue tp n (ctAll w) (w 4) p = .error e) : pClues tp n f p w = .error e := by
  cases f with
  | zero => omega
  | succ f => rw [pClues, if_pos hp, h]; rfl
theorem pCl_s {tp : Nat → Nat} {n i p q K T E O : Nat} {w : Nat → Nat} (hf : i < 7) (hp : p < n) (h : pClue tp n (ctAll w) (w 4) p = .ok (q, K, T, E, O)) : pClues tp n (7 - i) p w = pClues tp n (7 - (i + 1)) q (ctAdd w K T E O) := by
  rw [show 7 - i = (7 - (i + 1)) + 1 by omega, pClues, if_pos hp, h]; rfl
theorem pCity_k {tp : Nat → Nat} {n p su sn f p2 : Nat} {w2 : Nat → Nat} {R : Except (Nat × Nat) (Nat → Nat)} (h : pLaw tp n = .ok (p, su, sn)) (h2 : pClues tp n f p2 w2 = pClues tp n 7 p (ctLaw su sn)) (h3 : pClues tp n f p2 w2 = R) : pCity tp n = R := by
  unfold pCity
  rw [h, ← h3, h2]; rfl
theorem mwIs_law {gd : Nat → Int32} {su sn z : Nat} (hz : z = 29) : mwIs (ctLaw su sn) (upd (upd (fa_fill (fun _ => nI 0) gd z) 0 (nI su)) 1 (nI sn)) := fun k hk => by
  unfold ctLaw
  by_cases e1 : k = 1
  · subst e1; rw [pk_us]; rfl
  · rw [pk_un e1]
    by_cases e0 : k = 0
    · subst e0; rw [pk_us]; rfl
    · rw [pk_un e0, fa_fill_in (by omega), if_neg e0, if_neg e1]
theorem mwIs_add {gd : Nat → Int32} {w : Nat → Nat} {K T E O : Nat} (h : mwIs w gd) (h4 : w 4 < 6) : mwIs (ctAdd w K T E O) (upd (upd (upd (upd (upd gd (5 + 4 * w 4) (nI K)) (5 + 4 * w 4 + 1) (nI T)) (5 + 4 * w 4 + 2) (nI E)) (5 + 4 * w 4 + 3) (nI O)) 4 (nI (w 4 + 1))) := fun k hk => by
  unfold ctAdd
  by_cases e4 : k = 4
  · subst e4; rw [pk_us, if_pos rfl]
  · rw [pk_un e4, if_neg e4]
    by_cases eO : k = 5 + 4 * w 4 + 3
    · rw [eO, pk_us, if_neg (by omega), if_neg (by omega), if_neg (by omega), if_neg (by omega), if_pos (by omega)]
    · rw [pk_un eO]
      by_cases eE : k = 5 + 4 * w 4 + 2
      · rw [eE, pk_us, if_neg (by omega), if_neg (by omega), if_neg (by omega), if_pos (by omega)]
      · rw [pk_un eE]
        by_cases eT : k = 5 + 4 * w 4 + 1
        · rw [eT, pk_us, if_neg (by omega), if_neg (by omega), if_pos (by omega)]
        · rw [pk_un eT]
          by_cases eK : k = 5 + 4 * w 4
          · rw [eK, pk_us, if_neg (by omega), if_pos rfl]
          · rw [pk_un eK, h k hk]
            by_cases q : k < 5
            · rw [if_pos q]
            · rw [if_neg q, if_neg eK, if_neg (by omega), if_neg (by omega), if_neg (by omega)]
theorem nX7_byteAt_0 : ∀ w ∈ wsX70, w ∈ wsX7_byteAt := by decide +kernel
theorem mX7_byteAt_1 : Cond.fieldLink RX7 82 "ClueLeaveModel" "taped" "I" ∈ wsX7_byteAt := by decide +kernel
theorem mX7_byteAt_2 : Cond.fieldLink RX7 22 "ClueLeaveModel" "tape" "[I" ∈ wsX7_byteAt := by decide +kernel
set_option maxHeartbeats 4000000 in
set_option maxRecDepth 100000 in
theorem c_X7_byteAt (l : Launch) (D : va_G) (cy : Nat → ClassId) (m0 ml mm mit ms mt nw dr tr pa ig kx be tc : Nat) (st fk fp av sv ov vv : Int32) (tn ac td : Nat) (ft : Nat → Int32) (tp : Nat → Nat) (htn : tn ≤ 100) (htp : tpIs tn tp ft) (p : Nat) (hp : p < 2 ^ 31) : q_Rd l yX7_byteAt wsX7_byteAt 1 D cy [(m0, .inr (7, [.ref ml, .ref mm, .ref mit, .ref ms, .int (st), .ref mt, .int (nI tn), .int (fk), .int (fp), .int (av), .int (sv), .int (ov), .int (vv), .ref nw, .ref dr, .ref tr, .ref pa, .int (nI ac), .ref ig, .ref kx, .ref be, .ref tc, .int (nI td)])), (mt, .inl (cy 0, 100, .inl ft))] [.ref m0, .int (nI p)] (fun r => (p < tn ∧ r = nI (tp p)) ∨ (tn ≤ p ∧ r = -1)) := by
  refine q_rd_of (cc := cX7_byteAt) (maxL := 2) (ret := (some .int)) (by decide) rfl (Nat.le_of_ble_eq_true rfl) ?_
  intro pg en s mi args below meth cd hC hP hK ls hl
  obtain ⟨hx, hb, hr, hml, hown, hts, hlocks⟩ := hC
  have hl : lv_has ls 2 [(0, .ref m0), (1, .int (nI p))] := hl
  refine lv_iload_n hx hb dX7_byteAt_0 rfl (lv_at hl 1 rfl) ?_
  refine lv_aload_n hx hb dX7_byteAt_1 rfl (lv_at hl 0 rfl) ?_
  refine va_get (D := D) (ci := 7) (v := .int (nI tn)) (C := RX7) (T := TX7) (N := 23) hx hb hts nX7_byteAt_0 hown hK.1 hP 0 rfl rfl 6 (by decide) (hts _ mX7_byteAt_1) (fun _ h9 => h9) rfl dX7_byteAt_2 ?_
  refine q_icmp_ge (tgt := 17) hx hb dX7_byteAt_5 (by decide) (by omega) (by omega) (fun c1 => ?_) (fun c1 => ?_)
  · refine lv_iconst (v := (-1)) hx hb dX7_byteAt_17 (by decide) ?_
    exact q_iret (v := (-1)) hx hb hr hlocks dX7_byteAt_18 (Or.inr ⟨by omega, rfl⟩)
  · refine lv_aload_n hx hb dX7_byteAt_8 rfl (lv_at hl 0 rfl) ?_
    refine va_get (D := D) (ci := 7) (v := .ref mt) (C := RX7) (T := TX7) (N := 23) hx hb hts nX7_byteAt_0 hown hK.1 hP 0 rfl rfl 5 (by decide) (hts _ mX7_byteAt_2) (fun _ h9 => h9) rfl dX7_byteAt_9 ?_
    refine lv_iload_n hx hb dX7_byteAt_12 rfl (lv_at hl 1 rfl) ?_
    refine q_iald (j := p) (v := nI (tp p)) hx hb hK hP 1 rfl (by omega) (by decide) (tpIs_0 htp (by omega)) dX7_byteAt_13 ?_
    refine lv_goto (tgt := 18) hx hb dX7_byteAt_14 (by decide) ?_
    exact q_iret (v := nI (tp p)) hx hb hr hlocks dX7_byteAt_18 (Or.inl ⟨by omega, rfl⟩)
theorem nX7_advances_0 : ∀ w ∈ wsX70, w ∈ wsX7_advances := by decide +kernel
theorem mX7_advances_1 : Cond.fieldLink RX7 86 "ClueLeaveModel" "at" "I" ∈ wsX7_advances := by decide +kernel
theorem mX7_advances_2 : Cond.fieldLink RX7 89 "ClueLeaveModel" "start" "I" ∈ wsX7_advances := by decide +kernel
theorem mX7_advances_3 : Cond.fieldLink RX7 95 "ClueLeaveModel" "value" "I" ∈ wsX7_advances := by decide +kernel
theorem mX7_advances_4 : Cond.fieldLink RX7 98 "ClueLeaveModel" "token" "I" ∈ wsX7_advances := by decide +kernel
set_option maxHeartbeats 4000000 in
set_option maxRecDepth 100000 in
theorem c_X7_advances (l : Launch) (D : va_G) (cy : Nat → ClassId) (m0 ml mm mit ms mt nw dr tr pa ig kx be tc : Nat) (st fk fp av sv ov vv : Int32) (tn ac td : Nat) (ft : Nat → Int32) (tp : Nat → Nat) (htn : tn ≤ 100) (htp : tpIs tn tp ft) (p : Nat) (hp : p ≤ tn) : q_Wv l yX7_advances wsX7_advances 2 D cy [(m0, .inr (7, [.ref ml, .ref mm, .ref mit, .ref ms, .int (st), .ref mt, .int (nI tn), .int (fk), .int (fp), .int (nI p), .int (sv), .int (ov), .int (vv), .ref nw, .ref dr, .ref tr, .ref pa, .int (nI ac), .ref ig, .ref kx, .ref be, .ref tc, .int (nI td)])), (mt, .inl (cy 0, 100, .inl ft))] [.ref m0] (fun u => u = [(m0, .inr (7, [.ref ml, .ref mm, .ref mit, .ref ms, .int (st), .ref mt, .int (nI tn), .int (fk), .int (fp), .int (nI (tkE tp tn p)), .int (nI p), .int (nI (tkK tp tn p)), .int (tkV tp tn p), .ref nw, .ref dr, .ref tr, .ref pa, .int (nI ac), .ref ig, .ref kx, .ref be, .ref tc, .int (nI td)])), (mt, .inl (cy 0, 100, .inl ft))]) := by
  refine q_wv_of (cc := cX7_advances) (maxL := 2) (ret := none) (by decide) rfl (Nat.le_of_ble_eq_true rfl) ?_
  intro pg en s mi args below meth cd A hC hA hK H locs hP hD hS ls hl
  obtain ⟨hx, hb, hr, hml, hown, hts, hlocks⟩ := hC
  have hl : lv_has ls 2 [(0, .ref m0)] := hl
  refine lv_aload_n hx hb dX7_advances_0 rfl (lv_at hl 0 rfl) ?_
  refine lv_aload_n hx hb dX7_advances_1 rfl (lv_at hl 0 rfl) ?_
  refine va_get (D := D) (ci := 7) (v := .int (nI p)) (C := RX7) (T := TX7) (N := 23) hx hb hts nX7_advances_0 hown hK.1 hP 0 rfl rfl 9 (by decide) (hts _ mX7_advances_1) (fun _ h9 => h9) rfl dX7_advances_2 ?_
  refine va_put (D := D) (ci := 7) (v := .int (nI p)) (ty := .int) (C := RX7) (T := TX7) (N := 23) hx hb hts nX7_advances_0 tyX7 tyX7_ok nmX7 hown hK.1 hP hD hS 0 rfl rfl 10 (by decide) (hts _ mX7_advances_2) (fun _ h9 => h9) rfl (by decide +kernel) rfl rfl (Nat.le_of_ble_eq_true rfl) dX7_advances_5 (fun H locs hP hD hS => ?_)
  have hP : va_P D vwCl [(m0, .inr (7, [.ref ml, .ref mm, .ref mit, .ref ms, .int (st), .ref mt, .int (nI tn), .int (fk), .int (fp), .int (nI p), .int (nI p), .int (ov), .int (vv), .ref nw, .ref dr, .ref tr, .ref pa, .int (nI ac), .ref ig, .ref kx, .ref be, .ref tc, .int (nI td)])), (mt, .inl (cy 0, 100, .inl ft))] H := hP
  have hD : va_D A [(m0, .inr (7, [.ref ml, .ref mm, .ref mit, .ref ms, .int (st), .ref mt, .int (nI tn), .int (fk), .int (fp), .int (nI p), .int (nI p), .int (ov), .int (vv), .ref nw, .ref dr, .ref tr, .ref pa, .int (nI ac), .ref ig, .ref kx, .ref be, .ref tc, .int (nI td)])), (mt, .inl (cy 0, 100, .inl ft))] := hD
  refine lv_aload_n hx hb dX7_advances_8 rfl (lv_at hl 0 rfl) ?_
  refine lv_aload_n hx hb dX7_advances_9 rfl (lv_at hl 0 rfl) ?_
  refine va_get (D := D) (ci := 7) (v := .int (nI p)) (C := RX7) (T := TX7) (N := 23) hx hb hts nX7_advances_0 hown hK.1 hP 0 rfl rfl 9 (by decide) (hts _ mX7_advances_1) (fun _ h9 => h9) rfl dX7_advances_10 ?_
  refine q_rV (As := [.int (nI p)]) (rest := []) ⟨hx, hb, hml, hown, hts⟩ (c_X7_byteAt l D cy m0 ml mm mit ms mt nw dr tr pa ig kx be tc st fk fp (nI p) (nI p) ov vv tn ac td ft tp htn htp p (by omega)) (cwV 1 hts gX7_advances_X7_byteAt rfl rfl rfl (by decide +kernel) ⟨Nat.le_of_ble_eq_true rfl, Nat.le_of_ble_eq_true rfl⟩) hP hK [0, 1] rfl 0 rfl rfl rfl rfl hl.1 rfl (Nat.le_of_ble_eq_true rfl) dX7_advances_13 ⟨Nat.zero_le _, Nat.zero_le _⟩ (fun r1 hr1 => ?_)
  rcases hr1 with ⟨y2, rfl⟩ | ⟨y2, rfl⟩
  · have y22 := (htp _ y2).2
    refine lv_istore_n (lv' := [(1, .int (nI (tp p))), (0, .ref m0)]) hx hb dX7_advances_16 rfl hl (by decide) rfl (fun ls hl => ?_)
    refine lv_aload_n hx hb dX7_advances_17 rfl (lv_at hl 1 rfl) ?_
    refine lv_iload_n hx hb dX7_advances_18 rfl (lv_at hl 0 rfl) ?_
    refine va_put (D := D) (ci := 7) (v := .int (nI (tp p))) (ty := .int) (C := RX7) (T := TX7) (N := 23) hx hb hts nX7_advances_0 tyX7 tyX7_ok nmX7 hown hK.1 hP hD hS 0 rfl rfl 12 (by decide) (hts _ mX7_advances_3) (fun _ h9 => h9) rfl (by decide +kernel) rfl rfl (Nat.le_of_ble_eq_true rfl) dX7_advances_19 (fun H locs hP hD hS => ?_)
    have hP : va_P D vwCl [(m0, .inr (7, [.ref ml, .ref mm, .ref mit, .ref ms, .int (st), .ref mt, .int (nI tn), .int (fk), .int (fp), .int (nI p), .int (nI p), .int (ov), .int (nI (tp p)), .ref nw, .ref dr, .ref tr, .ref pa, .int (nI ac), .ref ig, .ref kx, .ref be, .ref tc, .int (nI td)])), (mt, .inl (cy 0, 100, .inl ft))] H := hP
    have hD : va_D A [(m0, .inr (7, [.ref ml, .ref mm, .ref mit, .ref ms, .int (st), .ref mt, .int (nI tn), .int (fk), .int (fp), .int (nI p), .int (nI p), .int (ov), .int (nI (tp p)), .ref nw, .ref dr, .ref tr, .ref pa, .int (nI ac), .ref ig, .ref kx, .ref be, .ref tc, .int (nI td)])), (mt, .inl (cy 0, 100, .inl ft))] := hD
    refine lv_iload_n hx hb dX7_advances_22 rfl (lv_at hl 0 rfl) ?_
    refine lv_bipush (v := nI 48) hx hb dX7_advances_23 (by decide) ?_
    refine lv_bipush (v := nI 57) hx hb dX7_advances_25 (by decide) ?_
    refine q_rS (As := [.int (nI (tp p)), .int (nI 48), .int (nI 57)]) (rest := []) ⟨hx, hb, hml, hown, hts⟩ (c_X7_in l D cy (nI (tp p)) (nI 48) (nI 57)) (va_cwS 3 hts gX7_advances_X7_in rfl rfl rfl (by decide +kernel) ⟨Nat.le_of_ble_eq_true rfl, Nat.le_of_ble_eq_true rfl⟩) hP hK [] rfl rfl hl.1 rfl (Nat.le_of_ble_eq_true rfl) dX7_advances_27 ⟨Nat.zero_le _, Nat.zero_le _⟩ (fun r3 hr3 => ?_)
    rcases hr3 with ⟨rfl, b4⟩ | ⟨rfl, b4⟩
    · have _ := b4
      refine lv_if_eq (tgt := 135) hx hb dX7_advances_30 (by decide) (fun c9 => absurd c9 (by decide)) (fun _ => ?_)
      refine lv_aload_n hx hb dX7_advances_33 rfl (lv_at hl 1 rfl) ?_
      refine lv_iconst (v := nI 0) hx hb dX7_advances_34 (by decide) ?_
      refine va_put (D := D) (ci := 7) (v := .int (nI 0)) (ty := .int) (C := RX7) (T := TX7) (N := 23) hx hb hts nX7_advances_0 tyX7 tyX7_ok nmX7 hown hK.1 hP hD hS 0 rfl rfl 12 (by decide) (hts _ mX7_advances_3) (fun _ h9 => h9) rfl (by decide +kernel) rfl rfl (Nat.le_of_ble_eq_true rfl) dX7_advances_35 (fun H locs hP hD hS => ?_)
      have hP : va_P D vwCl [(m0, .inr (7, [.ref ml, .ref mm, .ref mit, .ref ms, .int (st), .ref mt, .int (nI tn), .int (fk), .int (fp), .int (nI p), .int (nI p), .int (ov), .int (nI 0), .ref nw, .ref dr, .ref tr, .ref pa, .int (nI ac), .ref ig, .ref kx, .ref be, .ref tc, .int (nI td)])), (mt, .inl (cy 0, 100, .inl ft))] H := hP
      have hD : va_D A [(m0, .inr (7, [.ref ml, .ref mm, .ref mit, .ref ms, .int (st), .ref mt, .int (nI tn), .int (fk), .int (fp), .int (nI p), .int (nI p), .int (ov), .int (nI 0), .ref nw, .ref dr, .ref tr, .ref pa, .int (nI ac), .ref ig, .ref kx, .ref be, .ref tc, .int (nI td)])), (mt, .inl (cy 0, 100, .inl ft))] := hD
      have hd0 := tkDig_yes y2 b4 y22
      have L38_33 : ∀ (fu j : Nat), j ≤ (tn - p) → (tn - p) < j + fu → (∀ i, i < j → tkDig tp tn (p + i) = true) → ∀ (H : Heap) (locs : List Loc), va_P D vwCl [(m0, .inr (7, [.ref ml, .ref mm, .ref mit, .ref ms, .int (st), .ref mt, .int (nI tn), .int (fk), .int (fp), .int (nI (p + j)), .int (nI p), .int (ov), .int (tvJ tp p j), .ref nw, .ref dr, .ref tr, .ref pa, .int (nI ac), .ref ig, .ref kx, .ref be, .ref tc, .int (nI td)])), (mt, .inl (cy 0, 100, .inl ft))] H → va_D A [(m0, .inr (7, [.ref ml, .ref mm, .ref mit, .ref ms, .int (st), .ref mt, .int (nI tn), .int (fk), .int (fp), .int (nI (p + j)), .int (nI p), .int (ov), .int (tvJ tp p j), .ref nw, .ref dr, .ref tr, .ref pa, .int (nI ac), .ref ig, .ref kx, .ref be, .ref tc, .int (nI td)])), (mt, .inl (cy 0, 100, .inl ft))] → va_S A s.heap H locs → ∀ ls : Array Slot, lv_has ls 2 [(0, .ref m0), (1, .int (nI (tp p)))] → W pg l en (q_rm 2) s mi args below meth cd H locs 0 0 (MQ below (va_Qv (fun u => u = [(m0, .inr (7, [.ref ml, .ref mm, .ref mit, .ref ms, .int (st), .ref mt, .int (nI tn), .int (fk), .int (fp), .int (nI (tkE tp tn p)), .int (nI p), .int (nI (tkK tp tn p)), .int (tkV tp tn p), .ref nw, .ref dr, .ref tr, .ref pa, .int (nI ac), .ref ig, .ref kx, .ref be, .ref tc, .int (nI td)])), (mt, .inl (cy 0, 100, .inl ft))]) (fun (u : va_W) t => va_P D vwCl u t.heap ∧ va_D A u) A) args s 0 0 A) (F0 mi 38 ls []) := by
        intro fu
        induction fu with
        | zero =>
          intro j h1 h2
          exact absurd h2 (by omega)
        | succ fu ih38 =>
          intro j h1_38 h2_38 hf38_0 H locs hP hD hS ls hl
          refine lv_aload_n hx hb dX7_advances_38 rfl (lv_at hl 0 rfl) ?_
          refine lv_aload_n hx hb dX7_advances_39 rfl (lv_at hl 0 rfl) ?_
          refine va_get (D := D) (ci := 7) (v := .int (nI (p + j))) (C := RX7) (T := TX7) (N := 23) hx hb hts nX7_advances_0 hown hK.1 hP 0 rfl rfl 9 (by decide) (hts _ mX7_advances_1) (fun _ h9 => h9) rfl dX7_advances_40 ?_
          refine q_rV (As := [.int (nI (p + j))]) (rest := []) ⟨hx, hb, hml, hown, hts⟩ (c_X7_byteAt l D cy m0 ml mm mit ms mt nw dr tr pa ig kx be tc st fk fp (nI (p + j)) (nI p) ov (tvJ tp p j) tn ac td ft tp htn htp (p + j) (by omega)) (cwV 1 hts gX7_advances_X7_byteAt rfl rfl rfl (by decide +kernel) ⟨Nat.le_of_ble_eq_true rfl, Nat.le_of_ble_eq_true rfl⟩) hP hK [0, 1] rfl 0 rfl rfl rfl rfl hl.1 rfl (Nat.le_of_ble_eq_true rfl) dX7_advances_43 ⟨Nat.zero_le _, Nat.zero_le _⟩ (fun r5 hr5 => ?_)
          rcases hr5 with ⟨y6, rfl⟩ | ⟨y6, rfl⟩
          · have y62 := (htp _ y6).2
            refine lv_bipush (v := nI 48) hx hb dX7_advances_46 (by decide) ?_
            refine lv_bipush (v := nI 57) hx hb dX7_advances_48 (by decide) ?_
            refine q_rS (As := [.int (nI (tp (p + j))), .int (nI 48), .int (nI 57)]) (rest := []) ⟨hx, hb, hml, hown, hts⟩ (c_X7_in l D cy (nI (tp (p + j))) (nI 48) (nI 57)) (va_cwS 3 hts gX7_advances_X7_in rfl rfl rfl (by decide +kernel) ⟨Nat.le_of_ble_eq_true rfl, Nat.le_of_ble_eq_true rfl⟩) hP hK [] rfl rfl hl.1 rfl (Nat.le_of_ble_eq_true rfl) dX7_advances_50 ⟨Nat.zero_le _, Nat.zero_le _⟩ (fun r7 hr7 => ?_)
            rcases hr7 with ⟨rfl, b8⟩ | ⟨rfl, b8⟩
            · have _ := b8
              have hdj := tkDig_yes y6 b8 y62
              have hdr := tkDig_r hdj
              refine lv_if_eq (tgt := 112) hx hb dX7_advances_53 (by decide) (fun c9 => absurd c9 (by decide)) (fun _ => ?_)
              refine lv_aload_n hx hb dX7_advances_56 rfl (lv_at hl 0 rfl) ?_
              refine lv_aload_n hx hb dX7_advances_57 rfl (lv_at hl 0 rfl) ?_
              refine va_get (D := D) (ci := 7) (v := .int (nI (p + j))) (C := RX7) (T := TX7) (N := 23) hx hb hts nX7_advances_0 hown hK.1 hP 0 rfl rfl 9 (by decide) (hts _ mX7_advances_1) (fun _ h9 => h9) rfl dX7_advances_58 ?_
              refine lv_aload_n hx hb dX7_advances_61 rfl (lv_at hl 0 rfl) ?_
              refine va_get (D := D) (ci := 7) (v := .int (nI p)) (C := RX7) (T := TX7) (N := 23) hx hb hts nX7_advances_0 hown hK.1 hP 0 rfl rfl 10 (by decide) (hts _ mX7_advances_2) (fun _ h9 => h9) rfl dX7_advances_62 ?_
              refine lv_isub hx hb dX7_advances_65 ?_
              refine q_top (y := nI ((p + j) - p)) (pk_sub (by omega)) ?_
              refine lv_iconst (v := nI 2) hx hb dX7_advances_66 (by decide) ?_
              refine q_icmp_ge (tgt := 92) hx hb dX7_advances_67 (by decide) (by omega) (by decide) (fun c9 => ?_) (fun c9 => ?_)
              · refine lv_aload_n hx hb dX7_advances_92 rfl (lv_at hl 0 rfl) ?_
                refine va_get (D := D) (ci := 7) (v := .int (tvJ tp p j)) (C := RX7) (T := TX7) (N := 23) hx hb hts nX7_advances_0 hown hK.1 hP 0 rfl rfl 12 (by decide) (hts _ mX7_advances_3) (fun _ h9 => h9) rfl dX7_advances_93 ?_
                refine q_top (y := tvJ tp p (j + 1)) ((tvJ_2 (by omega)).symm) ?_
                refine va_put (D := D) (ci := 7) (v := .int (tvJ tp p (j + 1))) (ty := .int) (C := RX7) (T := TX7) (N := 23) hx hb hts nX7_advances_0 tyX7 tyX7_ok nmX7 hown hK.1 hP hD hS 0 rfl rfl 12 (by decide) (hts _ mX7_advances_3) (fun _ h9 => h9) rfl (by decide +kernel) rfl rfl (Nat.le_of_ble_eq_true rfl) dX7_advances_96 (fun H locs hP hD hS => ?_)
                have hP : va_P D vwCl [(m0, .inr (7, [.ref ml, .ref mm, .ref mit, .ref ms, .int (st), .ref mt, .int (nI tn), .int (fk), .int (fp), .int (nI (p + j)), .int (nI p), .int (ov), .int (tvJ tp p (j + 1)), .ref nw, .ref dr, .ref tr, .ref pa, .int (nI ac), .ref ig, .ref kx, .ref be, .ref tc, .int (nI td)])), (mt, .inl (cy 0, 100, .inl ft))] H := hP
                have hD : va_D A [(m0, .inr (7, [.ref ml, .ref mm, .ref mit, .ref ms, .int (st), .ref mt, .int (nI tn), .int (fk), .int (fp), .int (nI (p + j)), .int (nI p), .int (ov), .int (tvJ tp p (j + 1)), .ref nw, .ref dr, .ref tr, .ref pa, .int (nI ac), .ref ig, .ref kx, .ref be, .ref tc, .int (nI td)])), (mt, .inl (cy 0, 100, .inl ft))] := hD
                refine lv_aload_n hx hb dX7_advances_99 rfl (lv_at hl 0 rfl) ?_
                refine lv_dup hx hb dX7_advances_100 rfl ?_
                refine va_get (D := D) (ci := 7) (v := .int (nI (p + j))) (C := RX7) (T := TX7) (N := 23) hx hb hts nX7_advances_0 hown hK.1 hP 0 rfl rfl 9 (by decide) (hts _ mX7_advances_1) (fun _ h9 => h9) rfl dX7_advances_101 ?_
                refine lv_iconst (v := nI 1) hx hb dX7_advances_104 (by decide) ?_
                refine lv_iadd hx hb dX7_advances_105 ?_
                refine q_top (y := nI ((p + j) + 1)) (nI_add _ _) ?_
                refine va_put (D := D) (ci := 7) (v := .int (nI ((p + j) + 1))) (ty := .int) (C := RX7) (T := TX7) (N := 23) hx hb hts nX7_advances_0 tyX7 tyX7_ok nmX7 hown hK.1 hP hD hS 0 rfl rfl 9 (by decide) (hts _ mX7_advances_1) (fun _ h9 => h9) rfl (by decide +kernel) rfl rfl (Nat.le_of_ble_eq_true rfl) dX7_advances_106 (fun H locs hP hD hS => ?_)
                have hP : va_P D vwCl [(m0, .inr (7, [.ref ml, .ref mm, .ref mit, .ref ms, .int (st), .ref mt, .int (nI tn), .int (fk), .int (fp), .int (nI ((p + j) + 1)), .int (nI p), .int (ov), .int (tvJ tp p (j + 1)), .ref nw, .ref dr, .ref tr, .ref pa, .int (nI ac), .ref ig, .ref kx, .ref be, .ref tc, .int (nI td)])), (mt, .inl (cy 0, 100, .inl ft))] H := hP
                have hD : va_D A [(m0, .inr (7, [.ref ml, .ref mm, .ref mit, .ref ms, .int (st), .ref mt, .int (nI tn), .int (fk), .int (fp), .int (nI ((p + j) + 1)), .int (nI p), .int (ov), .int (tvJ tp p (j + 1)), .ref nw, .ref dr, .ref tr, .ref pa, .int (nI ac), .ref ig, .ref kx, .ref be, .ref tc, .int (nI td)])), (mt, .inl (cy 0, 100, .inl ft))] := hD
                refine lv_goto (tgt := 38) hx hb dX7_advances_109 (by decide) ?_
                have hP := q_Pc (w1 := [(m0, .inr (7, [.ref ml, .ref mm, .ref mit, .ref ms, .int (st), .ref mt, .int (nI tn), .int (fk), .int (fp), .int (nI ((p + j) + 1)), .int (nI p), .int (ov), .int (tvJ tp p (j + 1)), .ref nw, .ref dr, .ref tr, .ref pa, .int (nI ac), .ref ig, .ref kx, .ref be, .ref tc, .int (nI td)])), (mt, .inl (cy 0, 100, .inl ft))]) (w2 := [(m0, .inr (7, [.ref ml, .ref mm, .ref mit, .ref ms, .int (st), .ref mt, .int (nI tn), .int (fk), .int (fp), .int (nI (p + (j + 1))), .int (nI p), .int (ov), .int (tvJ tp p (j + 1)), .ref nw, .ref dr, .ref tr, .ref pa, .int (nI ac), .ref ig, .ref kx, .ref be, .ref tc, .int (nI td)])), (mt, .inl (cy 0, 100, .inl ft))]) (q_c1 (f := fun z0 => ([(m0, .inr (7, [.ref ml, .ref mm, .ref mit, .ref ms, .int (st), .ref mt, .int (nI tn), .int (fk), .int (fp), .int (z0), .int (nI p), .int (ov), .int (tvJ tp p (j + 1)), .ref nw, .ref dr, .ref tr, .ref pa, .int (nI ac), .ref ig, .ref kx, .ref be, .ref tc, .int (nI td)])), (mt, .inl (cy 0, 100, .inl ft))] : va_W)) (show (nI ((p + j) + 1) : Int32) = nI (p + (j + 1)) from by rw [Nat.add_assoc])) hP
                have hD := q_Dc (w1 := [(m0, .inr (7, [.ref ml, .ref mm, .ref mit, .ref ms, .int (st), .ref mt, .int (nI tn), .int (fk), .int (fp), .int (nI ((p + j) + 1)), .int (nI p), .int (ov), .int (tvJ tp p (j + 1)), .ref nw, .ref dr, .ref tr, .ref pa, .int (nI ac), .ref ig, .ref kx, .ref be, .ref tc, .int (nI td)])), (mt, .inl (cy 0, 100, .inl ft))]) (w2 := [(m0, .inr (7, [.ref ml, .ref mm, .ref mit, .ref ms, .int (st), .ref mt, .int (nI tn), .int (fk), .int (fp), .int (nI (p + (j + 1))), .int (nI p), .int (ov), .int (tvJ tp p (j + 1)), .ref nw, .ref dr, .ref tr, .ref pa, .int (nI ac), .ref ig, .ref kx, .ref be, .ref tc, .int (nI td)])), (mt, .inl (cy 0, 100, .inl ft))]) (q_c1 (f := fun z0 => ([(m0, .inr (7, [.ref ml, .ref mm, .ref mit, .ref ms, .int (st), .ref mt, .int (nI tn), .int (fk), .int (fp), .int (z0), .int (nI p), .int (ov), .int (tvJ tp p (j + 1)), .ref nw, .ref dr, .ref tr, .ref pa, .int (nI ac), .ref ig, .ref kx, .ref be, .ref tc, .int (nI td)])), (mt, .inl (cy 0, 100, .inl ft))] : va_W)) (show (nI ((p + j) + 1) : Int32) = nI (p + (j + 1)) from by rw [Nat.add_assoc])) hD
                exact ih38 (j + 1) (by omega) (by omega) (q_allS hf38_0 hdj) H locs hP hD hS ls (lv_sub (l' := [(0, .ref m0), (1, .int (nI (tp p)))]) hl [0, 1] rfl)
              · refine lv_bipush (v := nI 10) hx hb dX7_advances_70 (by decide) ?_
                refine lv_aload_n hx hb dX7_advances_72 rfl (lv_at hl 0 rfl) ?_
                refine va_get (D := D) (ci := 7) (v := .int (tvJ tp p j)) (C := RX7) (T := TX7) (N := 23) hx hb hts nX7_advances_0 hown hK.1 hP 0 rfl rfl 12 (by decide) (hts _ mX7_advances_3) (fun _ h9 => h9) rfl dX7_advances_73 ?_
                refine lv_imul hx hb dX7_advances_76 ?_
                refine lv_aload_n hx hb dX7_advances_77 rfl (lv_at hl 0 rfl) ?_
                refine lv_aload_n hx hb dX7_advances_78 rfl (lv_at hl 0 rfl) ?_
                refine va_get (D := D) (ci := 7) (v := .int (nI (p + j))) (C := RX7) (T := TX7) (N := 23) hx hb hts nX7_advances_0 hown hK.1 hP 0 rfl rfl 9 (by decide) (hts _ mX7_advances_1) (fun _ h9 => h9) rfl dX7_advances_79 ?_
                refine q_rV (As := [.int (nI (p + j))]) (rest := [.int ((nI 10) * (tvJ tp p j)), .ref m0]) ⟨hx, hb, hml, hown, hts⟩ (c_X7_byteAt l D cy m0 ml mm mit ms mt nw dr tr pa ig kx be tc st fk fp (nI (p + j)) (nI p) ov (tvJ tp p j) tn ac td ft tp htn htp (p + j) (by omega)) (cwV 1 hts gX7_advances_X7_byteAt rfl rfl rfl (by decide +kernel) ⟨Nat.le_of_ble_eq_true rfl, Nat.le_of_ble_eq_true rfl⟩) hP hK [0, 1] rfl 0 rfl rfl rfl rfl hl.1 rfl (Nat.le_of_ble_eq_true rfl) dX7_advances_82 ⟨Nat.zero_le _, Nat.zero_le _⟩ (fun r10 hr10 => ?_)
                rcases hr10 with ⟨y11, rfl⟩ | ⟨y11, rfl⟩
                · have y112 := (htp _ y11).2
                  refine lv_iadd hx hb dX7_advances_85 ?_
                  refine lv_bipush (v := nI 48) hx hb dX7_advances_86 (by decide) ?_
                  refine lv_isub hx hb dX7_advances_88 ?_
                  refine lv_goto (tgt := 96) hx hb dX7_advances_89 (by decide) ?_
                  refine q_top (y := tvJ tp p (j + 1)) (tvJ_s (tp := tp) (p := p) (j := j) (by omega) hdr (fun i hi => tkDig_r (hf38_0 i hi))) ?_
                  refine va_put (D := D) (ci := 7) (v := .int (tvJ tp p (j + 1))) (ty := .int) (C := RX7) (T := TX7) (N := 23) hx hb hts nX7_advances_0 tyX7 tyX7_ok nmX7 hown hK.1 hP hD hS 0 rfl rfl 12 (by decide) (hts _ mX7_advances_3) (fun _ h9 => h9) rfl (by decide +kernel) rfl rfl (Nat.le_of_ble_eq_true rfl) dX7_advances_96 (fun H locs hP hD hS => ?_)
                  have hP : va_P D vwCl [(m0, .inr (7, [.ref ml, .ref mm, .ref mit, .ref ms, .int (st), .ref mt, .int (nI tn), .int (fk), .int (fp), .int (nI (p + j)), .int (nI p), .int (ov), .int (tvJ tp p (j + 1)), .ref nw, .ref dr, .ref tr, .ref pa, .int (nI ac), .ref ig, .ref kx, .ref be, .ref tc, .int (nI td)])), (mt, .inl (cy 0, 100, .inl ft))] H := hP
                  have hD : va_D A [(m0, .inr (7, [.ref ml, .ref mm, .ref mit, .ref ms, .int (st), .ref mt, .int (nI tn), .int (fk), .int (fp), .int (nI (p + j)), .int (nI p), .int (ov), .int (tvJ tp p (j + 1)), .ref nw, .ref dr, .ref tr, .ref pa, .int (nI ac), .ref ig, .ref kx, .ref be, .ref tc, .int (nI td)])), (mt, .inl (cy 0, 100, .inl ft))] := hD
                  refine lv_aload_n hx hb dX7_advances_99 rfl (lv_at hl 0 rfl) ?_
                  refine lv_dup hx hb dX7_advances_100 rfl ?_
                  refine va_get (D := D) (ci := 7) (v := .int (nI (p + j))) (C := RX7) (T := TX7) (N := 23) hx hb hts nX7_advances_0 hown hK.1 hP 0 rfl rfl 9 (by decide) (hts _ mX7_advances_1) (fun _ h9 => h9) rfl dX7_advances_101 ?_
                  refine lv_iconst (v := nI 1) hx hb dX7_advances_104 (by decide) ?_
                  refine lv_iadd hx hb dX7_advances_105 ?_
                  refine q_top (y := nI ((p + j) + 1)) (nI_add _ _) ?_
                  refine va_put (D := D) (ci := 7) (v := .int (nI ((p + j) + 1))) (ty := .int) (C := RX7) (T := TX7) (N := 23) hx hb hts nX7_advances_0 tyX7 tyX7_ok nmX7 hown hK.1 hP hD hS 0 rfl rfl 9 (by decide) (hts _ mX7_advances_1) (fun _ h9 => h9) rfl (by decide +kernel) rfl rfl (Nat.le_of_ble_eq_true rfl) dX7_advances_106 (fun H locs hP hD hS => ?_)
                  have hP : va_P D vwCl [(m0, .inr (7, [.ref ml, .ref mm, .ref mit, .ref ms, .int (st), .ref mt, .int (nI tn), .int (fk), .int (fp), .int (nI ((p + j) + 1)), .int (nI p), .int (ov), .int (tvJ tp p (j + 1)), .ref nw, .ref dr, .ref tr, .ref pa, .int (nI ac), .ref ig, .ref kx, .ref be, .ref tc, .int (nI td)])), (mt, .inl (cy 0, 100, .inl ft))] H := hP
                  have hD : va_D A [(m0, .inr (7, [.ref ml, .ref mm, .ref mit, .ref ms, .int (st), .ref mt, .int (nI tn), .int (fk), .int (fp), .int (nI ((p + j) + 1)), .int (nI p), .int (ov), .int (tvJ tp p (j + 1)), .ref nw, .ref dr, .ref tr, .ref pa, .int (nI ac), .ref ig, .ref kx, .ref be, .ref tc, .int (nI td)])), (mt, .inl (cy 0, 100, .inl ft))] := hD
                  refine lv_goto (tgt := 38) hx hb dX7_advances_109 (by decide) ?_
                  have hP := q_Pc (w1 := [(m0, .inr (7, [.ref ml, .ref mm, .ref mit, .ref ms, .int (st), .ref mt, .int (nI tn), .int (fk), .int (fp), .int (nI ((p + j) + 1)), .int (nI p), .int (ov), .int (tvJ tp p (j + 1)), .ref nw, .ref dr, .ref tr, .ref pa, .int (nI ac), .ref ig, .ref kx, .ref be, .ref tc, .int (nI td)])), (mt, .inl (cy 0, 100, .inl ft))]) (w2 := [(m0, .inr (7, [.ref ml, .ref mm, .ref mit, .ref ms, .int (st), .ref mt, .int (nI tn), .int (fk), .int (fp), .int (nI (p + (j + 1))), .int (nI p), .int (ov), .int (tvJ tp p (j + 1)), .ref nw, .ref dr, .ref tr, .ref pa, .int (nI ac), .ref ig, .ref kx, .ref be, .ref tc, .int (nI td)])), (mt, .inl (cy 0, 100, .inl ft))]) (q_c1 (f := fun z0 => ([(m0, .inr (7, [.ref ml, .ref mm, .ref mit, .ref ms, .int (st), .ref mt, .int (nI tn), .int (fk), .int (fp), .int (z0), .int (nI p), .int (ov), .int (tvJ tp p (j + 1)), .ref nw, .ref dr, .ref tr, .ref pa, .int (nI ac), .ref ig, .ref kx, .ref be, .ref tc, .int (nI td)])), (mt, .inl (cy 0, 100, .inl ft))] : va_W)) (show (nI ((p + j) + 1) : Int32) = nI (p + (j + 1)) from by rw [Nat.add_assoc])) hP
                  have hD := q_Dc (w1 := [(m0, .inr (7, [.ref ml, .ref mm, .ref mit, .ref ms, .int (st), .ref mt, .int (nI tn), .int (fk), .int (fp), .int (nI ((p + j) + 1)), .int (nI p), .int (ov), .int (tvJ tp p (j + 1)), .ref nw, .ref dr, .ref tr, .ref pa, .int (nI ac), .ref ig, .ref kx, .ref be, .ref tc, .int (nI td)])), (mt, .inl (cy 0, 100, .inl ft))]) (w2 := [(m0, .inr (7, [.ref ml, .ref mm, .ref mit, .ref ms, .int (st), .ref mt, .int (nI tn), .int (fk), .int (fp), .int (nI (p + (j + 1))), .int (nI p), .int (ov), .int (tvJ tp p (j + 1)), .ref nw, .ref dr, .ref tr, .ref pa, .int (nI ac), .ref ig, .ref kx, .ref be, .ref tc, .int (nI td)])), (mt, .inl (cy 0, 100, .inl ft))]) (q_c1 (f := fun z0 => ([(m0, .inr (7, [.ref ml, .ref mm, .ref mit, .ref ms, .int (st), .ref mt, .int (nI tn), .int (fk), .int (fp), .int (z0), .int (nI p), .int (ov), .int (tvJ tp p (j + 1)), .ref nw, .ref dr, .ref tr, .ref pa, .int (nI ac), .ref ig, .ref kx, .ref be, .ref tc, .int (nI td)])), (mt, .inl (cy 0, 100, .inl ft))] : va_W)) (show (nI ((p + j) + 1) : Int32) = nI (p + (j + 1)) from by rw [Nat.add_assoc])) hD
                  exact ih38 (j + 1) (by omega) (by omega) (q_allS hf38_0 hdj) H locs hP hD hS ls (lv_sub (l' := [(0, .ref m0), (1, .int (nI (tp p)))]) hl [0, 1] rfl)
                · exact absurd (tkDig_lt hdj) (by omega)
            · have _ := b8
              have hnd := tkDig_no (n := tn) b8 y62
              have hrun := tkRun_u (r := j) hf38_0 hnd
              have hj0 : 0 < j := Nat.pos_of_ne_zero (fun q => by subst q; exact hnd hd0)
              refine lv_if_eq (tgt := 112) hx hb dX7_advances_53 (by decide) (fun _ => ?_) (fun c9 => absurd (by decide) c9)
              refine lv_aload_n hx hb dX7_advances_112 rfl (lv_at hl 0 rfl) ?_
              refine lv_aload_n hx hb dX7_advances_113 rfl (lv_at hl 0 rfl) ?_
              refine va_get (D := D) (ci := 7) (v := .int (nI (p + j))) (C := RX7) (T := TX7) (N := 23) hx hb hts nX7_advances_0 hown hK.1 hP 0 rfl rfl 9 (by decide) (hts _ mX7_advances_1) (fun _ h9 => h9) rfl dX7_advances_114 ?_
              refine lv_aload_n hx hb dX7_advances_117 rfl (lv_at hl 0 rfl) ?_
              refine va_get (D := D) (ci := 7) (v := .int (nI p)) (C := RX7) (T := TX7) (N := 23) hx hb hts nX7_advances_0 hown hK.1 hP 0 rfl rfl 10 (by decide) (hts _ mX7_advances_2) (fun _ h9 => h9) rfl dX7_advances_118 ?_
              refine lv_isub hx hb dX7_advances_121 ?_
              refine q_top (y := nI ((p + j) - p)) (pk_sub (by omega)) ?_
              refine lv_iconst (v := nI 3) hx hb dX7_advances_122 (by decide) ?_
              refine q_icmp_ge (tgt := 130) hx hb dX7_advances_123 (by decide) (by omega) (by decide) (fun c12 => ?_) (fun c12 => ?_)
              · refine lv_iconst (v := nI 5) hx hb dX7_advances_130 (by decide) ?_
                refine va_put (D := D) (ci := 7) (v := .int (nI 5)) (ty := .int) (C := RX7) (T := TX7) (N := 23) hx hb hts nX7_advances_0 tyX7 tyX7_ok nmX7 hown hK.1 hP hD hS 0 rfl rfl 11 (by decide) (hts _ mX7_advances_4) (fun _ h9 => h9) rfl (by decide +kernel) rfl rfl (Nat.le_of_ble_eq_true rfl) dX7_advances_131 (fun H locs hP hD hS => ?_)
                have hP : va_P D vwCl [(m0, .inr (7, [.ref ml, .ref mm, .ref mit, .ref ms, .int (st), .ref mt, .int (nI tn), .int (fk), .int (fp), .int (nI (p + j)), .int (nI p), .int (nI 5), .int (tvJ tp p j), .ref nw, .ref dr, .ref tr, .ref pa, .int (nI ac), .ref ig, .ref kx, .ref be, .ref tc, .int (nI td)])), (mt, .inl (cy 0, 100, .inl ft))] H := hP
                have hD : va_D A [(m0, .inr (7, [.ref ml, .ref mm, .ref mit, .ref ms, .int (st), .ref mt, .int (nI tn), .int (fk), .int (fp), .int (nI (p + j)), .int (nI p), .int (nI 5), .int (tvJ tp p j), .ref nw, .ref dr, .ref tr, .ref pa, .int (nI ac), .ref ig, .ref kx, .ref be, .ref tc, .int (nI td)])), (mt, .inl (cy 0, 100, .inl ft))] := hD
                have hP9 := hP
                have hD9 := hD
                exact q_wvret hx hb hr hlocks dX7_advances_134 hP9 hD9 hS (by simp only [tkE_d hrun hj0 (by omega), tkK_ds hrun hj0 (by omega) (by omega), tkV_d hrun hj0 (by omega) htp])
              · refine lv_iconst (v := nI 2) hx hb dX7_advances_126 (by decide) ?_
                refine lv_goto (tgt := 131) hx hb dX7_advances_127 (by decide) ?_
                refine va_put (D := D) (ci := 7) (v := .int (nI 2)) (ty := .int) (C := RX7) (T := TX7) (N := 23) hx hb hts nX7_advances_0 tyX7 tyX7_ok nmX7 hown hK.1 hP hD hS 0 rfl rfl 11 (by decide) (hts _ mX7_advances_4) (fun _ h9 => h9) rfl (by decide +kernel) rfl rfl (Nat.le_of_ble_eq_true rfl) dX7_advances_131 (fun H locs hP hD hS => ?_)
                have hP : va_P D vwCl [(m0, .inr (7, [.ref ml, .ref mm, .ref mit, .ref ms, .int (st), .ref mt, .int (nI tn), .int (fk), .int (fp), .int (nI (p + j)), .int (nI p), .int (nI 2), .int (tvJ tp p j), .ref nw, .ref dr, .ref tr, .ref pa, .int (nI ac), .ref ig, .ref kx, .ref be, .ref tc, .int (nI td)])), (mt, .inl (cy 0, 100, .inl ft))] H := hP
                have hD : va_D A [(m0, .inr (7, [.ref ml, .ref mm, .ref mit, .ref ms, .int (st), .ref mt, .int (nI tn), .int (fk), .int (fp), .int (nI (p + j)), .int (nI p), .int (nI 2), .int (tvJ tp p j), .ref nw, .ref dr, .ref tr, .ref pa, .int (nI ac), .ref ig, .ref kx, .ref be, .ref tc, .int (nI td)])), (mt, .inl (cy 0, 100, .inl ft))] := hD
                have hP9 := hP
                have hD9 := hD
                exact q_wvret hx hb hr hlocks dX7_advances_134 hP9 hD9 hS (by simp only [tkE_d hrun hj0 (by omega), tkK_dn hrun hj0 (by omega) (by omega), tkV_d hrun hj0 (by omega) htp])
          · have _ := y6
            refine lv_bipush (v := nI 48) hx hb dX7_advances_46 (by decide) ?_
            refine lv_bipush (v := nI 57) hx hb dX7_advances_48 (by decide) ?_
            refine q_rS (As := [.int ((-1)), .int (nI 48), .int (nI 57)]) (rest := []) ⟨hx, hb, hml, hown, hts⟩ (c_X7_in l D cy (-1) (nI 48) (nI 57)) (va_cwS 3 hts gX7_advances_X7_in rfl rfl rfl (by decide +kernel) ⟨Nat.le_of_ble_eq_true rfl, Nat.le_of_ble_eq_true rfl⟩) hP hK [] rfl rfl hl.1 rfl (Nat.le_of_ble_eq_true rfl) dX7_advances_50 ⟨Nat.zero_le _, Nat.zero_le _⟩ (fun r13 hr13 => ?_)
            rcases hr13 with ⟨rfl, b14⟩ | ⟨rfl, b14⟩
            · exact absurd b14 (by decide)
            · have _ := b14
              have hnd := tkDig_end (tp := tp) (n := tn) (p := p + j) (by omega)
              have hrun := tkRun_u (r := j) hf38_0 hnd
              have hj0 : 0 < j := Nat.pos_of_ne_zero (fun q => by subst q; exact hnd hd0)
              refine lv_if_eq (tgt := 112) hx hb dX7_advances_53 (by decide) (fun _ => ?_) (fun c9 => absurd (by decide) c9)
              refine lv_aload_n hx hb dX7_advances_112 rfl (lv_at hl 0 rfl) ?_
              refine lv_aload_n hx hb dX7_advances_113 rfl (lv_at hl 0 rfl) ?_
              refine va_get (D := D) (ci := 7) (v := .int (nI (p + j))) (C := RX7) (T := TX7) (N := 23) hx hb hts nX7_advances_0 hown hK.1 hP 0 rfl rfl 9 (by decide) (hts _ mX7_advances_1) (fun _ h9 => h9) rfl dX7_advances_114 ?_
              refine lv_aload_n hx hb dX7_advances_117 rfl (lv_at hl 0 rfl) ?_
              refine va_get (D := D) (ci := 7) (v := .int (nI p)) (C := RX7) (T := TX7) (N := 23) hx hb hts nX7_advances_0 hown hK.1 hP 0 rfl rfl 10 (by decide) (hts _ mX7_advances_2) (fun _ h9 => h9) rfl dX7_advances_118 ?_
              refine lv_isub hx hb dX7_advances_121 ?_
              refine q_top (y := nI ((p + j) - p)) (pk_sub (by omega)) ?_
              refine lv_iconst (v := nI 3) hx hb dX7_advances_122 (by decide) ?_
              refine q_icmp_ge (tgt := 130) hx hb dX7_advances_123 (by decide) (by omega) (by decide) (fun c15 => ?_) (fun c15 => ?_)
              · refine lv_iconst (v := nI 5) hx hb dX7_advances_130 (by decide) ?_
                refine va_put (D := D) (ci := 7) (v := .int (nI 5)) (ty := .int) (C := RX7) (T := TX7) (N := 23) hx hb hts nX7_advances_0 tyX7 tyX7_ok nmX7 hown hK.1 hP hD hS 0 rfl rfl 11 (by decide) (hts _ mX7_advances_4) (fun _ h9 => h9) rfl (by decide +kernel) rfl rfl (Nat.le_of_ble_eq_true rfl) dX7_advances_131 (fun H locs hP hD hS => ?_)
                have hP : va_P D vwCl [(m0, .inr (7, [.ref ml, .ref mm, .ref mit, .ref ms, .int (st), .ref mt, .int (nI tn), .int (fk), .int (fp), .int (nI (p + j)), .int (nI p), .int (nI 5), .int (tvJ tp p j), .ref nw, .ref dr, .ref tr, .ref pa, .int (nI ac), .ref ig, .ref kx, .ref be, .ref tc, .int (nI td)])), (mt, .inl (cy 0, 100, .inl ft))] H := hP
                have hD : va_D A [(m0, .inr (7, [.ref ml, .ref mm, .ref mit, .ref ms, .int (st), .ref mt, .int (nI tn), .int (fk), .int (fp), .int (nI (p + j)), .int (nI p), .int (nI 5), .int (tvJ tp p j), .ref nw, .ref dr, .ref tr, .ref pa, .int (nI ac), .ref ig, .ref kx, .ref be, .ref tc, .int (nI td)])), (mt, .inl (cy 0, 100, .inl ft))] := hD
                have hP9 := hP
                have hD9 := hD
                exact q_wvret hx hb hr hlocks dX7_advances_134 hP9 hD9 hS (by simp only [tkE_d hrun hj0 (by omega), tkK_ds hrun hj0 (by omega) (by omega), tkV_d hrun hj0 (by omega) htp])
              · refine lv_iconst (v := nI 2) hx hb dX7_advances_126 (by decide) ?_
                refine lv_goto (tgt := 131) hx hb dX7_advances_127 (by decide) ?_
                refine va_put (D := D) (ci := 7) (v := .int (nI 2)) (ty := .int) (C := RX7) (T := TX7) (N := 23) hx hb hts nX7_advances_0 tyX7 tyX7_ok nmX7 hown hK.1 hP hD hS 0 rfl rfl 11 (by decide) (hts _ mX7_advances_4) (fun _ h9 => h9) rfl (by decide +kernel) rfl rfl (Nat.le_of_ble_eq_true rfl) dX7_advances_131 (fun H locs hP hD hS => ?_)
                have hP : va_P D vwCl [(m0, .inr (7, [.ref ml, .ref mm, .ref mit, .ref ms, .int (st), .ref mt, .int (nI tn), .int (fk), .int (fp), .int (nI (p + j)), .int (nI p), .int (nI 2), .int (tvJ tp p j), .ref nw, .ref dr, .ref tr, .ref pa, .int (nI ac), .ref ig, .ref kx, .ref be, .ref tc, .int (nI td)])), (mt, .inl (cy 0, 100, .inl ft))] H := hP
                have hD : va_D A [(m0, .inr (7, [.ref ml, .ref mm, .ref mit, .ref ms, .int (st), .ref mt, .int (nI tn), .int (fk), .int (fp), .int (nI (p + j)), .int (nI p), .int (nI 2), .int (tvJ tp p j), .ref nw, .ref dr, .ref tr, .ref pa, .int (nI ac), .ref ig, .ref kx, .ref be, .ref tc, .int (nI td)])), (mt, .inl (cy 0, 100, .inl ft))] := hD
                have hP9 := hP
                have hD9 := hD
                exact q_wvret hx hb hr hlocks dX7_advances_134 hP9 hD9 hS (by simp only [tkE_d hrun hj0 (by omega), tkK_dn hrun hj0 (by omega) (by omega), tkV_d hrun hj0 (by omega) htp])
      have hP := q_Pc (w1 := [(m0, .inr (7, [.ref ml, .ref mm, .ref mit, .ref ms, .int (st), .ref mt, .int (nI tn), .int (fk), .int (fp), .int (nI p), .int (nI p), .int (ov), .int (nI 0), .ref nw, .ref dr, .ref tr, .ref pa, .int (nI ac), .ref ig, .ref kx, .ref be, .ref tc, .int (nI td)])), (mt, .inl (cy 0, 100, .inl ft))]) (w2 := [(m0, .inr (7, [.ref ml, .ref mm, .ref mit, .ref ms, .int (st), .ref mt, .int (nI tn), .int (fk), .int (fp), .int (nI (p + 0)), .int (nI p), .int (ov), .int (tvJ tp p 0), .ref nw, .ref dr, .ref tr, .ref pa, .int (nI ac), .ref ig, .ref kx, .ref be, .ref tc, .int (nI td)])), (mt, .inl (cy 0, 100, .inl ft))]) (q_c2 (f := fun z0 z1 => ([(m0, .inr (7, [.ref ml, .ref mm, .ref mit, .ref ms, .int (st), .ref mt, .int (nI tn), .int (fk), .int (fp), .int (z0), .int (nI p), .int (ov), .int (z1), .ref nw, .ref dr, .ref tr, .ref pa, .int (nI ac), .ref ig, .ref kx, .ref be, .ref tc, .int (nI td)])), (mt, .inl (cy 0, 100, .inl ft))] : va_W)) (show (nI p : Int32) = nI (p + 0) from rfl) (show (nI 0 : Int32) = tvJ tp p 0 from (if_pos rfl).symm)) hP
      have hD := q_Dc (w1 := [(m0, .inr (7, [.ref ml, .ref mm, .ref mit, .ref ms, .int (st), .ref mt, .int (nI tn), .int (fk), .int (fp), .int (nI p), .int (nI p), .int (ov), .int (nI 0), .ref nw, .ref dr, .ref tr, .ref pa, .int (nI ac), .ref ig, .ref kx, .ref be, .ref tc, .int (nI td)])), (mt, .inl (cy 0, 100, .inl ft))]) (w2 := [(m0, .inr (7, [.ref ml, .ref mm, .ref mit, .ref ms, .int (st), .ref mt, .int (nI tn), .int (fk), .int (fp), .int (nI (p + 0)), .int (nI p), .int (ov), .int (tvJ tp p 0), .ref nw, .ref dr, .ref tr, .ref pa, .int (nI ac), .ref ig, .ref kx, .ref be, .ref tc, .int (nI td)])), (mt, .inl (cy 0, 100, .inl ft))]) (q_c2 (f := fun z0 z1 => ([(m0, .inr (7, [.ref ml, .ref mm, .ref mit, .ref ms, .int (st), .ref mt, .int (nI tn), .int (fk), .int (fp), .int (z0), .int (nI p), .int (ov), .int (z1), .ref nw, .ref dr, .ref tr, .ref pa, .int (nI ac), .ref ig, .ref kx, .ref be, .ref tc, .int (nI td)])), (mt, .inl (cy 0, 100, .inl ft))] : va_W)) (show (nI p : Int32) = nI (p + 0) from rfl) (show (nI 0 : Int32) = tvJ tp p 0 from (if_pos rfl).symm)) hD
      exact L38_33 ((tn - p) + 1) 0 (by omega) (by omega) (fun i hi2 => absurd hi2 (Nat.not_lt_zero i)) H locs hP hD hS ls (lv_sub (l' := [(0, .ref m0), (1, .int (nI (tp p)))]) hl [1, 0] rfl)
    · have _ := b4
      refine lv_if_eq (tgt := 135) hx hb dX7_advances_30 (by decide) (fun _ => ?_) (fun c9 => absurd (by decide) c9)
      have hpn := y2
      have hb256 := y22
      have hr0 := tkRun_u (tp := tp) (n := tn) (p := p) (r := 0) (fun i hi => absurd hi (Nat.not_lt_zero i)) (tkDig_no b4 y22)
      refine lv_aload_n hx hb dX7_advances_135 rfl (lv_at hl 1 rfl) ?_
      refine lv_iload_n hx hb dX7_advances_136 rfl (lv_at hl 0 rfl) ?_
      refine q_if_ge (tgt := 144) hx hb dX7_advances_137 (by decide) (by omega) ?_
      refine lv_iload_n hx hb dX7_advances_144 rfl (lv_at hl 0 rfl) ?_
      refine lv_bipush (v := nI 97) hx hb dX7_advances_145 (by decide) ?_
      refine lv_bipush (v := nI 122) hx hb dX7_advances_147 (by decide) ?_
      refine q_rS (As := [.int (nI (tp p)), .int (nI 97), .int (nI 122)]) (rest := [.ref m0]) ⟨hx, hb, hml, hown, hts⟩ (c_X7_in l D cy (nI (tp p)) (nI 97) (nI 122)) (va_cwS 3 hts gX7_advances_X7_in rfl rfl rfl (by decide +kernel) ⟨Nat.le_of_ble_eq_true rfl, Nat.le_of_ble_eq_true rfl⟩) hP hK [] rfl rfl hl.1 rfl (Nat.le_of_ble_eq_true rfl) dX7_advances_149 ⟨Nat.zero_le _, Nat.zero_le _⟩ (fun r16 hr16 => ?_)
      rcases hr16 with ⟨rfl, b17⟩ | ⟨rfl, b17⟩
      · have _ := b17
        have hlet := (q_wn (by decide) (by decide) (by omega)).mp b17
        refine lv_if_eq (tgt := 159) hx hb dX7_advances_152 (by decide) (fun c9 => absurd c9 (by decide)) (fun _ => ?_)
        refine lv_iconst (v := nI 1) hx hb dX7_advances_155 (by decide) ?_
        refine lv_goto (tgt := 180) hx hb dX7_advances_156 (by decide) ?_
        refine va_put (D := D) (ci := 7) (v := .int (nI 1)) (ty := .int) (C := RX7) (T := TX7) (N := 23) hx hb hts nX7_advances_0 tyX7 tyX7_ok nmX7 hown hK.1 hP hD hS 0 rfl rfl 11 (by decide) (hts _ mX7_advances_4) (fun _ h9 => h9) rfl (by decide +kernel) rfl rfl (Nat.le_of_ble_eq_true rfl) dX7_advances_180 (fun H locs hP hD hS => ?_)
        have hP : va_P D vwCl [(m0, .inr (7, [.ref ml, .ref mm, .ref mit, .ref ms, .int (st), .ref mt, .int (nI tn), .int (fk), .int (fp), .int (nI p), .int (nI p), .int (nI 1), .int (nI (tp p)), .ref nw, .ref dr, .ref tr, .ref pa, .int (nI ac), .ref ig, .ref kx, .ref be, .ref tc, .int (nI td)])), (mt, .inl (cy 0, 100, .inl ft))] H := hP
        have hD : va_D A [(m0, .inr (7, [.ref ml, .ref mm, .ref mit, .ref ms, .int (st), .ref mt, .int (nI tn), .int (fk), .int (fp), .int (nI p), .int (nI p), .int (nI 1), .int (nI (tp p)), .ref nw, .ref dr, .ref tr, .ref pa, .int (nI ac), .ref ig, .ref kx, .ref be, .ref tc, .int (nI td)])), (mt, .inl (cy 0, 100, .inl ft))] := hD
        refine lv_aload_n hx hb dX7_advances_183 rfl (lv_at hl 1 rfl) ?_
        refine lv_dup hx hb dX7_advances_184 rfl ?_
        refine va_get (D := D) (ci := 7) (v := .int (nI p)) (C := RX7) (T := TX7) (N := 23) hx hb hts nX7_advances_0 hown hK.1 hP 0 rfl rfl 9 (by decide) (hts _ mX7_advances_1) (fun _ h9 => h9) rfl dX7_advances_185 ?_
        refine lv_aload_n hx hb dX7_advances_188 rfl (lv_at hl 1 rfl) ?_
        refine va_get (D := D) (ci := 7) (v := .int (nI 1)) (C := RX7) (T := TX7) (N := 23) hx hb hts nX7_advances_0 hown hK.1 hP 0 rfl rfl 11 (by decide) (hts _ mX7_advances_4) (fun _ h9 => h9) rfl dX7_advances_189 ?_
        refine lv_if_ne (tgt := 199) hx hb dX7_advances_192 (by decide) (fun _ => ?_) (fun c9 => absurd c9 (by decide))
        refine lv_iconst (v := nI 1) hx hb dX7_advances_199 (by decide) ?_
        refine lv_iadd hx hb dX7_advances_200 ?_
        refine q_top (y := nI (p + 1)) (nI_add _ _) ?_
        refine va_put (D := D) (ci := 7) (v := .int (nI (p + 1))) (ty := .int) (C := RX7) (T := TX7) (N := 23) hx hb hts nX7_advances_0 tyX7 tyX7_ok nmX7 hown hK.1 hP hD hS 0 rfl rfl 9 (by decide) (hts _ mX7_advances_1) (fun _ h9 => h9) rfl (by decide +kernel) rfl rfl (Nat.le_of_ble_eq_true rfl) dX7_advances_201 (fun H locs hP hD hS => ?_)
        have hP : va_P D vwCl [(m0, .inr (7, [.ref ml, .ref mm, .ref mit, .ref ms, .int (st), .ref mt, .int (nI tn), .int (fk), .int (fp), .int (nI (p + 1)), .int (nI p), .int (nI 1), .int (nI (tp p)), .ref nw, .ref dr, .ref tr, .ref pa, .int (nI ac), .ref ig, .ref kx, .ref be, .ref tc, .int (nI td)])), (mt, .inl (cy 0, 100, .inl ft))] H := hP
        have hD : va_D A [(m0, .inr (7, [.ref ml, .ref mm, .ref mit, .ref ms, .int (st), .ref mt, .int (nI tn), .int (fk), .int (fp), .int (nI (p + 1)), .int (nI p), .int (nI 1), .int (nI (tp p)), .ref nw, .ref dr, .ref tr, .ref pa, .int (nI ac), .ref ig, .ref kx, .ref be, .ref tc, .int (nI td)])), (mt, .inl (cy 0, 100, .inl ft))] := hD
        have hP9 := hP
        have hD9 := hD
        exact q_wvret hx hb hr hlocks dX7_advances_204 hP9 hD9 hS (by simp only [tkE_1 hpn hr0, tkK_1x hpn hr0 hlet, tkV_1 hpn hr0])
      · have _ := b17
        have hlet := fun q => b17 ((q_wn (by decide) (by decide) (by omega)).mpr q)
        refine lv_if_eq (tgt := 159) hx hb dX7_advances_152 (by decide) (fun _ => ?_) (fun c9 => absurd (by decide) c9)
        refine lv_iload_n hx hb dX7_advances_159 rfl (lv_at hl 0 rfl) ?_
        refine lv_bipush (v := nI 44) hx hb dX7_advances_160 (by decide) ?_
        refine q_icmp_ne (tgt := 169) hx hb dX7_advances_162 (by decide) (by omega) (by decide) (fun c18 => ?_) (fun c18 => ?_)
        · refine lv_iload_n hx hb dX7_advances_169 rfl (lv_at hl 0 rfl) ?_
          refine lv_bipush (v := nI 59) hx hb dX7_advances_170 (by decide) ?_
          refine q_icmp_ne (tgt := 179) hx hb dX7_advances_172 (by decide) (by omega) (by decide) (fun c19 => ?_) (fun c19 => ?_)
          · refine lv_iconst (v := nI 5) hx hb dX7_advances_179 (by decide) ?_
            refine va_put (D := D) (ci := 7) (v := .int (nI 5)) (ty := .int) (C := RX7) (T := TX7) (N := 23) hx hb hts nX7_advances_0 tyX7 tyX7_ok nmX7 hown hK.1 hP hD hS 0 rfl rfl 11 (by decide) (hts _ mX7_advances_4) (fun _ h9 => h9) rfl (by decide +kernel) rfl rfl (Nat.le_of_ble_eq_true rfl) dX7_advances_180 (fun H locs hP hD hS => ?_)
            have hP : va_P D vwCl [(m0, .inr (7, [.ref ml, .ref mm, .ref mit, .ref ms, .int (st), .ref mt, .int (nI tn), .int (fk), .int (fp), .int (nI p), .int (nI p), .int (nI 5), .int (nI (tp p)), .ref nw, .ref dr, .ref tr, .ref pa, .int (nI ac), .ref ig, .ref kx, .ref be, .ref tc, .int (nI td)])), (mt, .inl (cy 0, 100, .inl ft))] H := hP
            have hD : va_D A [(m0, .inr (7, [.ref ml, .ref mm, .ref mit, .ref ms, .int (st), .ref mt, .int (nI tn), .int (fk), .int (fp), .int (nI p), .int (nI p), .int (nI 5), .int (nI (tp p)), .ref nw, .ref dr, .ref tr, .ref pa, .int (nI ac), .ref ig, .ref kx, .ref be, .ref tc, .int (nI td)])), (mt, .inl (cy 0, 100, .inl ft))] := hD
            refine lv_aload_n hx hb dX7_advances_183 rfl (lv_at hl 1 rfl) ?_
            refine lv_dup hx hb dX7_advances_184 rfl ?_
            refine va_get (D := D) (ci := 7) (v := .int (nI p)) (C := RX7) (T := TX7) (N := 23) hx hb hts nX7_advances_0 hown hK.1 hP 0 rfl rfl 9 (by decide) (hts _ mX7_advances_1) (fun _ h9 => h9) rfl dX7_advances_185 ?_
            refine lv_aload_n hx hb dX7_advances_188 rfl (lv_at hl 1 rfl) ?_
            refine va_get (D := D) (ci := 7) (v := .int (nI 5)) (C := RX7) (T := TX7) (N := 23) hx hb hts nX7_advances_0 hown hK.1 hP 0 rfl rfl 11 (by decide) (hts _ mX7_advances_4) (fun _ h9 => h9) rfl dX7_advances_189 ?_
            refine lv_if_ne (tgt := 199) hx hb dX7_advances_192 (by decide) (fun _ => ?_) (fun c9 => absurd c9 (by decide))
            refine lv_iconst (v := nI 1) hx hb dX7_advances_199 (by decide) ?_
            refine lv_iadd hx hb dX7_advances_200 ?_
            refine q_top (y := nI (p + 1)) (nI_add _ _) ?_
            refine va_put (D := D) (ci := 7) (v := .int (nI (p + 1))) (ty := .int) (C := RX7) (T := TX7) (N := 23) hx hb hts nX7_advances_0 tyX7 tyX7_ok nmX7 hown hK.1 hP hD hS 0 rfl rfl 9 (by decide) (hts _ mX7_advances_1) (fun _ h9 => h9) rfl (by decide +kernel) rfl rfl (Nat.le_of_ble_eq_true rfl) dX7_advances_201 (fun H locs hP hD hS => ?_)
            have hP : va_P D vwCl [(m0, .inr (7, [.ref ml, .ref mm, .ref mit, .ref ms, .int (st), .ref mt, .int (nI tn), .int (fk), .int (fp), .int (nI (p + 1)), .int (nI p), .int (nI 5), .int (nI (tp p)), .ref nw, .ref dr, .ref tr, .ref pa, .int (nI ac), .ref ig, .ref kx, .ref be, .ref tc, .int (nI td)])), (mt, .inl (cy 0, 100, .inl ft))] H := hP
            have hD : va_D A [(m0, .inr (7, [.ref ml, .ref mm, .ref mit, .ref ms, .int (st), .ref mt, .int (nI tn), .int (fk), .int (fp), .int (nI (p + 1)), .int (nI p), .int (nI 5), .int (nI (tp p)), .ref nw, .ref dr, .ref tr, .ref pa, .int (nI ac), .ref ig, .ref kx, .ref be, .ref tc, .int (nI td)])), (mt, .inl (cy 0, 100, .inl ft))] := hD
            have hP9 := hP
            have hD9 := hD
            exact q_wvret hx hb hr hlocks dX7_advances_204 hP9 hD9 hS (by simp only [tkE_1 hpn hr0, tkK_5x hpn hr0 hlet (by omega) (by omega), tkV_1 hpn hr0])
          · refine lv_iconst (v := nI 4) hx hb dX7_advances_175 (by decide) ?_
            refine lv_goto (tgt := 180) hx hb dX7_advances_176 (by decide) ?_
            refine va_put (D := D) (ci := 7) (v := .int (nI 4)) (ty := .int) (C := RX7) (T := TX7) (N := 23) hx hb hts nX7_advances_0 tyX7 tyX7_ok nmX7 hown hK.1 hP hD hS 0 rfl rfl 11 (by decide) (hts _ mX7_advances_4) (fun _ h9 => h9) rfl (by decide +kernel) rfl rfl (Nat.le_of_ble_eq_true rfl) dX7_advances_180 (fun H locs hP hD hS => ?_)
            have hP : va_P D vwCl [(m0, .inr (7, [.ref ml, .ref mm, .ref mit, .ref ms, .int (st), .ref mt, .int (nI tn), .int (fk), .int (fp), .int (nI p), .int (nI p), .int (nI 4), .int (nI (tp p)), .ref nw, .ref dr, .ref tr, .ref pa, .int (nI ac), .ref ig, .ref kx, .ref be, .ref tc, .int (nI td)])), (mt, .inl (cy 0, 100, .inl ft))] H := hP
            have hD : va_D A [(m0, .inr (7, [.ref ml, .ref mm, .ref mit, .ref ms, .int (st), .ref mt, .int (nI tn), .int (fk), .int (fp), .int (nI p), .int (nI p), .int (nI 4), .int (nI (tp p)), .ref nw, .ref dr, .ref tr, .ref pa, .int (nI ac), .ref ig, .ref kx, .ref be, .ref tc, .int (nI td)])), (mt, .inl (cy 0, 100, .inl ft))] := hD
            refine lv_aload_n hx hb dX7_advances_183 rfl (lv_at hl 1 rfl) ?_
            refine lv_dup hx hb dX7_advances_184 rfl ?_
            refine va_get (D := D) (ci := 7) (v := .int (nI p)) (C := RX7) (T := TX7) (N := 23) hx hb hts nX7_advances_0 hown hK.1 hP 0 rfl rfl 9 (by decide) (hts _ mX7_advances_1) (fun _ h9 => h9) rfl dX7_advances_185 ?_
            refine lv_aload_n hx hb dX7_advances_188 rfl (lv_at hl 1 rfl) ?_
            refine va_get (D := D) (ci := 7) (v := .int (nI 4)) (C := RX7) (T := TX7) (N := 23) hx hb hts nX7_advances_0 hown hK.1 hP 0 rfl rfl 11 (by decide) (hts _ mX7_advances_4) (fun _ h9 => h9) rfl dX7_advances_189 ?_
            refine lv_if_ne (tgt := 199) hx hb dX7_advances_192 (by decide) (fun _ => ?_) (fun c9 => absurd c9 (by decide))
            refine lv_iconst (v := nI 1) hx hb dX7_advances_199 (by decide) ?_
            refine lv_iadd hx hb dX7_advances_200 ?_
            refine q_top (y := nI (p + 1)) (nI_add _ _) ?_
            refine va_put (D := D) (ci := 7) (v := .int (nI (p + 1))) (ty := .int) (C := RX7) (T := TX7) (N := 23) hx hb hts nX7_advances_0 tyX7 tyX7_ok nmX7 hown hK.1 hP hD hS 0 rfl rfl 9 (by decide) (hts _ mX7_advances_1) (fun _ h9 => h9) rfl (by decide +kernel) rfl rfl (Nat.le_of_ble_eq_true rfl) dX7_advances_201 (fun H locs hP hD hS => ?_)
            have hP : va_P D vwCl [(m0, .inr (7, [.ref ml, .ref mm, .ref mit, .ref ms, .int (st), .ref mt, .int (nI tn), .int (fk), .int (fp), .int (nI (p + 1)), .int (nI p), .int (nI 4), .int (nI (tp p)), .ref nw, .ref dr, .ref tr, .ref pa, .int (nI ac), .ref ig, .ref kx, .ref be, .ref tc, .int (nI td)])), (mt, .inl (cy 0, 100, .inl ft))] H := hP
            have hD : va_D A [(m0, .inr (7, [.ref ml, .ref mm, .ref mit, .ref ms, .int (st), .ref mt, .int (nI tn), .int (fk), .int (fp), .int (nI (p + 1)), .int (nI p), .int (nI 4), .int (nI (tp p)), .ref nw, .ref dr, .ref tr, .ref pa, .int (nI ac), .ref ig, .ref kx, .ref be, .ref tc, .int (nI td)])), (mt, .inl (cy 0, 100, .inl ft))] := hD
            have hP9 := hP
            have hD9 := hD
            exact q_wvret hx hb hr hlocks dX7_advances_204 hP9 hD9 hS (by simp only [tkE_1 hpn hr0, tkK_4x hpn hr0 hlet (by omega), tkV_1 hpn hr0])
        · refine lv_iconst (v := nI 3) hx hb dX7_advances_165 (by decide) ?_
          refine lv_goto (tgt := 180) hx hb dX7_advances_166 (by decide) ?_
          refine va_put (D := D) (ci := 7) (v := .int (nI 3)) (ty := .int) (C := RX7) (T := TX7) (N := 23) hx hb hts nX7_advances_0 tyX7 tyX7_ok nmX7 hown hK.1 hP hD hS 0 rfl rfl 11 (by decide) (hts _ mX7_advances_4) (fun _ h9 => h9) rfl (by decide +kernel) rfl rfl (Nat.le_of_ble_eq_true rfl) dX7_advances_180 (fun H locs hP hD hS => ?_)
          have hP : va_P D vwCl [(m0, .inr (7, [.ref ml, .ref mm, .ref mit, .ref ms, .int (st), .ref mt, .int (nI tn), .int (fk), .int (fp), .int (nI p), .int (nI p), .int (nI 3), .int (nI (tp p)), .ref nw, .ref dr, .ref tr, .ref pa, .int (nI ac), .ref ig, .ref kx, .ref be, .ref tc, .int (nI td)])), (mt, .inl (cy 0, 100, .inl ft))] H := hP
          have hD : va_D A [(m0, .inr (7, [.ref ml, .ref mm, .ref mit, .ref ms, .int (st), .ref mt, .int (nI tn), .int (fk), .int (fp), .int (nI p), .int (nI p), .int (nI 3), .int (nI (tp p)), .ref nw, .ref dr, .ref tr, .ref pa, .int (nI ac), .ref ig, .ref kx, .ref be, .ref tc, .int (nI td)])), (mt, .inl (cy 0, 100, .inl ft))] := hD
          refine lv_aload_n hx hb dX7_advances_183 rfl (lv_at hl 1 rfl) ?_
          refine lv_dup hx hb dX7_advances_184 rfl ?_
          refine va_get (D := D) (ci := 7) (v := .int (nI p)) (C := RX7) (T := TX7) (N := 23) hx hb hts nX7_advances_0 hown hK.1 hP 0 rfl rfl 9 (by decide) (hts _ mX7_advances_1) (fun _ h9 => h9) rfl dX7_advances_185 ?_
          refine lv_aload_n hx hb dX7_advances_188 rfl (lv_at hl 1 rfl) ?_
          refine va_get (D := D) (ci := 7) (v := .int (nI 3)) (C := RX7) (T := TX7) (N := 23) hx hb hts nX7_advances_0 hown hK.1 hP 0 rfl rfl 11 (by decide) (hts _ mX7_advances_4) (fun _ h9 => h9) rfl dX7_advances_189 ?_
          refine lv_if_ne (tgt := 199) hx hb dX7_advances_192 (by decide) (fun _ => ?_) (fun c9 => absurd c9 (by decide))
          refine lv_iconst (v := nI 1) hx hb dX7_advances_199 (by decide) ?_
          refine lv_iadd hx hb dX7_advances_200 ?_
          refine q_top (y := nI (p + 1)) (nI_add _ _) ?_
          refine va_put (D := D) (ci := 7) (v := .int (nI (p + 1))) (ty := .int) (C := RX7) (T := TX7) (N := 23) hx hb hts nX7_advances_0 tyX7 tyX7_ok nmX7 hown hK.1 hP hD hS 0 rfl rfl 9 (by decide) (hts _ mX7_advances_1) (fun _ h9 => h9) rfl (by decide +kernel) rfl rfl (Nat.le_of_ble_eq_true rfl) dX7_advances_201 (fun H locs hP hD hS => ?_)
          have hP : va_P D vwCl [(m0, .inr (7, [.ref ml, .ref mm, .ref mit, .ref ms, .int (st), .ref mt, .int (nI tn), .int (fk), .int (fp), .int (nI (p + 1)), .int (nI p), .int (nI 3), .int (nI (tp p)), .ref nw, .ref dr, .ref tr, .ref pa, .int (nI ac), .ref ig, .ref kx, .ref be, .ref tc, .int (nI td)])), (mt, .inl (cy 0, 100, .inl ft))] H := hP
          have hD : va_D A [(m0, .inr (7, [.ref ml, .ref mm, .ref mit, .ref ms, .int (st), .ref mt, .int (nI tn), .int (fk), .int (fp), .int (nI (p + 1)), .int (nI p), .int (nI 3), .int (nI (tp p)), .ref nw, .ref dr, .ref tr, .ref pa, .int (nI ac), .ref ig, .ref kx, .ref be, .ref tc, .int (nI td)])), (mt, .inl (cy 0, 100, .inl ft))] := hD
          have hP9 := hP
          have hD9 := hD
          exact q_wvret hx hb hr hlocks dX7_advances_204 hP9 hD9 hS (by simp only [tkE_1 hpn hr0, tkK_3x hpn hr0 hlet (by omega), tkV_1 hpn hr0])
  · have _ := y2
    refine lv_istore_n (lv' := [(1, .int ((-1))), (0, .ref m0)]) hx hb dX7_advances_16 rfl hl (by decide) rfl (fun ls hl => ?_)
    refine lv_aload_n hx hb dX7_advances_17 rfl (lv_at hl 1 rfl) ?_
    refine lv_iload_n hx hb dX7_advances_18 rfl (lv_at hl 0 rfl) ?_
    refine va_put (D := D) (ci := 7) (v := .int ((-1))) (ty := .int) (C := RX7) (T := TX7) (N := 23) hx hb hts nX7_advances_0 tyX7 tyX7_ok nmX7 hown hK.1 hP hD hS 0 rfl rfl 12 (by decide) (hts _ mX7_advances_3) (fun _ h9 => h9) rfl (by decide +kernel) rfl rfl (Nat.le_of_ble_eq_true rfl) dX7_advances_19 (fun H locs hP hD hS => ?_)
    have hP : va_P D vwCl [(m0, .inr (7, [.ref ml, .ref mm, .ref mit, .ref ms, .int (st), .ref mt, .int (nI tn), .int (fk), .int (fp), .int (nI p), .int (nI p), .int (ov), .int ((-1)), .ref nw, .ref dr, .ref tr, .ref pa, .int (nI ac), .ref ig, .ref kx, .ref be, .ref tc, .int (nI td)])), (mt, .inl (cy 0, 100, .inl ft))] H := hP
    have hD : va_D A [(m0, .inr (7, [.ref ml, .ref mm, .ref mit, .ref ms, .int (st), .ref mt, .int (nI tn), .int (fk), .int (fp), .int (nI p), .int (nI p), .int (ov), .int ((-1)), .ref nw, .ref dr, .ref tr, .ref pa, .int (nI ac), .ref ig, .ref kx, .ref be, .ref tc, .int (nI td)])), (mt, .inl (cy 0, 100, .inl ft))] := hD
    refine lv_iload_n hx hb dX7_advances_22 rfl (lv_at hl 0 rfl) ?_
    refine lv_bipush (v := nI 48) hx hb dX7_advances_23 (by decide) ?_
    refine lv_bipush (v := nI 57) hx hb dX7_advances_25 (by decide) ?_
    refine q_rS (As := [.int ((-1)), .int (nI 48), .int (nI 57)]) (rest := []) ⟨hx, hb, hml, hown, hts⟩ (c_X7_in l D cy (-1) (nI 48) (nI 57)) (va_cwS 3 hts gX7_advances_X7_in rfl rfl rfl (by decide +kernel) ⟨Nat.le_of_ble_eq_true rfl, Nat.le_of_ble_eq_true rfl⟩) hP hK [] rfl rfl hl.1 rfl (Nat.le_of_ble_eq_true rfl) dX7_advances_27 ⟨Nat.zero_le _, Nat.zero_le _⟩ (fun r20 hr20 => ?_)
    rcases hr20 with ⟨rfl, b21⟩ | ⟨rfl, b21⟩
    · exact absurd b21 (by decide)
    · have _ := b21
      refine lv_if_eq (tgt := 135) hx hb dX7_advances_30 (by decide) (fun _ => ?_) (fun c9 => absurd (by decide) c9)
      refine lv_aload_n hx hb dX7_advances_135 rfl (lv_at hl 1 rfl) ?_
      refine lv_iload_n hx hb dX7_advances_136 rfl (lv_at hl 0 rfl) ?_
      refine lv_if_ge (tgt := 144) hx hb dX7_advances_137 (by decide) (fun c9 => absurd c9 (by decide)) (fun _ => ?_)
      refine lv_iconst (v := nI 0) hx hb dX7_advances_140 (by decide) ?_
      refine lv_goto (tgt := 180) hx hb dX7_advances_141 (by decide) ?_
      refine va_put (D := D) (ci := 7) (v := .int (nI 0)) (ty := .int) (C := RX7) (T := TX7) (N := 23) hx hb hts nX7_advances_0 tyX7 tyX7_ok nmX7 hown hK.1 hP hD hS 0 rfl rfl 11 (by decide) (hts _ mX7_advances_4) (fun _ h9 => h9) rfl (by decide +kernel) rfl rfl (Nat.le_of_ble_eq_true rfl) dX7_advances_180 (fun H locs hP hD hS => ?_)
      have hP : va_P D vwCl [(m0, .inr (7, [.ref ml, .ref mm, .ref mit, .ref ms, .int (st), .ref mt, .int (nI tn), .int (fk), .int (fp), .int (nI p), .int (nI p), .int (nI 0), .int ((-1)), .ref nw, .ref dr, .ref tr, .ref pa, .int (nI ac), .ref ig, .ref kx, .ref be, .ref tc, .int (nI td)])), (mt, .inl (cy 0, 100, .inl ft))] H := hP
      have hD : va_D A [(m0, .inr (7, [.ref ml, .ref mm, .ref mit, .ref ms, .int (st), .ref mt, .int (nI tn), .int (fk), .int (fp), .int (nI p), .int (nI p), .int (nI 0), .int ((-1)), .ref nw, .ref dr, .ref tr, .ref pa, .int (nI ac), .ref ig, .ref kx, .ref be, .ref tc, .int (nI td)])), (mt, .inl (cy 0, 100, .inl ft))] := hD
      refine lv_aload_n hx hb dX7_advances_183 rfl (lv_at hl 1 rfl) ?_
      refine lv_dup hx hb dX7_advances_184 rfl ?_
      refine va_get (D := D) (ci := 7) (v := .int (nI p)) (C := RX7) (T := TX7) (N := 23) hx hb hts nX7_advances_0 hown hK.1 hP 0 rfl rfl 9 (by decide) (hts _ mX7_advances_1) (fun _ h9 => h9) rfl dX7_advances_185 ?_
      refine lv_aload_n hx hb dX7_advances_188 rfl (lv_at hl 1 rfl) ?_
      refine va_get (D := D) (ci := 7) (v := .int (nI 0)) (C := RX7) (T := TX7) (N := 23) hx hb hts nX7_advances_0 hown hK.1 hP 0 rfl rfl 11 (by decide) (hts _ mX7_advances_4) (fun _ h9 => h9) rfl dX7_advances_189 ?_
      refine lv_if_ne (tgt := 199) hx hb dX7_advances_192 (by decide) (fun c9 => absurd (by decide) c9) (fun _ => ?_)
      refine lv_iconst (v := nI 0) hx hb dX7_advances_195 (by decide) ?_
      refine lv_goto (tgt := 200) hx hb dX7_advances_196 (by decide) ?_
      refine lv_iadd hx hb dX7_advances_200 ?_
      refine q_top (y := nI (p + 0)) (nI_add _ _) ?_
      refine va_put (D := D) (ci := 7) (v := .int (nI (p + 0))) (ty := .int) (C := RX7) (T := TX7) (N := 23) hx hb hts nX7_advances_0 tyX7 tyX7_ok nmX7 hown hK.1 hP hD hS 0 rfl rfl 9 (by decide) (hts _ mX7_advances_1) (fun _ h9 => h9) rfl (by decide +kernel) rfl rfl (Nat.le_of_ble_eq_true rfl) dX7_advances_201 (fun H locs hP hD hS => ?_)
      have hP : va_P D vwCl [(m0, .inr (7, [.ref ml, .ref mm, .ref mit, .ref ms, .int (st), .ref mt, .int (nI tn), .int (fk), .int (fp), .int (nI (p + 0)), .int (nI p), .int (nI 0), .int ((-1)), .ref nw, .ref dr, .ref tr, .ref pa, .int (nI ac), .ref ig, .ref kx, .ref be, .ref tc, .int (nI td)])), (mt, .inl (cy 0, 100, .inl ft))] H := hP
      have hD : va_D A [(m0, .inr (7, [.ref ml, .ref mm, .ref mit, .ref ms, .int (st), .ref mt, .int (nI tn), .int (fk), .int (fp), .int (nI (p + 0)), .int (nI p), .int (nI 0), .int ((-1)), .ref nw, .ref dr, .ref tr, .ref pa, .int (nI ac), .ref ig, .ref kx, .ref be, .ref tc, .int (nI td)])), (mt, .inl (cy 0, 100, .inl ft))] := hD
      have hP9 := hP
      have hD9 := hD
      exact q_wvret hx hb hr hlocks dX7_advances_204 hP9 hD9 hS (by simp only [tkE_0 y2, tkK_0 y2, tkV_0 y2, Nat.add_zero])
theorem nX7_isWell_y_0 : ∀ w ∈ wsX70, w ∈ wsX7_isWell := by decide +kernel
theorem mX7_isWell_y_1 : Cond.fieldLink RX7 101 "ClueLeaveModel" "faultPlace" "I" ∈ wsX7_isWell := by decide +kernel
set_option maxHeartbeats 4000000 in
set_option maxRecDepth 100000 in
theorem c_X7_isWell_y (l : Launch) (D : va_G) (cy : Nat → ClassId) (m0 ml mm mit ms mt nw dr tr pa ig kx be tc : Nat) (st fk fp av sv ov vv : Int32) (tn ac td : Nat) : q_Rd l yX7_isWell wsX7_isWell 1 D cy [(m0, .inr (7, [.ref ml, .ref mm, .ref mit, .ref ms, .int (st), .ref mt, .int (nI tn), .int (fk), .int ((-1)), .int (av), .int (sv), .int (ov), .int (vv), .ref nw, .ref dr, .ref tr, .ref pa, .int (nI ac), .ref ig, .ref kx, .ref be, .ref tc, .int (nI td)]))] [.ref m0] (fun r => r = nI 1) := by
  refine q_rd_of (cc := cX7_isWell) (maxL := 1) (ret := (some .boolean)) (by decide) rfl (Nat.le_of_ble_eq_true rfl) ?_
  intro pg en s mi args below meth cd hC hP hK ls hl
  obtain ⟨hx, hb, hr, hml, hown, hts, hlocks⟩ := hC
  have hl : lv_has ls 1 [(0, .ref m0)] := hl
  refine lv_aload_n hx hb dX7_isWell_0 rfl (lv_at hl 0 rfl) ?_
  refine va_get (D := D) (ci := 7) (v := .int ((-1))) (C := RX7) (T := TX7) (N := 23) hx hb hts nX7_isWell_y_0 hown hK.1 hP 0 rfl rfl 8 (by decide) (hts _ mX7_isWell_y_1) (fun _ h9 => h9) rfl dX7_isWell_1 ?_
  refine lv_if_ge (tgt := 11) hx hb dX7_isWell_4 (by decide) (fun c9 => absurd c9 (by decide)) (fun _ => ?_)
  refine lv_iconst (v := nI 1) hx hb dX7_isWell_7 (by decide) ?_
  refine lv_goto (tgt := 12) hx hb dX7_isWell_8 (by decide) ?_
  exact q_zret (v := nI 1) hx hb hr hlocks dX7_isWell_12 (by decide) (rfl)
theorem nX7_isWell_n_0 : ∀ w ∈ wsX70, w ∈ wsX7_isWell := by decide +kernel
theorem mX7_isWell_n_1 : Cond.fieldLink RX7 101 "ClueLeaveModel" "faultPlace" "I" ∈ wsX7_isWell := by decide +kernel
set_option maxHeartbeats 4000000 in
set_option maxRecDepth 100000 in
theorem c_X7_isWell_n (l : Launch) (D : va_G) (cy : Nat → ClassId) (m0 ml mm mit ms mt nw dr tr pa ig kx be tc : Nat) (st fk fp av sv ov vv : Int32) (tn ac td : Nat) (q : Nat) (hq : q < 2 ^ 31) : q_Rd l yX7_isWell wsX7_isWell 1 D cy [(m0, .inr (7, [.ref ml, .ref mm, .ref mit, .ref ms, .int (st), .ref mt, .int (nI tn), .int (fk), .int (nI q), .int (av), .int (sv), .int (ov), .int (vv), .ref nw, .ref dr, .ref tr, .ref pa, .int (nI ac), .ref ig, .ref kx, .ref be, .ref tc, .int (nI td)]))] [.ref m0] (fun r => r = nI 0) := by
  refine q_rd_of (cc := cX7_isWell) (maxL := 1) (ret := (some .boolean)) (by decide) rfl (Nat.le_of_ble_eq_true rfl) ?_
  intro pg en s mi args below meth cd hC hP hK ls hl
  obtain ⟨hx, hb, hr, hml, hown, hts, hlocks⟩ := hC
  have hl : lv_has ls 1 [(0, .ref m0)] := hl
  refine lv_aload_n hx hb dX7_isWell_0 rfl (lv_at hl 0 rfl) ?_
  refine va_get (D := D) (ci := 7) (v := .int (nI q)) (C := RX7) (T := TX7) (N := 23) hx hb hts nX7_isWell_n_0 hown hK.1 hP 0 rfl rfl 8 (by decide) (hts _ mX7_isWell_n_1) (fun _ h9 => h9) rfl dX7_isWell_1 ?_
  refine q_if_ge (tgt := 11) hx hb dX7_isWell_4 (by decide) (by omega) ?_
  refine lv_iconst (v := nI 0) hx hb dX7_isWell_11 (by decide) ?_
  exact q_zret (v := nI 0) hx hb hr hlocks dX7_isWell_12 (by decide) (rfl)
set_option maxHeartbeats 4000000 in
set_option maxRecDepth 100000 in
theorem c_X7_takes_e (l : Launch) (D : va_G) (cy : Nat → ClassId) (m0 ml mm mit ms mt nw dr tr pa ig kx be tc : Nat) (st fk fp av sv ov vv : Int32) (tn ac td : Nat) (q : Nat) (hq : q < 2 ^ 31) (x k : Int32) : q_Wi l yX7_takes wsX7_takes 3 D cy [(m0, .inr (7, [.ref ml, .ref mm, .ref mit, .ref ms, .int (st), .ref mt, .int (nI tn), .int (fk), .int (nI q), .int (av), .int (sv), .int (ov), .int (vv), .ref nw, .ref dr, .ref tr, .ref pa, .int (nI ac), .ref ig, .ref kx, .ref be, .ref tc, .int (nI td)]))] [.ref m0, .int (x), .int (k)] (fun r u => r = nI 0 ∧ u = [(m0, .inr (7, [.ref ml, .ref mm, .ref mit, .ref ms, .int (st), .ref mt, .int (nI tn), .int (fk), .int (nI q), .int (av), .int (sv), .int (ov), .int (vv), .ref nw, .ref dr, .ref tr, .ref pa, .int (nI ac), .ref ig, .ref kx, .ref be, .ref tc, .int (nI td)]))]) := by
  refine q_wi_of (cc := cX7_takes) (maxL := 4) (ret := (some .int)) (by decide) rfl (Nat.le_of_ble_eq_true rfl) ?_
  intro pg en s mi args below meth cd A hC hA hK H locs hP hD hS ls hl
  obtain ⟨hx, hb, hr, hml, hown, hts, hlocks⟩ := hC
  have hl : lv_has ls 4 [(0, .ref m0), (1, .int (x)), (2, .int (k))] := hl
  refine lv_aload_n hx hb dX7_takes_0 rfl (lv_at hl 0 rfl) ?_
  refine q_rV (As := []) (rest := []) ⟨hx, hb, hml, hown, hts⟩ (c_X7_isWell_n l D cy m0 ml mm mit ms mt nw dr tr pa ig kx be tc st fk (nI q) av sv ov vv tn ac td q (by omega)) (cwV 0 hts gX7_takes_X7_isWell rfl rfl rfl (by decide +kernel) ⟨Nat.le_of_ble_eq_true rfl, Nat.le_of_ble_eq_true rfl⟩) hP hK [0] rfl 0 rfl rfl rfl rfl hl.1 rfl (Nat.le_of_ble_eq_true rfl) dX7_takes_1 ⟨Nat.zero_le _, Nat.zero_le _⟩ (fun r1 hr1 => ?_)
  obtain rfl := hr1
  refine lv_if_ne (tgt := 9) hx hb dX7_takes_4 (by decide) (fun c9 => absurd (by decide) c9) (fun _ => ?_)
  refine lv_iconst (v := nI 0) hx hb dX7_takes_7 (by decide) ?_
  have hP9 := hP
  have hD9 := hD
  exact q_wiret (v := nI 0) hx hb hr hlocks dX7_takes_8 hP9 hD9 hS (⟨rfl, rfl⟩)
theorem nX7_takes_n_0 : ∀ w ∈ wsX70, w ∈ wsX7_takes := by decide +kernel
theorem mX7_takes_n_1 : Cond.fieldLink RX7 89 "ClueLeaveModel" "start" "I" ∈ wsX7_takes := by decide +kernel
theorem mX7_takes_n_2 : Cond.fieldLink RX7 101 "ClueLeaveModel" "faultPlace" "I" ∈ wsX7_takes := by decide +kernel
theorem mX7_takes_n_3 : Cond.fieldLink RX7 108 "ClueLeaveModel" "faultKind" "I" ∈ wsX7_takes := by decide +kernel
set_option maxHeartbeats 4000000 in
set_option maxRecDepth 100000 in
theorem c_X7_takes_n (l : Launch) (D : va_G) (cy : Nat → ClassId) (m0 ml mm mit ms mt nw dr tr pa ig kx be tc : Nat) (st fk fp av sv ov vv : Int32) (tn ac td : Nat) (k : Int32) : q_Wi l yX7_takes wsX7_takes 3 D cy [(m0, .inr (7, [.ref ml, .ref mm, .ref mit, .ref ms, .int (st), .ref mt, .int (nI tn), .int (fk), .int ((-1)), .int (av), .int (sv), .int (ov), .int (vv), .ref nw, .ref dr, .ref tr, .ref pa, .int (nI ac), .ref ig, .ref kx, .ref be, .ref tc, .int (nI td)]))] [.ref m0, .int (nI 0), .int (k)] (fun r u => r = nI 0 ∧ u = [(m0, .inr (7, [.ref ml, .ref mm, .ref mit, .ref ms, .int (st), .ref mt, .int (nI tn), .int (k), .int (sv), .int (av), .int (sv), .int (ov), .int (vv), .ref nw, .ref dr, .ref tr, .ref pa, .int (nI ac), .ref ig, .ref kx, .ref be, .ref tc, .int (nI td)]))]) := by
  refine q_wi_of (cc := cX7_takes) (maxL := 4) (ret := (some .int)) (by decide) rfl (Nat.le_of_ble_eq_true rfl) ?_
  intro pg en s mi args below meth cd A hC hA hK H locs hP hD hS ls hl
  obtain ⟨hx, hb, hr, hml, hown, hts, hlocks⟩ := hC
  have hl : lv_has ls 4 [(0, .ref m0), (1, .int (nI 0)), (2, .int (k))] := hl
  refine lv_aload_n hx hb dX7_takes_0 rfl (lv_at hl 0 rfl) ?_
  refine q_rV (As := []) (rest := []) ⟨hx, hb, hml, hown, hts⟩ (c_X7_isWell_y l D cy m0 ml mm mit ms mt nw dr tr pa ig kx be tc st fk (-1) av sv ov vv tn ac td) (cwV 0 hts gX7_takes_X7_isWell rfl rfl rfl (by decide +kernel) ⟨Nat.le_of_ble_eq_true rfl, Nat.le_of_ble_eq_true rfl⟩) hP hK [0] rfl 0 rfl rfl rfl rfl hl.1 rfl (Nat.le_of_ble_eq_true rfl) dX7_takes_1 ⟨Nat.zero_le _, Nat.zero_le _⟩ (fun r1 hr1 => ?_)
  obtain rfl := hr1
  refine lv_if_ne (tgt := 9) hx hb dX7_takes_4 (by decide) (fun _ => ?_) (fun c9 => absurd c9 (by decide))
  refine lv_iload_n hx hb dX7_takes_9 rfl (lv_at hl 1 rfl) ?_
  refine lv_if_ne (tgt := 28) hx hb dX7_takes_10 (by decide) (fun c9 => absurd (by decide) c9) (fun _ => ?_)
  refine lv_aload_n hx hb dX7_takes_13 rfl (lv_at hl 0 rfl) ?_
  refine lv_aload_n hx hb dX7_takes_14 rfl (lv_at hl 0 rfl) ?_
  refine va_get (D := D) (ci := 7) (v := .int (sv)) (C := RX7) (T := TX7) (N := 23) hx hb hts nX7_takes_n_0 hown hK.1 hP 0 rfl rfl 10 (by decide) (hts _ mX7_takes_n_1) (fun _ h9 => h9) rfl dX7_takes_15 ?_
  refine va_put (D := D) (ci := 7) (v := .int (sv)) (ty := .int) (C := RX7) (T := TX7) (N := 23) hx hb hts nX7_takes_n_0 tyX7 tyX7_ok nmX7 hown hK.1 hP hD hS 0 rfl rfl 8 (by decide) (hts _ mX7_takes_n_2) (fun _ h9 => h9) rfl (by decide +kernel) rfl rfl (Nat.le_of_ble_eq_true rfl) dX7_takes_18 (fun H locs hP hD hS => ?_)
  have hP : va_P D vwCl [(m0, .inr (7, [.ref ml, .ref mm, .ref mit, .ref ms, .int (st), .ref mt, .int (nI tn), .int (fk), .int (sv), .int (av), .int (sv), .int (ov), .int (vv), .ref nw, .ref dr, .ref tr, .ref pa, .int (nI ac), .ref ig, .ref kx, .ref be, .ref tc, .int (nI td)]))] H := hP
  have hD : va_D A [(m0, .inr (7, [.ref ml, .ref mm, .ref mit, .ref ms, .int (st), .ref mt, .int (nI tn), .int (fk), .int (sv), .int (av), .int (sv), .int (ov), .int (vv), .ref nw, .ref dr, .ref tr, .ref pa, .int (nI ac), .ref ig, .ref kx, .ref be, .ref tc, .int (nI td)]))] := hD
  refine lv_aload_n hx hb dX7_takes_21 rfl (lv_at hl 0 rfl) ?_
  refine lv_iload_n hx hb dX7_takes_22 rfl (lv_at hl 2 rfl) ?_
  refine va_put (D := D) (ci := 7) (v := .int (k)) (ty := .int) (C := RX7) (T := TX7) (N := 23) hx hb hts nX7_takes_n_0 tyX7 tyX7_ok nmX7 hown hK.1 hP hD hS 0 rfl rfl 7 (by decide) (hts _ mX7_takes_n_3) (fun _ h9 => h9) rfl (by decide +kernel) rfl rfl (Nat.le_of_ble_eq_true rfl) dX7_takes_23 (fun H locs hP hD hS => ?_)
  have hP : va_P D vwCl [(m0, .inr (7, [.ref ml, .ref mm, .ref mit, .ref ms, .int (st), .ref mt, .int (nI tn), .int (k), .int (sv), .int (av), .int (sv), .int (ov), .int (vv), .ref nw, .ref dr, .ref tr, .ref pa, .int (nI ac), .ref ig, .ref kx, .ref be, .ref tc, .int (nI td)]))] H := hP
  have hD : va_D A [(m0, .inr (7, [.ref ml, .ref mm, .ref mit, .ref ms, .int (st), .ref mt, .int (nI tn), .int (k), .int (sv), .int (av), .int (sv), .int (ov), .int (vv), .ref nw, .ref dr, .ref tr, .ref pa, .int (nI ac), .ref ig, .ref kx, .ref be, .ref tc, .int (nI td)]))] := hD
  refine lv_iconst (v := nI 0) hx hb dX7_takes_26 (by decide) ?_
  have hP9 := hP
  have hD9 := hD
  exact q_wiret (v := nI 0) hx hb hr hlocks dX7_takes_27 hP9 hD9 hS (⟨rfl, rfl⟩)
theorem nX7_takes_y_0 : ∀ w ∈ wsX70, w ∈ wsX7_takes := by decide +kernel
theorem mX7_takes_y_1 : Cond.fieldLink RX7 95 "ClueLeaveModel" "value" "I" ∈ wsX7_takes := by decide +kernel
set_option maxHeartbeats 4000000 in
set_option maxRecDepth 100000 in
theorem c_X7_takes_y (l : Launch) (D : va_G) (cy : Nat → ClassId) (m0 ml mm mit ms mt nw dr tr pa ig kx be tc : Nat) (st fk fp av sv ov vv : Int32) (tn ac td : Nat) (ft : Nat → Int32) (tp : Nat → Nat) (htn : tn ≤ 100) (htp : tpIs tn tp ft) (p : Nat) (hp : p ≤ tn) (k : Int32) : q_Wi l yX7_takes wsX7_takes 3 D cy [(m0, .inr (7, [.ref ml, .ref mm, .ref mit, .ref ms, .int (st), .ref mt, .int (nI tn), .int (fk), .int ((-1)), .int (nI p), .int (sv), .int (ov), .int (vv), .ref nw, .ref dr, .ref tr, .ref pa, .int (nI ac), .ref ig, .ref kx, .ref be, .ref tc, .int (nI td)])), (mt, .inl (cy 0, 100, .inl ft))] [.ref m0, .int (nI 1), .int (k)] (fun r u => r = vv ∧ u = [(m0, .inr (7, [.ref ml, .ref mm, .ref mit, .ref ms, .int (st), .ref mt, .int (nI tn), .int (fk), .int ((-1)), .int (nI (tkE tp tn p)), .int (nI p), .int (nI (tkK tp tn p)), .int (tkV tp tn p), .ref nw, .ref dr, .ref tr, .ref pa, .int (nI ac), .ref ig, .ref kx, .ref be, .ref tc, .int (nI td)])), (mt, .inl (cy 0, 100, .inl ft))]) := by
  refine q_wi_of (cc := cX7_takes) (maxL := 4) (ret := (some .int)) (by decide) rfl (Nat.le_of_ble_eq_true rfl) ?_
  intro pg en s mi args below meth cd A hC hA hK H locs hP hD hS ls hl
  obtain ⟨hx, hb, hr, hml, hown, hts, hlocks⟩ := hC
  have hl : lv_has ls 4 [(0, .ref m0), (1, .int (nI 1)), (2, .int (k))] := hl
  refine lv_aload_n hx hb dX7_takes_0 rfl (lv_at hl 0 rfl) ?_
  refine q_rV (As := []) (rest := []) ⟨hx, hb, hml, hown, hts⟩ (c_X7_isWell_y l D cy m0 ml mm mit ms mt nw dr tr pa ig kx be tc st fk (-1) (nI p) sv ov vv tn ac td) (cwV 0 hts gX7_takes_X7_isWell rfl rfl rfl (by decide +kernel) ⟨Nat.le_of_ble_eq_true rfl, Nat.le_of_ble_eq_true rfl⟩) hP hK [0] rfl 0 rfl rfl rfl rfl hl.1 rfl (Nat.le_of_ble_eq_true rfl) dX7_takes_1 ⟨Nat.zero_le _, Nat.zero_le _⟩ (fun r1 hr1 => ?_)
  obtain rfl := hr1
  refine lv_if_ne (tgt := 9) hx hb dX7_takes_4 (by decide) (fun _ => ?_) (fun c9 => absurd c9 (by decide))
  refine lv_iload_n hx hb dX7_takes_9 rfl (lv_at hl 1 rfl) ?_
  refine lv_if_ne (tgt := 28) hx hb dX7_takes_10 (by decide) (fun _ => ?_) (fun c9 => absurd c9 (by decide))
  refine lv_aload_n hx hb dX7_takes_28 rfl (lv_at hl 0 rfl) ?_
  refine va_get (D := D) (ci := 7) (v := .int (vv)) (C := RX7) (T := TX7) (N := 23) hx hb hts nX7_takes_y_0 hown hK.1 hP 0 rfl rfl 12 (by decide) (hts _ mX7_takes_y_1) (fun _ h9 => h9) rfl dX7_takes_29 ?_
  refine lv_istore_n (lv' := [(3, .int (vv)), (0, .ref m0), (1, .int (nI 1)), (2, .int (k))]) hx hb dX7_takes_32 rfl hl (by decide) rfl (fun ls hl => ?_)
  refine lv_aload_n hx hb dX7_takes_33 rfl (lv_at hl 1 rfl) ?_
  refine q_wvV (As := []) (rest := []) (wr := []) ⟨hx, hb, hml, hown, hts⟩ (c_X7_advances l D cy m0 ml mm mit ms mt nw dr tr pa ig kx be tc st fk (-1) (nI p) sv ov vv tn ac td ft tp htn htp p (by omega)) (cwV 0 hts gX7_takes_X7_advances rfl rfl rfl (by decide +kernel) ⟨Nat.le_of_ble_eq_true rfl, Nat.le_of_ble_eq_true rfl⟩) hP hD hS hA hK [0, 1] [] rfl rfl (by decide) rfl (by decide) (by decide) 0 rfl rfl rfl rfl hl.1 rfl (Nat.le_of_ble_eq_true rfl) dX7_takes_34 ⟨Nat.zero_le _, Nat.zero_le _⟩ (fun u3 H locs hr2 hP hD hS => ?_)
  obtain rfl := hr2
  have hP : va_P D vwCl [(m0, .inr (7, [.ref ml, .ref mm, .ref mit, .ref ms, .int (st), .ref mt, .int (nI tn), .int (fk), .int ((-1)), .int (nI (tkE tp tn p)), .int (nI p), .int (nI (tkK tp tn p)), .int (tkV tp tn p), .ref nw, .ref dr, .ref tr, .ref pa, .int (nI ac), .ref ig, .ref kx, .ref be, .ref tc, .int (nI td)])), (mt, .inl (cy 0, 100, .inl ft))] H := hP
  have hD : va_D A [(m0, .inr (7, [.ref ml, .ref mm, .ref mit, .ref ms, .int (st), .ref mt, .int (nI tn), .int (fk), .int ((-1)), .int (nI (tkE tp tn p)), .int (nI p), .int (nI (tkK tp tn p)), .int (tkV tp tn p), .ref nw, .ref dr, .ref tr, .ref pa, .int (nI ac), .ref ig, .ref kx, .ref be, .ref tc, .int (nI td)])), (mt, .inl (cy 0, 100, .inl ft))] := hD
  refine lv_iload_n hx hb dX7_takes_37 rfl (lv_at hl 0 rfl) ?_
  have hP9 := hP
  have hD9 := hD
  exact q_wiret (v := vv) hx hb hr hlocks dX7_takes_38 hP9 hD9 hS (⟨rfl, rfl⟩)
theorem nX7_figure_e_0 : ∀ w ∈ wsX70, w ∈ wsX7_figure := by decide +kernel
theorem mX7_figure_e_1 : Cond.fieldLink RX7 95 "ClueLeaveModel" "value" "I" ∈ wsX7_figure := by decide +kernel
set_option maxHeartbeats 4000000 in
set_option maxRecDepth 100000 in
theorem c_X7_figure_e (l : Launch) (D : va_G) (cy : Nat → ClassId) (m0 ml mm mit ms mt nw dr tr pa ig kx be tc : Nat) (st fk fp av sv ov vv : Int32) (tn ac td : Nat) (q : Nat) (hq : q < 2 ^ 31) (x y : Int32) : q_Wi l yX7_figure wsX7_figure 4 D cy [(m0, .inr (7, [.ref ml, .ref mm, .ref mit, .ref ms, .int (st), .ref mt, .int (nI tn), .int (fk), .int (nI q), .int (av), .int (sv), .int (ov), .int (vv), .ref nw, .ref dr, .ref tr, .ref pa, .int (nI ac), .ref ig, .ref kx, .ref be, .ref tc, .int (nI td)]))] [.ref m0, .int (x), .int (y)] (fun r u => r = nI 0 ∧ u = [(m0, .inr (7, [.ref ml, .ref mm, .ref mit, .ref ms, .int (st), .ref mt, .int (nI tn), .int (fk), .int (nI q), .int (av), .int (sv), .int (ov), .int (vv), .ref nw, .ref dr, .ref tr, .ref pa, .int (nI ac), .ref ig, .ref kx, .ref be, .ref tc, .int (nI td)]))]) := by
  refine q_wi_of (cc := cX7_figure) (maxL := 3) (ret := (some .int)) (by decide) rfl (Nat.le_of_ble_eq_true rfl) ?_
  intro pg en s mi args below meth cd A hC hA hK H locs hP hD hS ls hl
  obtain ⟨hx, hb, hr, hml, hown, hts, hlocks⟩ := hC
  have hl : lv_has ls 3 [(0, .ref m0), (1, .int (x)), (2, .int (y))] := hl
  refine lv_aload_n hx hb dX7_figure_0 rfl (lv_at hl 0 rfl) ?_
  refine q_rV (As := []) (rest := []) ⟨hx, hb, hml, hown, hts⟩ (c_X7_isWell_n l D cy m0 ml mm mit ms mt nw dr tr pa ig kx be tc st fk (nI q) av sv ov vv tn ac td q (by omega)) (cwV 0 hts gX7_figure_X7_isWell rfl rfl rfl (by decide +kernel) ⟨Nat.le_of_ble_eq_true rfl, Nat.le_of_ble_eq_true rfl⟩) hP hK [0] rfl 0 rfl rfl rfl rfl hl.1 rfl (Nat.le_of_ble_eq_true rfl) dX7_figure_1 ⟨Nat.zero_le _, Nat.zero_le _⟩ (fun r1 hr1 => ?_)
  obtain rfl := hr1
  refine lv_if_eq (tgt := 22) hx hb dX7_figure_4 (by decide) (fun _ => ?_) (fun c9 => absurd (by decide) c9)
  refine lv_aload_n hx hb dX7_figure_22 rfl (lv_at hl 0 rfl) ?_
  refine lv_aload_n hx hb dX7_figure_23 rfl (lv_at hl 0 rfl) ?_
  refine va_get (D := D) (ci := 7) (v := .int (vv)) (C := RX7) (T := TX7) (N := 23) hx hb hts nX7_figure_e_0 hown hK.1 hP 0 rfl rfl 12 (by decide) (hts _ mX7_figure_e_1) (fun _ h9 => h9) rfl dX7_figure_24 ?_
  refine lv_iload_n hx hb dX7_figure_27 rfl (lv_at hl 1 rfl) ?_
  refine lv_iload_n hx hb dX7_figure_28 rfl (lv_at hl 2 rfl) ?_
  refine q_rS (As := [.int (vv), .int (x), .int (y)]) (rest := [.ref m0]) ⟨hx, hb, hml, hown, hts⟩ (c_X7_in l D cy vv x y) (va_cwS 3 hts gX7_figure_X7_in rfl rfl rfl (by decide +kernel) ⟨Nat.le_of_ble_eq_true rfl, Nat.le_of_ble_eq_true rfl⟩) hP hK [] rfl rfl hl.1 rfl (Nat.le_of_ble_eq_true rfl) dX7_figure_29 ⟨Nat.zero_le _, Nat.zero_le _⟩ (fun r2 hr2 => ?_)
  rcases hr2 with ⟨rfl, b3⟩ | ⟨rfl, b3⟩
  · have _ := b3
    refine lv_iconst (v := nI 2) hx hb dX7_figure_32 (by decide) ?_
    refine q_wiV (As := [.int (nI 1), .int (nI 2)]) (rest := []) (wr := []) ⟨hx, hb, hml, hown, hts⟩ (c_X7_takes_e l D cy m0 ml mm mit ms mt nw dr tr pa ig kx be tc st fk (nI q) av sv ov vv tn ac td q (by omega) (nI 1) (nI 2)) (cwV 2 hts gX7_figure_X7_takes rfl rfl rfl (by decide +kernel) ⟨Nat.le_of_ble_eq_true rfl, Nat.le_of_ble_eq_true rfl⟩) hP hD hS hA hK [0] [] rfl rfl (by decide) rfl (by decide) (by decide) 0 rfl rfl rfl rfl hl.1 rfl (Nat.le_of_ble_eq_true rfl) dX7_figure_33 ⟨Nat.zero_le _, Nat.zero_le _⟩ (fun r4 u5 H locs hr4 hP hD hS => ?_)
    obtain ⟨rfl, rfl⟩ := hr4
    have hP : va_P D vwCl [(m0, .inr (7, [.ref ml, .ref mm, .ref mit, .ref ms, .int (st), .ref mt, .int (nI tn), .int (fk), .int (nI q), .int (av), .int (sv), .int (ov), .int (vv), .ref nw, .ref dr, .ref tr, .ref pa, .int (nI ac), .ref ig, .ref kx, .ref be, .ref tc, .int (nI td)]))] H := hP
    have hD : va_D A [(m0, .inr (7, [.ref ml, .ref mm, .ref mit, .ref ms, .int (st), .ref mt, .int (nI tn), .int (fk), .int (nI q), .int (av), .int (sv), .int (ov), .int (vv), .ref nw, .ref dr, .ref tr, .ref pa, .int (nI ac), .ref ig, .ref kx, .ref be, .ref tc, .int (nI td)]))] := hD
    have hP9 := hP
    have hD9 := hD
    exact q_wiret (v := nI 0) hx hb hr hlocks dX7_figure_36 hP9 hD9 hS (⟨rfl, rfl⟩)
  · have _ := b3
    refine lv_iconst (v := nI 2) hx hb dX7_figure_32 (by decide) ?_
    refine q_wiV (As := [.int (nI 0), .int (nI 2)]) (rest := []) (wr := []) ⟨hx, hb, hml, hown, hts⟩ (c_X7_takes_e l D cy m0 ml mm mit ms mt nw dr tr pa ig kx be tc st fk (nI q) av sv ov vv tn ac td q (by omega) (nI 0) (nI 2)) (cwV 2 hts gX7_figure_X7_takes rfl rfl rfl (by decide +kernel) ⟨Nat.le_of_ble_eq_true rfl, Nat.le_of_ble_eq_true rfl⟩) hP hD hS hA hK [0] [] rfl rfl (by decide) rfl (by decide) (by decide) 0 rfl rfl rfl rfl hl.1 rfl (Nat.le_of_ble_eq_true rfl) dX7_figure_33 ⟨Nat.zero_le _, Nat.zero_le _⟩ (fun r6 u7 H locs hr6 hP hD hS => ?_)
    obtain ⟨rfl, rfl⟩ := hr6
    have hP : va_P D vwCl [(m0, .inr (7, [.ref ml, .ref mm, .ref mit, .ref ms, .int (st), .ref mt, .int (nI tn), .int (fk), .int (nI q), .int (av), .int (sv), .int (ov), .int (vv), .ref nw, .ref dr, .ref tr, .ref pa, .int (nI ac), .ref ig, .ref kx, .ref be, .ref tc, .int (nI td)]))] H := hP
    have hD : va_D A [(m0, .inr (7, [.ref ml, .ref mm, .ref mit, .ref ms, .int (st), .ref mt, .int (nI tn), .int (fk), .int (nI q), .int (av), .int (sv), .int (ov), .int (vv), .ref nw, .ref dr, .ref tr, .ref pa, .int (nI ac), .ref ig, .ref kx, .ref be, .ref tc, .int (nI td)]))] := hD
    have hP9 := hP
    have hD9 := hD
    exact q_wiret (v := nI 0) hx hb hr hlocks dX7_figure_36 hP9 hD9 hS (⟨rfl, rfl⟩)
theorem nX7_figure_k_0 : ∀ w ∈ wsX70, w ∈ wsX7_figure := by decide +kernel
theorem mX7_figure_k_1 : Cond.fieldLink RX7 98 "ClueLeaveModel" "token" "I" ∈ wsX7_figure := by decide +kernel
theorem mX7_figure_k_2 : Cond.fieldLink RX7 95 "ClueLeaveModel" "value" "I" ∈ wsX7_figure := by decide +kernel
set_option maxHeartbeats 4000000 in
set_option maxRecDepth 100000 in
theorem c_X7_figure_k (l : Launch) (D : va_G) (cy : Nat → ClassId) (m0 ml mm mit ms mt nw dr tr pa ig kx be tc : Nat) (st fk fp av sv ov vv : Int32) (tn ac td : Nat) (ft : Nat → Int32) (tp : Nat → Nat) (htn : tn ≤ 100) (htp : tpIs tn tp ft) (p : Nat) (hp : p ≤ tn) (lo hi : Nat) (hlo : lo < 2 ^ 31) (hhi : hi < 2 ^ 31) : q_Wi l yX7_figure wsX7_figure 4 D cy [(m0, .inr (7, [.ref ml, .ref mm, .ref mit, .ref ms, .int (st), .ref mt, .int (nI tn), .int (fk), .int ((-1)), .int (nI (tkE tp tn p)), .int (nI p), .int (nI (tkK tp tn p)), .int (tkV tp tn p), .ref nw, .ref dr, .ref tr, .ref pa, .int (nI ac), .ref ig, .ref kx, .ref be, .ref tc, .int (nI td)])), (mt, .inl (cy 0, 100, .inl ft))] [.ref m0, .int (nI lo), .int (nI hi)] (fun r u => (∃ q v : Nat, pNum tp tn lo hi p = .ok (q, v) ∧ p < q ∧ q ≤ tn ∧ lo ≤ v ∧ v ≤ hi ∧ r = nI v ∧ u = [(m0, .inr (7, [.ref ml, .ref mm, .ref mit, .ref ms, .int (st), .ref mt, .int (nI tn), .int (fk), .int ((-1)), .int (nI (tkE tp tn q)), .int (nI q), .int (nI (tkK tp tn q)), .int (tkV tp tn q), .ref nw, .ref dr, .ref tr, .ref pa, .int (nI ac), .ref ig, .ref kx, .ref be, .ref tc, .int (nI td)])), (mt, .inl (cy 0, 100, .inl ft))]) ∨ (∃ k : Nat, pNum tp tn lo hi p = .error (p, k) ∧ r = nI 0 ∧ u = [(m0, .inr (7, [.ref ml, .ref mm, .ref mit, .ref ms, .int (st), .ref mt, .int (nI tn), .int (nI k), .int (nI p), .int (nI (tkE tp tn p)), .int (nI p), .int (nI (tkK tp tn p)), .int (tkV tp tn p), .ref nw, .ref dr, .ref tr, .ref pa, .int (nI ac), .ref ig, .ref kx, .ref be, .ref tc, .int (nI td)])), (mt, .inl (cy 0, 100, .inl ft))])) := by
  refine q_wi_of (cc := cX7_figure) (maxL := 3) (ret := (some .int)) (by decide) rfl (Nat.le_of_ble_eq_true rfl) ?_
  intro pg en s mi args below meth cd A hC hA hK H locs hP hD hS ls hl
  obtain ⟨hx, hb, hr, hml, hown, hts, hlocks⟩ := hC
  have hl : lv_has ls 3 [(0, .ref m0), (1, .int (nI lo)), (2, .int (nI hi))] := hl
  have hpe := tkE_le (tp := tp) hp
  refine lv_aload_n hx hb dX7_figure_0 rfl (lv_at hl 0 rfl) ?_
  refine q_rV (As := []) (rest := []) ⟨hx, hb, hml, hown, hts⟩ (c_X7_isWell_y l D cy m0 ml mm mit ms mt nw dr tr pa ig kx be tc st fk (-1) (nI (tkE tp tn p)) (nI p) (nI (tkK tp tn p)) (tkV tp tn p) tn ac td) (cwV 0 hts gX7_figure_X7_isWell rfl rfl rfl (by decide +kernel) ⟨Nat.le_of_ble_eq_true rfl, Nat.le_of_ble_eq_true rfl⟩) hP hK [0] rfl 0 rfl rfl rfl rfl hl.1 rfl (Nat.le_of_ble_eq_true rfl) dX7_figure_1 ⟨Nat.zero_le _, Nat.zero_le _⟩ (fun r1 hr1 => ?_)
  obtain rfl := hr1
  refine lv_if_eq (tgt := 22) hx hb dX7_figure_4 (by decide) (fun c9 => absurd c9 (by decide)) (fun _ => ?_)
  refine lv_aload_n hx hb dX7_figure_7 rfl (lv_at hl 0 rfl) ?_
  refine va_get (D := D) (ci := 7) (v := .int (nI (tkK tp tn p))) (C := RX7) (T := TX7) (N := 23) hx hb hts nX7_figure_k_0 hown hK.1 hP 0 rfl rfl 11 (by decide) (hts _ mX7_figure_k_1) (fun _ h9 => h9) rfl dX7_figure_8 ?_
  have hk5 := tkK_le tp tn p
  refine lv_iconst (v := nI 2) hx hb dX7_figure_11 (by decide) ?_
  refine q_icmp_eq (tgt := 22) hx hb dX7_figure_12 (by decide) (by omega) (by decide) (fun c2 => ?_) (fun c2 => ?_)
  · have hk2 := c2
    have hr12 := tkK_2 hk2
    have hnl := tkN_lt htp hk2
    refine lv_aload_n hx hb dX7_figure_22 rfl (lv_at hl 0 rfl) ?_
    refine lv_aload_n hx hb dX7_figure_23 rfl (lv_at hl 0 rfl) ?_
    refine va_get (D := D) (ci := 7) (v := .int (tkV tp tn p)) (C := RX7) (T := TX7) (N := 23) hx hb hts nX7_figure_k_0 hown hK.1 hP 0 rfl rfl 12 (by decide) (hts _ mX7_figure_k_2) (fun _ h9 => h9) rfl dX7_figure_24 ?_
    refine q_top (y := nI (tkNum tp p (tkRun tp tn p))) (tkV_2 hk2) ?_
    refine lv_iload_n hx hb dX7_figure_27 rfl (lv_at hl 1 rfl) ?_
    refine lv_iload_n hx hb dX7_figure_28 rfl (lv_at hl 2 rfl) ?_
    refine q_rS (As := [.int (nI (tkNum tp p (tkRun tp tn p))), .int (nI lo), .int (nI hi)]) (rest := [.ref m0]) ⟨hx, hb, hml, hown, hts⟩ (c_X7_in l D cy (nI (tkNum tp p (tkRun tp tn p))) (nI lo) (nI hi)) (va_cwS 3 hts gX7_figure_X7_in rfl rfl rfl (by decide +kernel) ⟨Nat.le_of_ble_eq_true rfl, Nat.le_of_ble_eq_true rfl⟩) hP hK [] rfl rfl hl.1 rfl (Nat.le_of_ble_eq_true rfl) dX7_figure_29 ⟨Nat.zero_le _, Nat.zero_le _⟩ (fun r3 hr3 => ?_)
    rcases hr3 with ⟨rfl, b4⟩ | ⟨rfl, b4⟩
    · have _ := b4
      have hwn := (q_wn (by omega) (by omega) (by omega)).mp b4
      refine lv_iconst (v := nI 2) hx hb dX7_figure_32 (by decide) ?_
      refine q_wiV (As := [.int (nI 1), .int (nI 2)]) (rest := []) (wr := []) ⟨hx, hb, hml, hown, hts⟩ (c_X7_takes_y l D cy m0 ml mm mit ms mt nw dr tr pa ig kx be tc st fk (-1) (nI (tkE tp tn p)) (nI p) (nI (tkK tp tn p)) (tkV tp tn p) tn ac td ft tp htn htp (tkE tp tn p) (by omega) (nI 2)) (cwV 2 hts gX7_figure_X7_takes rfl rfl rfl (by decide +kernel) ⟨Nat.le_of_ble_eq_true rfl, Nat.le_of_ble_eq_true rfl⟩) hP hD hS hA hK [0, 1] [] rfl rfl (by decide) rfl (by decide) (by decide) 0 rfl rfl rfl rfl hl.1 rfl (Nat.le_of_ble_eq_true rfl) dX7_figure_33 ⟨Nat.zero_le _, Nat.zero_le _⟩ (fun r5 u6 H locs hr5 hP hD hS => ?_)
      obtain ⟨rfl, rfl⟩ := hr5
      have hP : va_P D vwCl [(m0, .inr (7, [.ref ml, .ref mm, .ref mit, .ref ms, .int (st), .ref mt, .int (nI tn), .int (fk), .int ((-1)), .int (nI (tkE tp tn (tkE tp tn p))), .int (nI (tkE tp tn p)), .int (nI (tkK tp tn (tkE tp tn p))), .int (tkV tp tn (tkE tp tn p)), .ref nw, .ref dr, .ref tr, .ref pa, .int (nI ac), .ref ig, .ref kx, .ref be, .ref tc, .int (nI td)])), (mt, .inl (cy 0, 100, .inl ft))] H := hP
      have hD : va_D A [(m0, .inr (7, [.ref ml, .ref mm, .ref mit, .ref ms, .int (st), .ref mt, .int (nI tn), .int (fk), .int ((-1)), .int (nI (tkE tp tn (tkE tp tn p))), .int (nI (tkE tp tn p)), .int (nI (tkK tp tn (tkE tp tn p))), .int (tkV tp tn (tkE tp tn p)), .ref nw, .ref dr, .ref tr, .ref pa, .int (nI ac), .ref ig, .ref kx, .ref be, .ref tc, .int (nI td)])), (mt, .inl (cy 0, 100, .inl ft))] := hD
      refine q_top (y := nI (tkNum tp p (tkRun tp tn p))) (tkV_2 hk2) ?_
      have hP9 := hP
      have hD9 := hD
      exact q_wiret (v := nI (tkNum tp p (tkRun tp tn p))) hx hb hr hlocks dX7_figure_36 hP9 hD9 hS (Or.inl ⟨_, _, by rw [tkE_2 hk2]; exact pNum_k rfl (by omega) (by omega) hwn, tkE_gt hk2, tkE_le hp, hwn.1, hwn.2, rfl, rfl⟩)
    · have _ := b4
      have hwn := fun q => b4 ((q_wn (by omega) (by omega) (by omega)).mpr q)
      refine lv_iconst (v := nI 2) hx hb dX7_figure_32 (by decide) ?_
      refine q_wiV (As := [.int (nI 0), .int (nI 2)]) (rest := []) (wr := [(mt, .inl (cy 0, 100, .inl ft))]) ⟨hx, hb, hml, hown, hts⟩ (c_X7_takes_n l D cy m0 ml mm mit ms mt nw dr tr pa ig kx be tc st fk (-1) (nI (tkE tp tn p)) (nI p) (nI (tkK tp tn p)) (tkV tp tn p) tn ac td (nI 2)) (cwV 2 hts gX7_figure_X7_takes rfl rfl rfl (by decide +kernel) ⟨Nat.le_of_ble_eq_true rfl, Nat.le_of_ble_eq_true rfl⟩) hP hD hS hA hK [0] [1] rfl rfl (by decide) rfl (by decide) (by decide) 0 rfl rfl rfl rfl hl.1 rfl (Nat.le_of_ble_eq_true rfl) dX7_figure_33 ⟨Nat.zero_le _, Nat.zero_le _⟩ (fun r7 u8 H locs hr7 hP hD hS => ?_)
      obtain ⟨rfl, rfl⟩ := hr7
      have hP : va_P D vwCl [(mt, .inl (cy 0, 100, .inl ft)), (m0, .inr (7, [.ref ml, .ref mm, .ref mit, .ref ms, .int (st), .ref mt, .int (nI tn), .int (nI 2), .int (nI p), .int (nI (tkE tp tn p)), .int (nI p), .int (nI (tkK tp tn p)), .int (tkV tp tn p), .ref nw, .ref dr, .ref tr, .ref pa, .int (nI ac), .ref ig, .ref kx, .ref be, .ref tc, .int (nI td)]))] H := hP
      have hD : va_D A [(mt, .inl (cy 0, 100, .inl ft)), (m0, .inr (7, [.ref ml, .ref mm, .ref mit, .ref ms, .int (st), .ref mt, .int (nI tn), .int (nI 2), .int (nI p), .int (nI (tkE tp tn p)), .int (nI p), .int (nI (tkK tp tn p)), .int (tkV tp tn p), .ref nw, .ref dr, .ref tr, .ref pa, .int (nI ac), .ref ig, .ref kx, .ref be, .ref tc, .int (nI td)]))] := hD
      have hP9 := hP.sub (ws' := [(m0, .inr (7, [.ref ml, .ref mm, .ref mit, .ref ms, .int (st), .ref mt, .int (nI tn), .int (nI 2), .int (nI p), .int (nI (tkE tp tn p)), .int (nI p), .int (nI (tkK tp tn p)), .int (tkV tp tn p), .ref nw, .ref dr, .ref tr, .ref pa, .int (nI ac), .ref ig, .ref kx, .ref be, .ref tc, .int (nI td)])), (mt, .inl (cy 0, 100, .inl ft))]) [1, 0] rfl
      have hD9 := hD.sub (ws' := [(m0, .inr (7, [.ref ml, .ref mm, .ref mit, .ref ms, .int (st), .ref mt, .int (nI tn), .int (nI 2), .int (nI p), .int (nI (tkE tp tn p)), .int (nI p), .int (nI (tkK tp tn p)), .int (tkV tp tn p), .ref nw, .ref dr, .ref tr, .ref pa, .int (nI ac), .ref ig, .ref kx, .ref be, .ref tc, .int (nI td)])), (mt, .inl (cy 0, 100, .inl ft))]) [1, 0] (by decide) rfl
      exact q_wiret (v := nI 0) hx hb hr hlocks dX7_figure_36 hP9 hD9 hS (Or.inr ⟨2, pNum_e2 rfl (by omega) (by omega) hwn, rfl, rfl⟩)
  · refine lv_aload_n hx hb dX7_figure_15 rfl (lv_at hl 0 rfl) ?_
    refine lv_iconst (v := nI 0) hx hb dX7_figure_16 (by decide) ?_
    refine lv_iconst (v := nI 1) hx hb dX7_figure_17 (by decide) ?_
    refine q_wiV (As := [.int (nI 0), .int (nI 1)]) (rest := []) (wr := [(mt, .inl (cy 0, 100, .inl ft))]) ⟨hx, hb, hml, hown, hts⟩ (c_X7_takes_n l D cy m0 ml mm mit ms mt nw dr tr pa ig kx be tc st fk (-1) (nI (tkE tp tn p)) (nI p) (nI (tkK tp tn p)) (tkV tp tn p) tn ac td (nI 1)) (cwV 2 hts gX7_figure_X7_takes rfl rfl rfl (by decide +kernel) ⟨Nat.le_of_ble_eq_true rfl, Nat.le_of_ble_eq_true rfl⟩) hP hD hS hA hK [0] [1] rfl rfl (by decide) rfl (by decide) (by decide) 0 rfl rfl rfl rfl hl.1 rfl (Nat.le_of_ble_eq_true rfl) dX7_figure_18 ⟨Nat.zero_le _, Nat.zero_le _⟩ (fun r9 u10 H locs hr9 hP hD hS => ?_)
    obtain ⟨rfl, rfl⟩ := hr9
    have hP : va_P D vwCl [(mt, .inl (cy 0, 100, .inl ft)), (m0, .inr (7, [.ref ml, .ref mm, .ref mit, .ref ms, .int (st), .ref mt, .int (nI tn), .int (nI 1), .int (nI p), .int (nI (tkE tp tn p)), .int (nI p), .int (nI (tkK tp tn p)), .int (tkV tp tn p), .ref nw, .ref dr, .ref tr, .ref pa, .int (nI ac), .ref ig, .ref kx, .ref be, .ref tc, .int (nI td)]))] H := hP
    have hD : va_D A [(mt, .inl (cy 0, 100, .inl ft)), (m0, .inr (7, [.ref ml, .ref mm, .ref mit, .ref ms, .int (st), .ref mt, .int (nI tn), .int (nI 1), .int (nI p), .int (nI (tkE tp tn p)), .int (nI p), .int (nI (tkK tp tn p)), .int (tkV tp tn p), .ref nw, .ref dr, .ref tr, .ref pa, .int (nI ac), .ref ig, .ref kx, .ref be, .ref tc, .int (nI td)]))] := hD
    have hP9 := hP.sub (ws' := [(m0, .inr (7, [.ref ml, .ref mm, .ref mit, .ref ms, .int (st), .ref mt, .int (nI tn), .int (nI 1), .int (nI p), .int (nI (tkE tp tn p)), .int (nI p), .int (nI (tkK tp tn p)), .int (tkV tp tn p), .ref nw, .ref dr, .ref tr, .ref pa, .int (nI ac), .ref ig, .ref kx, .ref be, .ref tc, .int (nI td)])), (mt, .inl (cy 0, 100, .inl ft))]) [1, 0] rfl
    have hD9 := hD.sub (ws' := [(m0, .inr (7, [.ref ml, .ref mm, .ref mit, .ref ms, .int (st), .ref mt, .int (nI tn), .int (nI 1), .int (nI p), .int (nI (tkE tp tn p)), .int (nI p), .int (nI (tkK tp tn p)), .int (tkV tp tn p), .ref nw, .ref dr, .ref tr, .ref pa, .int (nI ac), .ref ig, .ref kx, .ref be, .ref tc, .int (nI td)])), (mt, .inl (cy 0, 100, .inl ft))]) [1, 0] (by decide) rfl
    exact q_wiret (v := nI 0) hx hb hr hlocks dX7_figure_21 hP9 hD9 hS (Or.inr ⟨1, pNum_e1 rfl (tkK_n2 c2), rfl, rfl⟩)
theorem nX7_next_e_0 : ∀ w ∈ wsX70, w ∈ wsX7_next := by decide +kernel
theorem mX7_next_e_1 : Cond.fieldLink RX7 98 "ClueLeaveModel" "token" "I" ∈ wsX7_next := by decide +kernel
set_option maxHeartbeats 4000000 in
set_option maxRecDepth 100000 in
theorem c_X7_next_e (l : Launch) (D : va_G) (cy : Nat → ClassId) (m0 ml mm mit ms mt nw dr tr pa ig kx be tc : Nat) (st fk fp av sv ov vv : Int32) (tn ac td : Nat) (q : Nat) (hq : q < 2 ^ 31) (x y : Int32) : q_Wi l yX7_next wsX7_next 5 D cy [(m0, .inr (7, [.ref ml, .ref mm, .ref mit, .ref ms, .int (st), .ref mt, .int (nI tn), .int (fk), .int (nI q), .int (av), .int (sv), .int (ov), .int (vv), .ref nw, .ref dr, .ref tr, .ref pa, .int (nI ac), .ref ig, .ref kx, .ref be, .ref tc, .int (nI td)]))] [.ref m0, .int (x), .int (y)] (fun r u => r = nI 0 ∧ u = [(m0, .inr (7, [.ref ml, .ref mm, .ref mit, .ref ms, .int (st), .ref mt, .int (nI tn), .int (fk), .int (nI q), .int (av), .int (sv), .int (ov), .int (vv), .ref nw, .ref dr, .ref tr, .ref pa, .int (nI ac), .ref ig, .ref kx, .ref be, .ref tc, .int (nI td)]))]) := by
  refine q_wi_of (cc := cX7_next) (maxL := 3) (ret := (some .int)) (by decide) rfl (Nat.le_of_ble_eq_true rfl) ?_
  intro pg en s mi args below meth cd A hC hA hK H locs hP hD hS ls hl
  obtain ⟨hx, hb, hr, hml, hown, hts, hlocks⟩ := hC
  have hl : lv_has ls 3 [(0, .ref m0), (1, .int (x)), (2, .int (y))] := hl
  refine lv_aload_n hx hb dX7_next_0 rfl (lv_at hl 0 rfl) ?_
  refine lv_aload_n hx hb dX7_next_1 rfl (lv_at hl 0 rfl) ?_
  refine va_get (D := D) (ci := 7) (v := .int (ov)) (C := RX7) (T := TX7) (N := 23) hx hb hts nX7_next_e_0 hown hK.1 hP 0 rfl rfl 11 (by decide) (hts _ mX7_next_e_1) (fun _ h9 => h9) rfl dX7_next_2 ?_
  refine lv_iconst (v := nI 3) hx hb dX7_next_5 (by decide) ?_
  refine lv_icmp_ne (tgt := 13) hx hb dX7_next_6 (by decide) (fun c1 => ?_) (fun c1 => ?_)
  · refine lv_iconst (v := nI 0) hx hb dX7_next_13 (by decide) ?_
    refine lv_iconst (v := nI 1) hx hb dX7_next_14 (by decide) ?_
    refine q_wiV (As := [.int (nI 0), .int (nI 1)]) (rest := []) (wr := []) ⟨hx, hb, hml, hown, hts⟩ (c_X7_takes_e l D cy m0 ml mm mit ms mt nw dr tr pa ig kx be tc st fk (nI q) av sv ov vv tn ac td q (by omega) (nI 0) (nI 1)) (cwV 2 hts gX7_next_X7_takes rfl rfl rfl (by decide +kernel) ⟨Nat.le_of_ble_eq_true rfl, Nat.le_of_ble_eq_true rfl⟩) hP hD hS hA hK [0] [] rfl rfl (by decide) rfl (by decide) (by decide) 0 rfl rfl rfl rfl hl.1 rfl (Nat.le_of_ble_eq_true rfl) dX7_next_15 ⟨Nat.zero_le _, Nat.zero_le _⟩ (fun r2 u3 H locs hr2 hP hD hS => ?_)
    obtain ⟨rfl, rfl⟩ := hr2
    have hP : va_P D vwCl [(m0, .inr (7, [.ref ml, .ref mm, .ref mit, .ref ms, .int (st), .ref mt, .int (nI tn), .int (fk), .int (nI q), .int (av), .int (sv), .int (ov), .int (vv), .ref nw, .ref dr, .ref tr, .ref pa, .int (nI ac), .ref ig, .ref kx, .ref be, .ref tc, .int (nI td)]))] H := hP
    have hD : va_D A [(m0, .inr (7, [.ref ml, .ref mm, .ref mit, .ref ms, .int (st), .ref mt, .int (nI tn), .int (fk), .int (nI q), .int (av), .int (sv), .int (ov), .int (vv), .ref nw, .ref dr, .ref tr, .ref pa, .int (nI ac), .ref ig, .ref kx, .ref be, .ref tc, .int (nI td)]))] := hD
    refine lv_pop hx hb dX7_next_18 rfl ?_
    refine lv_aload_n hx hb dX7_next_19 rfl (lv_at hl 0 rfl) ?_
    refine lv_iload_n hx hb dX7_next_20 rfl (lv_at hl 1 rfl) ?_
    refine lv_iload_n hx hb dX7_next_21 rfl (lv_at hl 2 rfl) ?_
    refine q_wiV (As := [.int (x), .int (y)]) (rest := []) (wr := []) ⟨hx, hb, hml, hown, hts⟩ (c_X7_figure_e l D cy m0 ml mm mit ms mt nw dr tr pa ig kx be tc st fk (nI q) av sv ov vv tn ac td q (by omega) x y) (cwV 2 hts gX7_next_X7_figure rfl rfl rfl (by decide +kernel) ⟨Nat.le_of_ble_eq_true rfl, Nat.le_of_ble_eq_true rfl⟩) hP hD hS hA hK [0] [] rfl rfl (by decide) rfl (by decide) (by decide) 0 rfl rfl rfl rfl hl.1 rfl (Nat.le_of_ble_eq_true rfl) dX7_next_22 ⟨Nat.zero_le _, Nat.zero_le _⟩ (fun r4 u5 H locs hr4 hP hD hS => ?_)
    obtain ⟨rfl, rfl⟩ := hr4
    have hP : va_P D vwCl [(m0, .inr (7, [.ref ml, .ref mm, .ref mit, .ref ms, .int (st), .ref mt, .int (nI tn), .int (fk), .int (nI q), .int (av), .int (sv), .int (ov), .int (vv), .ref nw, .ref dr, .ref tr, .ref pa, .int (nI ac), .ref ig, .ref kx, .ref be, .ref tc, .int (nI td)]))] H := hP
    have hD : va_D A [(m0, .inr (7, [.ref ml, .ref mm, .ref mit, .ref ms, .int (st), .ref mt, .int (nI tn), .int (fk), .int (nI q), .int (av), .int (sv), .int (ov), .int (vv), .ref nw, .ref dr, .ref tr, .ref pa, .int (nI ac), .ref ig, .ref kx, .ref be, .ref tc, .int (nI td)]))] := hD
    have hP9 := hP
    have hD9 := hD
    exact q_wiret (v := nI 0) hx hb hr hlocks dX7_next_25 hP9 hD9 hS (⟨rfl, rfl⟩)
  · refine lv_iconst (v := nI 1) hx hb dX7_next_9 (by decide) ?_
    refine lv_goto (tgt := 14) hx hb dX7_next_10 (by decide) ?_
    refine lv_iconst (v := nI 1) hx hb dX7_next_14 (by decide) ?_
    refine q_wiV (As := [.int (nI 1), .int (nI 1)]) (rest := []) (wr := []) ⟨hx, hb, hml, hown, hts⟩ (c_X7_takes_e l D cy m0 ml mm mit ms mt nw dr tr pa ig kx be tc st fk (nI q) av sv ov vv tn ac td q (by omega) (nI 1) (nI 1)) (cwV 2 hts gX7_next_X7_takes rfl rfl rfl (by decide +kernel) ⟨Nat.le_of_ble_eq_true rfl, Nat.le_of_ble_eq_true rfl⟩) hP hD hS hA hK [0] [] rfl rfl (by decide) rfl (by decide) (by decide) 0 rfl rfl rfl rfl hl.1 rfl (Nat.le_of_ble_eq_true rfl) dX7_next_15 ⟨Nat.zero_le _, Nat.zero_le _⟩ (fun r6 u7 H locs hr6 hP hD hS => ?_)
    obtain ⟨rfl, rfl⟩ := hr6
    have hP : va_P D vwCl [(m0, .inr (7, [.ref ml, .ref mm, .ref mit, .ref ms, .int (st), .ref mt, .int (nI tn), .int (fk), .int (nI q), .int (av), .int (sv), .int (ov), .int (vv), .ref nw, .ref dr, .ref tr, .ref pa, .int (nI ac), .ref ig, .ref kx, .ref be, .ref tc, .int (nI td)]))] H := hP
    have hD : va_D A [(m0, .inr (7, [.ref ml, .ref mm, .ref mit, .ref ms, .int (st), .ref mt, .int (nI tn), .int (fk), .int (nI q), .int (av), .int (sv), .int (ov), .int (vv), .ref nw, .ref dr, .ref tr, .ref pa, .int (nI ac), .ref ig, .ref kx, .ref be, .ref tc, .int (nI td)]))] := hD
    refine lv_pop hx hb dX7_next_18 rfl ?_
    refine lv_aload_n hx hb dX7_next_19 rfl (lv_at hl 0 rfl) ?_
    refine lv_iload_n hx hb dX7_next_20 rfl (lv_at hl 1 rfl) ?_
    refine lv_iload_n hx hb dX7_next_21 rfl (lv_at hl 2 rfl) ?_
    refine q_wiV (As := [.int (x), .int (y)]) (rest := []) (wr := []) ⟨hx, hb, hml, hown, hts⟩ (c_X7_figure_e l D cy m0 ml mm mit ms mt nw dr tr pa ig kx be tc st fk (nI q) av sv ov vv tn ac td q (by omega) x y) (cwV 2 hts gX7_next_X7_figure rfl rfl rfl (by decide +kernel) ⟨Nat.le_of_ble_eq_true rfl, Nat.le_of_ble_eq_true rfl⟩) hP hD hS hA hK [0] [] rfl rfl (by decide) rfl (by decide) (by decide) 0 rfl rfl rfl rfl hl.1 rfl (Nat.le_of_ble_eq_true rfl) dX7_next_22 ⟨Nat.zero_le _, Nat.zero_le _⟩ (fun r8 u9 H locs hr8 hP hD hS => ?_)
    obtain ⟨rfl, rfl⟩ := hr8
    have hP : va_P D vwCl [(m0, .inr (7, [.ref ml, .ref mm, .ref mit, .ref ms, .int (st), .ref mt, .int (nI tn), .int (fk), .int (nI q), .int (av), .int (sv), .int (ov), .int (vv), .ref nw, .ref dr, .ref tr, .ref pa, .int (nI ac), .ref ig, .ref kx, .ref be, .ref tc, .int (nI td)]))] H := hP
    have hD : va_D A [(m0, .inr (7, [.ref ml, .ref mm, .ref mit, .ref ms, .int (st), .ref mt, .int (nI tn), .int (fk), .int (nI q), .int (av), .int (sv), .int (ov), .int (vv), .ref nw, .ref dr, .ref tr, .ref pa, .int (nI ac), .ref ig, .ref kx, .ref be, .ref tc, .int (nI td)]))] := hD
    have hP9 := hP
    have hD9 := hD
    exact q_wiret (v := nI 0) hx hb hr hlocks dX7_next_25 hP9 hD9 hS (⟨rfl, rfl⟩)
theorem nX7_next_k_0 : ∀ w ∈ wsX70, w ∈ wsX7_next := by decide +kernel
theorem mX7_next_k_1 : Cond.fieldLink RX7 98 "ClueLeaveModel" "token" "I" ∈ wsX7_next := by decide +kernel
set_option maxHeartbeats 4000000 in
set_option maxRecDepth 100000 in
theorem c_X7_next_k (l : Launch) (D : va_G) (cy : Nat → ClassId) (m0 ml mm mit ms mt nw dr tr pa ig kx be tc : Nat) (st fk fp av sv ov vv : Int32) (tn ac td : Nat) (ft : Nat → Int32) (tp : Nat → Nat) (htn : tn ≤ 100) (htp : tpIs tn tp ft) (p : Nat) (hp : p ≤ tn) (lo hi : Nat) (hlo : lo < 2 ^ 31) (hhi : hi < 2 ^ 31) : q_Wi l yX7_next wsX7_next 5 D cy [(m0, .inr (7, [.ref ml, .ref mm, .ref mit, .ref ms, .int (st), .ref mt, .int (nI tn), .int (fk), .int ((-1)), .int (nI (tkE tp tn p)), .int (nI p), .int (nI (tkK tp tn p)), .int (tkV tp tn p), .ref nw, .ref dr, .ref tr, .ref pa, .int (nI ac), .ref ig, .ref kx, .ref be, .ref tc, .int (nI td)])), (mt, .inl (cy 0, 100, .inl ft))] [.ref m0, .int (nI lo), .int (nI hi)] (fun r u => (∃ p2 q v : Nat, pTake tp tn 44 p = .ok p2 ∧ pNum tp tn lo hi p2 = .ok (q, v) ∧ p < q ∧ q ≤ tn ∧ lo ≤ v ∧ v ≤ hi ∧ r = nI v ∧ u = [(m0, .inr (7, [.ref ml, .ref mm, .ref mit, .ref ms, .int (st), .ref mt, .int (nI tn), .int (fk), .int ((-1)), .int (nI (tkE tp tn q)), .int (nI q), .int (nI (tkK tp tn q)), .int (tkV tp tn q), .ref nw, .ref dr, .ref tr, .ref pa, .int (nI ac), .ref ig, .ref kx, .ref be, .ref tc, .int (nI td)])), (mt, .inl (cy 0, 100, .inl ft))]) ∨ (∃ (q k : Nat) (a1 a2 a3 a4 : Int32), (pTake tp tn 44 p = .error (q, k) ∨ ∃ p2, pTake tp tn 44 p = .ok p2 ∧ pNum tp tn lo hi p2 = .error (q, k)) ∧ q ≤ tn ∧ r = nI 0 ∧ u = [(m0, .inr (7, [.ref ml, .ref mm, .ref mit, .ref ms, .int (st), .ref mt, .int (nI tn), .int (nI k), .int (nI q), .int (a1), .int (a2), .int (a3), .int (a4), .ref nw, .ref dr, .ref tr, .ref pa, .int (nI ac), .ref ig, .ref kx, .ref be, .ref tc, .int (nI td)])), (mt, .inl (cy 0, 100, .inl ft))])) := by
  refine q_wi_of (cc := cX7_next) (maxL := 3) (ret := (some .int)) (by decide) rfl (Nat.le_of_ble_eq_true rfl) ?_
  intro pg en s mi args below meth cd A hC hA hK H locs hP hD hS ls hl
  obtain ⟨hx, hb, hr, hml, hown, hts, hlocks⟩ := hC
  have hl : lv_has ls 3 [(0, .ref m0), (1, .int (nI lo)), (2, .int (nI hi))] := hl
  have hpe := tkE_le (tp := tp) hp
  refine lv_aload_n hx hb dX7_next_0 rfl (lv_at hl 0 rfl) ?_
  refine lv_aload_n hx hb dX7_next_1 rfl (lv_at hl 0 rfl) ?_
  refine va_get (D := D) (ci := 7) (v := .int (nI (tkK tp tn p))) (C := RX7) (T := TX7) (N := 23) hx hb hts nX7_next_k_0 hown hK.1 hP 0 rfl rfl 11 (by decide) (hts _ mX7_next_k_1) (fun _ h9 => h9) rfl dX7_next_2 ?_
  refine lv_iconst (v := nI 3) hx hb dX7_next_5 (by decide) ?_
  have hk5 := tkK_le tp tn p
  refine q_icmp_ne (tgt := 13) hx hb dX7_next_6 (by decide) (by omega) (by decide) (fun c1 => ?_) (fun c1 => ?_)
  · have htk := tkK_n3 c1
    refine lv_iconst (v := nI 0) hx hb dX7_next_13 (by decide) ?_
    refine lv_iconst (v := nI 1) hx hb dX7_next_14 (by decide) ?_
    refine q_wiV (As := [.int (nI 0), .int (nI 1)]) (rest := []) (wr := [(mt, .inl (cy 0, 100, .inl ft))]) ⟨hx, hb, hml, hown, hts⟩ (c_X7_takes_n l D cy m0 ml mm mit ms mt nw dr tr pa ig kx be tc st fk (-1) (nI (tkE tp tn p)) (nI p) (nI (tkK tp tn p)) (tkV tp tn p) tn ac td (nI 1)) (cwV 2 hts gX7_next_X7_takes rfl rfl rfl (by decide +kernel) ⟨Nat.le_of_ble_eq_true rfl, Nat.le_of_ble_eq_true rfl⟩) hP hD hS hA hK [0] [1] rfl rfl (by decide) rfl (by decide) (by decide) 0 rfl rfl rfl rfl hl.1 rfl (Nat.le_of_ble_eq_true rfl) dX7_next_15 ⟨Nat.zero_le _, Nat.zero_le _⟩ (fun r2 u3 H locs hr2 hP hD hS => ?_)
    obtain ⟨rfl, rfl⟩ := hr2
    have hP : va_P D vwCl [(mt, .inl (cy 0, 100, .inl ft)), (m0, .inr (7, [.ref ml, .ref mm, .ref mit, .ref ms, .int (st), .ref mt, .int (nI tn), .int (nI 1), .int (nI p), .int (nI (tkE tp tn p)), .int (nI p), .int (nI (tkK tp tn p)), .int (tkV tp tn p), .ref nw, .ref dr, .ref tr, .ref pa, .int (nI ac), .ref ig, .ref kx, .ref be, .ref tc, .int (nI td)]))] H := hP
    have hD : va_D A [(mt, .inl (cy 0, 100, .inl ft)), (m0, .inr (7, [.ref ml, .ref mm, .ref mit, .ref ms, .int (st), .ref mt, .int (nI tn), .int (nI 1), .int (nI p), .int (nI (tkE tp tn p)), .int (nI p), .int (nI (tkK tp tn p)), .int (tkV tp tn p), .ref nw, .ref dr, .ref tr, .ref pa, .int (nI ac), .ref ig, .ref kx, .ref be, .ref tc, .int (nI td)]))] := hD
    refine lv_pop hx hb dX7_next_18 rfl ?_
    refine lv_aload_n hx hb dX7_next_19 rfl (lv_at hl 0 rfl) ?_
    refine lv_iload_n hx hb dX7_next_20 rfl (lv_at hl 1 rfl) ?_
    refine lv_iload_n hx hb dX7_next_21 rfl (lv_at hl 2 rfl) ?_
    refine q_wiV (As := [.int (nI lo), .int (nI hi)]) (rest := []) (wr := [(mt, .inl (cy 0, 100, .inl ft))]) ⟨hx, hb, hml, hown, hts⟩ (c_X7_figure_e l D cy m0 ml mm mit ms mt nw dr tr pa ig kx be tc st (nI 1) (nI p) (nI (tkE tp tn p)) (nI p) (nI (tkK tp tn p)) (tkV tp tn p) tn ac td p (by omega) (nI lo) (nI hi)) (cwV 2 hts gX7_next_X7_figure rfl rfl rfl (by decide +kernel) ⟨Nat.le_of_ble_eq_true rfl, Nat.le_of_ble_eq_true rfl⟩) hP hD hS hA hK [1] [0] rfl rfl (by decide) rfl (by decide) (by decide) 1 rfl rfl rfl rfl hl.1 rfl (Nat.le_of_ble_eq_true rfl) dX7_next_22 ⟨Nat.zero_le _, Nat.zero_le _⟩ (fun r4 u5 H locs hr4 hP hD hS => ?_)
    obtain ⟨rfl, rfl⟩ := hr4
    have hP : va_P D vwCl [(mt, .inl (cy 0, 100, .inl ft)), (m0, .inr (7, [.ref ml, .ref mm, .ref mit, .ref ms, .int (st), .ref mt, .int (nI tn), .int (nI 1), .int (nI p), .int (nI (tkE tp tn p)), .int (nI p), .int (nI (tkK tp tn p)), .int (tkV tp tn p), .ref nw, .ref dr, .ref tr, .ref pa, .int (nI ac), .ref ig, .ref kx, .ref be, .ref tc, .int (nI td)]))] H := hP
    have hD : va_D A [(mt, .inl (cy 0, 100, .inl ft)), (m0, .inr (7, [.ref ml, .ref mm, .ref mit, .ref ms, .int (st), .ref mt, .int (nI tn), .int (nI 1), .int (nI p), .int (nI (tkE tp tn p)), .int (nI p), .int (nI (tkK tp tn p)), .int (tkV tp tn p), .ref nw, .ref dr, .ref tr, .ref pa, .int (nI ac), .ref ig, .ref kx, .ref be, .ref tc, .int (nI td)]))] := hD
    have hP9 := hP.sub (ws' := [(m0, .inr (7, [.ref ml, .ref mm, .ref mit, .ref ms, .int (st), .ref mt, .int (nI tn), .int (nI 1), .int (nI p), .int (nI (tkE tp tn p)), .int (nI p), .int (nI (tkK tp tn p)), .int (tkV tp tn p), .ref nw, .ref dr, .ref tr, .ref pa, .int (nI ac), .ref ig, .ref kx, .ref be, .ref tc, .int (nI td)])), (mt, .inl (cy 0, 100, .inl ft))]) [1, 0] rfl
    have hD9 := hD.sub (ws' := [(m0, .inr (7, [.ref ml, .ref mm, .ref mit, .ref ms, .int (st), .ref mt, .int (nI tn), .int (nI 1), .int (nI p), .int (nI (tkE tp tn p)), .int (nI p), .int (nI (tkK tp tn p)), .int (tkV tp tn p), .ref nw, .ref dr, .ref tr, .ref pa, .int (nI ac), .ref ig, .ref kx, .ref be, .ref tc, .int (nI td)])), (mt, .inl (cy 0, 100, .inl ft))]) [1, 0] (by decide) rfl
    exact q_wiret (v := nI 0) hx hb hr hlocks dX7_next_25 hP9 hD9 hS (Or.inr ⟨_, _, _, _, _, _, Or.inl htk, by omega, rfl, rfl⟩)
  · have htk := tkK_3 c1
    refine lv_iconst (v := nI 1) hx hb dX7_next_9 (by decide) ?_
    refine lv_goto (tgt := 14) hx hb dX7_next_10 (by decide) ?_
    refine lv_iconst (v := nI 1) hx hb dX7_next_14 (by decide) ?_
    refine q_wiV (As := [.int (nI 1), .int (nI 1)]) (rest := []) (wr := []) ⟨hx, hb, hml, hown, hts⟩ (c_X7_takes_y l D cy m0 ml mm mit ms mt nw dr tr pa ig kx be tc st fk (-1) (nI (tkE tp tn p)) (nI p) (nI (tkK tp tn p)) (tkV tp tn p) tn ac td ft tp htn htp (tkE tp tn p) (by omega) (nI 1)) (cwV 2 hts gX7_next_X7_takes rfl rfl rfl (by decide +kernel) ⟨Nat.le_of_ble_eq_true rfl, Nat.le_of_ble_eq_true rfl⟩) hP hD hS hA hK [0, 1] [] rfl rfl (by decide) rfl (by decide) (by decide) 0 rfl rfl rfl rfl hl.1 rfl (Nat.le_of_ble_eq_true rfl) dX7_next_15 ⟨Nat.zero_le _, Nat.zero_le _⟩ (fun r6 u7 H locs hr6 hP hD hS => ?_)
    obtain ⟨rfl, rfl⟩ := hr6
    have hP : va_P D vwCl [(m0, .inr (7, [.ref ml, .ref mm, .ref mit, .ref ms, .int (st), .ref mt, .int (nI tn), .int (fk), .int ((-1)), .int (nI (tkE tp tn (tkE tp tn p))), .int (nI (tkE tp tn p)), .int (nI (tkK tp tn (tkE tp tn p))), .int (tkV tp tn (tkE tp tn p)), .ref nw, .ref dr, .ref tr, .ref pa, .int (nI ac), .ref ig, .ref kx, .ref be, .ref tc, .int (nI td)])), (mt, .inl (cy 0, 100, .inl ft))] H := hP
    have hD : va_D A [(m0, .inr (7, [.ref ml, .ref mm, .ref mit, .ref ms, .int (st), .ref mt, .int (nI tn), .int (fk), .int ((-1)), .int (nI (tkE tp tn (tkE tp tn p))), .int (nI (tkE tp tn p)), .int (nI (tkK tp tn (tkE tp tn p))), .int (tkV tp tn (tkE tp tn p)), .ref nw, .ref dr, .ref tr, .ref pa, .int (nI ac), .ref ig, .ref kx, .ref be, .ref tc, .int (nI td)])), (mt, .inl (cy 0, 100, .inl ft))] := hD
    refine lv_pop hx hb dX7_next_18 rfl ?_
    refine lv_aload_n hx hb dX7_next_19 rfl (lv_at hl 0 rfl) ?_
    refine lv_iload_n hx hb dX7_next_20 rfl (lv_at hl 1 rfl) ?_
    refine lv_iload_n hx hb dX7_next_21 rfl (lv_at hl 2 rfl) ?_
    refine q_wiV (As := [.int (nI lo), .int (nI hi)]) (rest := []) (wr := []) ⟨hx, hb, hml, hown, hts⟩ (c_X7_figure_k l D cy m0 ml mm mit ms mt nw dr tr pa ig kx be tc st fk (-1) (nI (tkE tp tn (tkE tp tn p))) (nI (tkE tp tn p)) (nI (tkK tp tn (tkE tp tn p))) (tkV tp tn (tkE tp tn p)) tn ac td ft tp htn htp (tkE tp tn p) (by omega) lo hi (by omega) (by omega)) (cwV 2 hts gX7_next_X7_figure rfl rfl rfl (by decide +kernel) ⟨Nat.le_of_ble_eq_true rfl, Nat.le_of_ble_eq_true rfl⟩) hP hD hS hA hK [0, 1] [] rfl rfl (by decide) rfl (by decide) (by decide) 0 rfl rfl rfl rfl hl.1 rfl (Nat.le_of_ble_eq_true rfl) dX7_next_22 ⟨Nat.zero_le _, Nat.zero_le _⟩ (fun r8 u9 H locs hr8 hP hD hS => ?_)
    rcases hr8 with ⟨q1, v1, hn1, hq1a, hq1b, hv1a, hv1b, rfl, rfl⟩ | ⟨k1, hn1, rfl, rfl⟩
    · have hP : va_P D vwCl [(m0, .inr (7, [.ref ml, .ref mm, .ref mit, .ref ms, .int (st), .ref mt, .int (nI tn), .int (fk), .int ((-1)), .int (nI (tkE tp tn q1)), .int (nI q1), .int (nI (tkK tp tn q1)), .int (tkV tp tn q1), .ref nw, .ref dr, .ref tr, .ref pa, .int (nI ac), .ref ig, .ref kx, .ref be, .ref tc, .int (nI td)])), (mt, .inl (cy 0, 100, .inl ft))] H := hP
      have hD : va_D A [(m0, .inr (7, [.ref ml, .ref mm, .ref mit, .ref ms, .int (st), .ref mt, .int (nI tn), .int (fk), .int ((-1)), .int (nI (tkE tp tn q1)), .int (nI q1), .int (nI (tkK tp tn q1)), .int (tkV tp tn q1), .ref nw, .ref dr, .ref tr, .ref pa, .int (nI ac), .ref ig, .ref kx, .ref be, .ref tc, .int (nI td)])), (mt, .inl (cy 0, 100, .inl ft))] := hD
      have hpe1 := tkE_le (tp := tp) hq1b
      have hP9 := hP
      have hD9 := hD
      exact q_wiret (v := nI v1) hx hb hr hlocks dX7_next_25 hP9 hD9 hS (Or.inl ⟨_, _, _, htk.1, hn1, by omega, hq1b, hv1a, hv1b, rfl, rfl⟩)
    · have hP : va_P D vwCl [(m0, .inr (7, [.ref ml, .ref mm, .ref mit, .ref ms, .int (st), .ref mt, .int (nI tn), .int (nI k1), .int (nI (tkE tp tn p)), .int (nI (tkE tp tn (tkE tp tn p))), .int (nI (tkE tp tn p)), .int (nI (tkK tp tn (tkE tp tn p))), .int (tkV tp tn (tkE tp tn p)), .ref nw, .ref dr, .ref tr, .ref pa, .int (nI ac), .ref ig, .ref kx, .ref be, .ref tc, .int (nI td)])), (mt, .inl (cy 0, 100, .inl ft))] H := hP
      have hD : va_D A [(m0, .inr (7, [.ref ml, .ref mm, .ref mit, .ref ms, .int (st), .ref mt, .int (nI tn), .int (nI k1), .int (nI (tkE tp tn p)), .int (nI (tkE tp tn (tkE tp tn p))), .int (nI (tkE tp tn p)), .int (nI (tkK tp tn (tkE tp tn p))), .int (tkV tp tn (tkE tp tn p)), .ref nw, .ref dr, .ref tr, .ref pa, .int (nI ac), .ref ig, .ref kx, .ref be, .ref tc, .int (nI td)])), (mt, .inl (cy 0, 100, .inl ft))] := hD
      have hP9 := hP
      have hD9 := hD
      exact q_wiret (v := nI 0) hx hb hr hlocks dX7_next_25 hP9 hD9 hS (Or.inr ⟨_, _, _, _, _, _, Or.inr ⟨_, htk.1, hn1⟩, by omega, rfl, rfl⟩)
set_option maxHeartbeats 4000000 in
set_option maxRecDepth 100000 in
theorem c_X7_kindOf (l : Launch) (D : va_G) (cy : Nat → ClassId) (x : Nat) (hx2 : x < 256) : q_Rd l yX7_kindOf wsX7_kindOf 1 D cy [] [.int (nI x)] (fun r => r = nI (pKind x)) := by
  refine q_rd_of (cc := cX7_kindOf) (maxL := 1) (ret := (some .int)) (by decide) rfl (Nat.le_of_ble_eq_true rfl) ?_
  intro pg en s mi args below meth cd hC hP hK ls hl
  obtain ⟨hx, hb, hr, hml, hown, hts, hlocks⟩ := hC
  have hl : lv_has ls 1 [(0, .int (nI x))] := hl
  refine lv_iload_n hx hb dX7_kindOf_0 rfl (lv_at hl 0 rfl) ?_
  refine lv_bipush (v := nI 116) hx hb dX7_kindOf_1 (by decide) ?_
  refine q_icmp_ne (tgt := 10) hx hb dX7_kindOf_3 (by decide) (by omega) (by decide) (fun c1 => ?_) (fun c1 => ?_)
  · refine lv_iload_n hx hb dX7_kindOf_10 rfl (lv_at hl 0 rfl) ?_
    refine lv_bipush (v := nI 103) hx hb dX7_kindOf_11 (by decide) ?_
    refine q_icmp_ne (tgt := 20) hx hb dX7_kindOf_13 (by decide) (by omega) (by decide) (fun c2 => ?_) (fun c2 => ?_)
    · refine lv_iload_n hx hb dX7_kindOf_20 rfl (lv_at hl 0 rfl) ?_
      refine lv_bipush (v := nI 118) hx hb dX7_kindOf_21 (by decide) ?_
      refine q_icmp_ne (tgt := 30) hx hb dX7_kindOf_23 (by decide) (by omega) (by decide) (fun c3 => ?_) (fun c3 => ?_)
      · refine lv_iload_n hx hb dX7_kindOf_30 rfl (lv_at hl 0 rfl) ?_
        refine lv_bipush (v := nI 115) hx hb dX7_kindOf_31 (by decide) ?_
        refine q_icmp_ne (tgt := 40) hx hb dX7_kindOf_33 (by decide) (by omega) (by decide) (fun c4 => ?_) (fun c4 => ?_)
        · refine lv_iload_n hx hb dX7_kindOf_40 rfl (lv_at hl 0 rfl) ?_
          refine lv_bipush (v := nI 97) hx hb dX7_kindOf_41 (by decide) ?_
          refine q_icmp_ne (tgt := 50) hx hb dX7_kindOf_43 (by decide) (by omega) (by decide) (fun c5 => ?_) (fun c5 => ?_)
          · refine lv_iconst (v := nI 0) hx hb dX7_kindOf_50 (by decide) ?_
            exact q_iret (v := nI 0) hx hb hr hlocks dX7_kindOf_51 (by unfold pKind; simp only [if_neg (by omega : ¬ x = 116), if_neg (by omega : ¬ x = 103), if_neg (by omega : ¬ x = 118), if_neg (by omega : ¬ x = 115), if_neg (by omega : ¬ x = 97)])
          · refine lv_iconst (v := nI 5) hx hb dX7_kindOf_46 (by decide) ?_
            refine lv_goto (tgt := 51) hx hb dX7_kindOf_47 (by decide) ?_
            exact q_iret (v := nI 5) hx hb hr hlocks dX7_kindOf_51 (by unfold pKind; simp only [if_neg (by omega : ¬ x = 116), if_neg (by omega : ¬ x = 103), if_neg (by omega : ¬ x = 118), if_neg (by omega : ¬ x = 115), if_pos (by omega : x = 97)])
        · refine lv_iconst (v := nI 4) hx hb dX7_kindOf_36 (by decide) ?_
          refine lv_goto (tgt := 51) hx hb dX7_kindOf_37 (by decide) ?_
          exact q_iret (v := nI 4) hx hb hr hlocks dX7_kindOf_51 (by unfold pKind; simp only [if_neg (by omega : ¬ x = 116), if_neg (by omega : ¬ x = 103), if_neg (by omega : ¬ x = 118), if_pos (by omega : x = 115)])
      · refine lv_iconst (v := nI 3) hx hb dX7_kindOf_26 (by decide) ?_
        refine lv_goto (tgt := 51) hx hb dX7_kindOf_27 (by decide) ?_
        exact q_iret (v := nI 3) hx hb hr hlocks dX7_kindOf_51 (by unfold pKind; simp only [if_neg (by omega : ¬ x = 116), if_neg (by omega : ¬ x = 103), if_pos (by omega : x = 118)])
    · refine lv_iconst (v := nI 2) hx hb dX7_kindOf_16 (by decide) ?_
      refine lv_goto (tgt := 51) hx hb dX7_kindOf_17 (by decide) ?_
      exact q_iret (v := nI 2) hx hb hr hlocks dX7_kindOf_51 (by unfold pKind; simp only [if_neg (by omega : ¬ x = 116), if_pos (by omega : x = 103)])
  · refine lv_iconst (v := nI 1) hx hb dX7_kindOf_6 (by decide) ?_
    refine lv_goto (tgt := 51) hx hb dX7_kindOf_7 (by decide) ?_
    exact q_iret (v := nI 1) hx hb hr hlocks dX7_kindOf_51 (by unfold pKind; simp only [if_pos (by omega : x = 116)])
theorem nX7_readsClue_0 : ∀ w ∈ wsX70, w ∈ wsX7_readsClue := by decide +kernel
theorem mX7_readsClue_1 : Cond.fieldLink RX7 95 "ClueLeaveModel" "value" "I" ∈ wsX7_readsClue := by decide +kernel
theorem mX7_readsClue_2 : Cond.fieldLink RX7 28 "ClueLeaveModel" "draft" "[I" ∈ wsX7_readsClue := by decide +kernel
theorem mX7_readsClue_3 : Cond.fieldLink RX7 98 "ClueLeaveModel" "token" "I" ∈ wsX7_readsClue := by decide +kernel
set_option maxHeartbeats 4000000 in
set_option maxRecDepth 100000 in
theorem c_X7_readsClue (l : Launch) (D : va_G) (cy : Nat → ClassId) (m0 ml mm mit ms mt nw dr tr pa ig kx be tc : Nat) (st fk fp av sv ov vv : Int32) (tn ac td : Nat) (ft : Nat → Int32) (tp : Nat → Nat) (htn : tn ≤ 100) (htp : tpIs tn tp ft) (p : Nat) (hp : p < tn) (gd : Nat → Int32) (w : Nat → Nat) (hmd : mwIs w gd) (hv : ctOk w) (hsu : 2 ≤ w 0) (hkp : 0 < pKind (tp p)) : q_Wv l yX7_readsClue wsX7_readsClue 6 D cy [(m0, .inr (7, [.ref ml, .ref mm, .ref mit, .ref ms, .int (st), .ref mt, .int (nI tn), .int (fk), .int ((-1)), .int (nI (tkE tp tn p)), .int (nI p), .int (nI (tkK tp tn p)), .int (tkV tp tn p), .ref nw, .ref dr, .ref tr, .ref pa, .int (nI ac), .ref ig, .ref kx, .ref be, .ref tc, .int (nI td)])), (mt, .inl (cy 0, 100, .inl ft)), (dr, .inl (cy 0, 29, .inl gd))] [.ref m0] (fun u => (∃ q K T E O : Nat, pClue tp tn (ctAll w) (w 4) p = .ok (q, K, T, E, O) ∧ p < q ∧ q ≤ tn ∧ w 4 < 6 ∧ 1 ≤ K ∧ K ≤ 5 ∧ 1 ≤ T ∧ T ≤ ctAll w ∧ 2 ≤ E ∧ E ≤ 4 ∧ O < E ∧ ∃ gd2 : Nat → Int32, mwIs (ctAdd w K T E O) gd2 ∧ u = [(m0, .inr (7, [.ref ml, .ref mm, .ref mit, .ref ms, .int (st), .ref mt, .int (nI tn), .int (fk), .int ((-1)), .int (nI (tkE tp tn q)), .int (nI q), .int (nI (tkK tp tn q)), .int (tkV tp tn q), .ref nw, .ref dr, .ref tr, .ref pa, .int (nI ac), .ref ig, .ref kx, .ref be, .ref tc, .int (nI td)])), (mt, .inl (cy 0, 100, .inl ft)), (dr, .inl (cy 0, 29, .inl gd2))]) ∨ (∃ (q k : Nat) (a1 a2 a3 a4 : Int32), pClue tp tn (ctAll w) (w 4) p = .error (q, k) ∧ q ≤ tn ∧ u = [(m0, .inr (7, [.ref ml, .ref mm, .ref mit, .ref ms, .int (st), .ref mt, .int (nI tn), .int (nI k), .int (nI q), .int (a1), .int (a2), .int (a3), .int (a4), .ref nw, .ref dr, .ref tr, .ref pa, .int (nI ac), .ref ig, .ref kx, .ref be, .ref tc, .int (nI td)])), (mt, .inl (cy 0, 100, .inl ft)), (dr, .inl (cy 0, 29, .inl gd))])) := by
  refine q_wv_of (cc := cX7_readsClue) (maxL := 6) (ret := none) (by decide) rfl (Nat.le_of_ble_eq_true rfl) ?_
  intro pg en s mi args below meth cd A hC hA hK H locs hP hD hS ls hl
  obtain ⟨hx, hb, hr, hml, hown, hts, hlocks⟩ := hC
  have hl : lv_has ls 6 [(0, .ref m0)] := hl
  obtain ⟨hv0, hv1, hv2, hv3, hv4, hvc⟩ := id hv
  have hal := ctAll_lt hv0
  have hpl := pKind_le (tp p)
  have htl := tkL_1 (by omega) hkp
  have hb256 := (htp p hp).2
  have hpe := tkE_le (tp := tp) (Nat.le_of_lt hp)
  refine lv_aload_n hx hb dX7_readsClue_0 rfl (lv_at hl 0 rfl) ?_
  refine va_get (D := D) (ci := 7) (v := .int (tkV tp tn p)) (C := RX7) (T := TX7) (N := 23) hx hb hts nX7_readsClue_0 hown hK.1 hP 0 rfl rfl 12 (by decide) (hts _ mX7_readsClue_1) (fun _ h9 => h9) rfl dX7_readsClue_1 ?_
  refine q_top (y := nI (tp p)) (htl.2) ?_
  refine q_rS (As := [.int (nI (tp p))]) (rest := []) ⟨hx, hb, hml, hown, hts⟩ (c_X7_kindOf l D cy (tp p) (by omega)) (va_cwS 1 hts gX7_readsClue_X7_kindOf rfl rfl rfl (by decide +kernel) ⟨Nat.le_of_ble_eq_true rfl, Nat.le_of_ble_eq_true rfl⟩) hP hK [] rfl rfl hl.1 rfl (Nat.le_of_ble_eq_true rfl) dX7_readsClue_4 ⟨Nat.zero_le _, Nat.zero_le _⟩ (fun r1 hr1 => ?_)
  obtain rfl := hr1
  refine lv_istore_n (lv' := [(1, .int (nI (pKind (tp p)))), (0, .ref m0)]) hx hb dX7_readsClue_7 rfl hl (by decide) rfl (fun ls hl => ?_)
  refine lv_aload_n hx hb dX7_readsClue_8 rfl (lv_at hl 1 rfl) ?_
  refine lv_aload_n hx hb dX7_readsClue_9 rfl (lv_at hl 1 rfl) ?_
  refine va_get (D := D) (ci := 7) (v := .ref dr) (C := RX7) (T := TX7) (N := 23) hx hb hts nX7_readsClue_0 hown hK.1 hP 0 rfl rfl 14 (by decide) (hts _ mX7_readsClue_2) (fun _ h9 => h9) rfl dX7_readsClue_10 ?_
  refine lv_iconst (v := nI 4) hx hb dX7_readsClue_13 (by decide) ?_
  refine q_iald (j := 4) (v := nI (w 4)) hx hb hK hP 2 rfl (by omega) (by decide) (hmd _ (by omega)) dX7_readsClue_14 ?_
  refine lv_bipush (v := nI 6) hx hb dX7_readsClue_15 (by decide) ?_
  refine q_icmp_ge (tgt := 24) hx hb dX7_readsClue_17 (by decide) (by omega) (by decide) (fun c2 => ?_) (fun c2 => ?_)
  · refine lv_iconst (v := nI 0) hx hb dX7_readsClue_24 (by decide) ?_
    refine lv_iconst (v := nI 3) hx hb dX7_readsClue_25 (by decide) ?_
    refine q_wiV (As := [.int (nI 0), .int (nI 3)]) (rest := []) (wr := [(mt, .inl (cy 0, 100, .inl ft)), (dr, .inl (cy 0, 29, .inl gd))]) ⟨hx, hb, hml, hown, hts⟩ (c_X7_takes_n l D cy m0 ml mm mit ms mt nw dr tr pa ig kx be tc st fk (-1) (nI (tkE tp tn p)) (nI p) (nI (tkK tp tn p)) (tkV tp tn p) tn ac td (nI 3)) (cwV 2 hts gX7_readsClue_X7_takes rfl rfl rfl (by decide +kernel) ⟨Nat.le_of_ble_eq_true rfl, Nat.le_of_ble_eq_true rfl⟩) hP hD hS hA hK [0] [1, 2] rfl rfl (by decide) rfl (by decide) (by decide) 0 rfl rfl rfl rfl hl.1 rfl (Nat.le_of_ble_eq_true rfl) dX7_readsClue_26 ⟨Nat.zero_le _, Nat.zero_le _⟩ (fun r3 u4 H locs hr3 hP hD hS => ?_)
    obtain ⟨rfl, rfl⟩ := hr3
    have hP : va_P D vwCl [(mt, .inl (cy 0, 100, .inl ft)), (dr, .inl (cy 0, 29, .inl gd)), (m0, .inr (7, [.ref ml, .ref mm, .ref mit, .ref ms, .int (st), .ref mt, .int (nI tn), .int (nI 3), .int (nI p), .int (nI (tkE tp tn p)), .int (nI p), .int (nI (tkK tp tn p)), .int (tkV tp tn p), .ref nw, .ref dr, .ref tr, .ref pa, .int (nI ac), .ref ig, .ref kx, .ref be, .ref tc, .int (nI td)]))] H := hP
    have hD : va_D A [(mt, .inl (cy 0, 100, .inl ft)), (dr, .inl (cy 0, 29, .inl gd)), (m0, .inr (7, [.ref ml, .ref mm, .ref mit, .ref ms, .int (st), .ref mt, .int (nI tn), .int (nI 3), .int (nI p), .int (nI (tkE tp tn p)), .int (nI p), .int (nI (tkK tp tn p)), .int (tkV tp tn p), .ref nw, .ref dr, .ref tr, .ref pa, .int (nI ac), .ref ig, .ref kx, .ref be, .ref tc, .int (nI td)]))] := hD
    refine lv_pop hx hb dX7_readsClue_29 rfl ?_
    refine lv_iconst (v := nI 5) hx hb dX7_readsClue_30 (by decide) ?_
    refine lv_iconst (v := nI 4) hx hb dX7_readsClue_31 (by decide) ?_
    refine lv_aload_n hx hb dX7_readsClue_32 rfl (lv_at hl 1 rfl) ?_
    refine va_get (D := D) (ci := 7) (v := .ref dr) (C := RX7) (T := TX7) (N := 23) hx hb hts nX7_readsClue_0 hown hK.1 hP 2 rfl rfl 14 (by decide) (hts _ mX7_readsClue_2) (fun _ h9 => h9) rfl dX7_readsClue_33 ?_
    refine lv_iconst (v := nI 4) hx hb dX7_readsClue_36 (by decide) ?_
    refine q_iald (j := 4) (v := nI (w 4)) hx hb hK hP 1 rfl (by omega) (by decide) (hmd _ (by omega)) dX7_readsClue_37 ?_
    refine lv_bipush (v := nI 6) hx hb dX7_readsClue_38 (by decide) ?_
    refine q_icmp_ge (tgt := 52) hx hb dX7_readsClue_40 (by decide) (by omega) (by decide) (fun c5 => ?_) (fun c5 => absurd c5 (by omega))
    refine lv_iconst (v := nI 0) hx hb dX7_readsClue_52 (by decide) ?_
    refine lv_imul hx hb dX7_readsClue_53 ?_
    refine q_top (y := nI 0) (by decide) ?_
    refine lv_iadd hx hb dX7_readsClue_54 ?_
    refine q_top (y := nI 5) (by decide) ?_
    refine lv_istore_n (lv' := [(2, .int (nI 5)), (1, .int (nI (pKind (tp p)))), (0, .ref m0)]) hx hb dX7_readsClue_55 rfl hl (by decide) rfl (fun ls hl => ?_)
    refine lv_aload_n hx hb dX7_readsClue_56 rfl (lv_at hl 2 rfl) ?_
    refine lv_iconst (v := nI 1) hx hb dX7_readsClue_57 (by decide) ?_
    refine lv_iconst (v := nI 1) hx hb dX7_readsClue_58 (by decide) ?_
    refine lv_aload_n hx hb dX7_readsClue_59 rfl (lv_at hl 2 rfl) ?_
    refine va_get (D := D) (ci := 7) (v := .ref dr) (C := RX7) (T := TX7) (N := 23) hx hb hts nX7_readsClue_0 hown hK.1 hP 2 rfl rfl 14 (by decide) (hts _ mX7_readsClue_2) (fun _ h9 => h9) rfl dX7_readsClue_60 ?_
    refine lv_iconst (v := nI 0) hx hb dX7_readsClue_63 (by decide) ?_
    refine q_iald (j := 0) (v := nI (w 0)) hx hb hK hP 1 rfl (by omega) (by decide) (hmd _ (by omega)) dX7_readsClue_64 ?_
    have hpw := q_pw (w 0) hv0
    refine lv_ishl hx hb dX7_readsClue_65 ?_
    refine q_top (y := nI (1 * 2 ^ (w 0))) (q_shl (by omega) (by omega)) ?_
    refine lv_iconst (v := nI 1) hx hb dX7_readsClue_66 (by decide) ?_
    refine lv_isub hx hb dX7_readsClue_67 ?_
    refine q_top (y := nI (ctAll w)) (by rw [Nat.one_mul]; exact pk_sub (a := 2 ^ w 0) (b := 1) hpw.1) ?_
    refine q_wiV (As := [.int (nI 1), .int (nI (ctAll w))]) (rest := []) (wr := [(mt, .inl (cy 0, 100, .inl ft)), (dr, .inl (cy 0, 29, .inl gd))]) ⟨hx, hb, hml, hown, hts⟩ (c_X7_figure_e l D cy m0 ml mm mit ms mt nw dr tr pa ig kx be tc st (nI 3) (nI p) (nI (tkE tp tn p)) (nI p) (nI (tkK tp tn p)) (tkV tp tn p) tn ac td p (by omega) (nI 1) (nI (ctAll w))) (cwV 2 hts gX7_readsClue_X7_figure rfl rfl rfl (by decide +kernel) ⟨Nat.le_of_ble_eq_true rfl, Nat.le_of_ble_eq_true rfl⟩) hP hD hS hA hK [2] [0, 1] rfl rfl (by decide) rfl (by decide) (by decide) 2 rfl rfl rfl rfl hl.1 rfl (Nat.le_of_ble_eq_true rfl) dX7_readsClue_68 ⟨Nat.zero_le _, Nat.zero_le _⟩ (fun r6 u7 H locs hr6 hP hD hS => ?_)
    obtain ⟨rfl, rfl⟩ := hr6
    have hP : va_P D vwCl [(mt, .inl (cy 0, 100, .inl ft)), (dr, .inl (cy 0, 29, .inl gd)), (m0, .inr (7, [.ref ml, .ref mm, .ref mit, .ref ms, .int (st), .ref mt, .int (nI tn), .int (nI 3), .int (nI p), .int (nI (tkE tp tn p)), .int (nI p), .int (nI (tkK tp tn p)), .int (tkV tp tn p), .ref nw, .ref dr, .ref tr, .ref pa, .int (nI ac), .ref ig, .ref kx, .ref be, .ref tc, .int (nI td)]))] H := hP
    have hD : va_D A [(mt, .inl (cy 0, 100, .inl ft)), (dr, .inl (cy 0, 29, .inl gd)), (m0, .inr (7, [.ref ml, .ref mm, .ref mit, .ref ms, .int (st), .ref mt, .int (nI tn), .int (nI 3), .int (nI p), .int (nI (tkE tp tn p)), .int (nI p), .int (nI (tkK tp tn p)), .int (tkV tp tn p), .ref nw, .ref dr, .ref tr, .ref pa, .int (nI ac), .ref ig, .ref kx, .ref be, .ref tc, .int (nI td)]))] := hD
    refine lv_istore_n (lv' := [(3, .int (nI 0)), (2, .int (nI 5)), (1, .int (nI (pKind (tp p)))), (0, .ref m0)]) hx hb dX7_readsClue_71 rfl hl (by decide) rfl (fun ls hl => ?_)
    refine lv_aload_n hx hb dX7_readsClue_72 rfl (lv_at hl 3 rfl) ?_
    refine lv_iconst (v := nI 2) hx hb dX7_readsClue_73 (by decide) ?_
    refine lv_iconst (v := nI 4) hx hb dX7_readsClue_74 (by decide) ?_
    refine q_wiV (As := [.int (nI 2), .int (nI 4)]) (rest := []) (wr := [(mt, .inl (cy 0, 100, .inl ft)), (dr, .inl (cy 0, 29, .inl gd))]) ⟨hx, hb, hml, hown, hts⟩ (c_X7_next_e l D cy m0 ml mm mit ms mt nw dr tr pa ig kx be tc st (nI 3) (nI p) (nI (tkE tp tn p)) (nI p) (nI (tkK tp tn p)) (tkV tp tn p) tn ac td p (by omega) (nI 2) (nI 4)) (cwV 2 hts gX7_readsClue_X7_next rfl rfl rfl (by decide +kernel) ⟨Nat.le_of_ble_eq_true rfl, Nat.le_of_ble_eq_true rfl⟩) hP hD hS hA hK [2] [0, 1] rfl rfl (by decide) rfl (by decide) (by decide) 2 rfl rfl rfl rfl hl.1 rfl (Nat.le_of_ble_eq_true rfl) dX7_readsClue_75 ⟨Nat.zero_le _, Nat.zero_le _⟩ (fun r8 u9 H locs hr8 hP hD hS => ?_)
    obtain ⟨rfl, rfl⟩ := hr8
    have hP : va_P D vwCl [(mt, .inl (cy 0, 100, .inl ft)), (dr, .inl (cy 0, 29, .inl gd)), (m0, .inr (7, [.ref ml, .ref mm, .ref mit, .ref ms, .int (st), .ref mt, .int (nI tn), .int (nI 3), .int (nI p), .int (nI (tkE tp tn p)), .int (nI p), .int (nI (tkK tp tn p)), .int (tkV tp tn p), .ref nw, .ref dr, .ref tr, .ref pa, .int (nI ac), .ref ig, .ref kx, .ref be, .ref tc, .int (nI td)]))] H := hP
    have hD : va_D A [(mt, .inl (cy 0, 100, .inl ft)), (dr, .inl (cy 0, 29, .inl gd)), (m0, .inr (7, [.ref ml, .ref mm, .ref mit, .ref ms, .int (st), .ref mt, .int (nI tn), .int (nI 3), .int (nI p), .int (nI (tkE tp tn p)), .int (nI p), .int (nI (tkK tp tn p)), .int (tkV tp tn p), .ref nw, .ref dr, .ref tr, .ref pa, .int (nI ac), .ref ig, .ref kx, .ref be, .ref tc, .int (nI td)]))] := hD
    refine lv_istore (lv' := [(4, .int (nI 0)), (3, .int (nI 0)), (2, .int (nI 5)), (1, .int (nI (pKind (tp p)))), (0, .ref m0)]) hx hb dX7_readsClue_78 hl (by decide) rfl (fun ls hl => ?_)
    refine lv_aload_n hx hb dX7_readsClue_80 rfl (lv_at hl 4 rfl) ?_
    refine lv_iconst (v := nI 0) hx hb dX7_readsClue_81 (by decide) ?_
    refine lv_iload hx hb dX7_readsClue_82 (lv_at hl 0 rfl) ?_
    refine lv_iconst (v := nI 1) hx hb dX7_readsClue_84 (by decide) ?_
    refine lv_isub hx hb dX7_readsClue_85 ?_
    refine q_wiV (As := [.int (nI 0), .int ((nI 0) - (nI 1))]) (rest := []) (wr := [(mt, .inl (cy 0, 100, .inl ft)), (dr, .inl (cy 0, 29, .inl gd))]) ⟨hx, hb, hml, hown, hts⟩ (c_X7_next_e l D cy m0 ml mm mit ms mt nw dr tr pa ig kx be tc st (nI 3) (nI p) (nI (tkE tp tn p)) (nI p) (nI (tkK tp tn p)) (tkV tp tn p) tn ac td p (by omega) (nI 0) ((nI 0) - (nI 1))) (cwV 2 hts gX7_readsClue_X7_next rfl rfl rfl (by decide +kernel) ⟨Nat.le_of_ble_eq_true rfl, Nat.le_of_ble_eq_true rfl⟩) hP hD hS hA hK [2] [0, 1] rfl rfl (by decide) rfl (by decide) (by decide) 2 rfl rfl rfl rfl hl.1 rfl (Nat.le_of_ble_eq_true rfl) dX7_readsClue_86 ⟨Nat.zero_le _, Nat.zero_le _⟩ (fun r10 u11 H locs hr10 hP hD hS => ?_)
    obtain ⟨rfl, rfl⟩ := hr10
    have hP : va_P D vwCl [(mt, .inl (cy 0, 100, .inl ft)), (dr, .inl (cy 0, 29, .inl gd)), (m0, .inr (7, [.ref ml, .ref mm, .ref mit, .ref ms, .int (st), .ref mt, .int (nI tn), .int (nI 3), .int (nI p), .int (nI (tkE tp tn p)), .int (nI p), .int (nI (tkK tp tn p)), .int (tkV tp tn p), .ref nw, .ref dr, .ref tr, .ref pa, .int (nI ac), .ref ig, .ref kx, .ref be, .ref tc, .int (nI td)]))] H := hP
    have hD : va_D A [(mt, .inl (cy 0, 100, .inl ft)), (dr, .inl (cy 0, 29, .inl gd)), (m0, .inr (7, [.ref ml, .ref mm, .ref mit, .ref ms, .int (st), .ref mt, .int (nI tn), .int (nI 3), .int (nI p), .int (nI (tkE tp tn p)), .int (nI p), .int (nI (tkK tp tn p)), .int (tkV tp tn p), .ref nw, .ref dr, .ref tr, .ref pa, .int (nI ac), .ref ig, .ref kx, .ref be, .ref tc, .int (nI td)]))] := hD
    refine lv_istore (lv' := [(5, .int (nI 0)), (4, .int (nI 0)), (3, .int (nI 0)), (2, .int (nI 5)), (1, .int (nI (pKind (tp p)))), (0, .ref m0)]) hx hb dX7_readsClue_89 hl (by decide) rfl (fun ls hl => ?_)
    refine lv_aload_n hx hb dX7_readsClue_91 rfl (lv_at hl 5 rfl) ?_
    refine lv_aload_n hx hb dX7_readsClue_92 rfl (lv_at hl 5 rfl) ?_
    refine va_get (D := D) (ci := 7) (v := .int (nI (tkK tp tn p))) (C := RX7) (T := TX7) (N := 23) hx hb hts nX7_readsClue_0 hown hK.1 hP 2 rfl rfl 11 (by decide) (hts _ mX7_readsClue_3) (fun _ h9 => h9) rfl dX7_readsClue_93 ?_
    refine lv_iconst (v := nI 4) hx hb dX7_readsClue_96 (by decide) ?_
    have hkl97 := tkK_le tp tn p
    refine q_icmp_ne (tgt := 104) hx hb dX7_readsClue_97 (by decide) (by omega) (by decide) (fun c12 => ?_) (fun c12 => ?_)
    · refine lv_iconst (v := nI 0) hx hb dX7_readsClue_104 (by decide) ?_
      refine lv_iconst (v := nI 1) hx hb dX7_readsClue_105 (by decide) ?_
      refine q_wiV (As := [.int (nI 0), .int (nI 1)]) (rest := []) (wr := [(mt, .inl (cy 0, 100, .inl ft)), (dr, .inl (cy 0, 29, .inl gd))]) ⟨hx, hb, hml, hown, hts⟩ (c_X7_takes_e l D cy m0 ml mm mit ms mt nw dr tr pa ig kx be tc st (nI 3) (nI p) (nI (tkE tp tn p)) (nI p) (nI (tkK tp tn p)) (tkV tp tn p) tn ac td p (by omega) (nI 0) (nI 1)) (cwV 2 hts gX7_readsClue_X7_takes rfl rfl rfl (by decide +kernel) ⟨Nat.le_of_ble_eq_true rfl, Nat.le_of_ble_eq_true rfl⟩) hP hD hS hA hK [2] [0, 1] rfl rfl (by decide) rfl (by decide) (by decide) 2 rfl rfl rfl rfl hl.1 rfl (Nat.le_of_ble_eq_true rfl) dX7_readsClue_106 ⟨Nat.zero_le _, Nat.zero_le _⟩ (fun r13 u14 H locs hr13 hP hD hS => ?_)
      obtain ⟨rfl, rfl⟩ := hr13
      have hP : va_P D vwCl [(mt, .inl (cy 0, 100, .inl ft)), (dr, .inl (cy 0, 29, .inl gd)), (m0, .inr (7, [.ref ml, .ref mm, .ref mit, .ref ms, .int (st), .ref mt, .int (nI tn), .int (nI 3), .int (nI p), .int (nI (tkE tp tn p)), .int (nI p), .int (nI (tkK tp tn p)), .int (tkV tp tn p), .ref nw, .ref dr, .ref tr, .ref pa, .int (nI ac), .ref ig, .ref kx, .ref be, .ref tc, .int (nI td)]))] H := hP
      have hD : va_D A [(mt, .inl (cy 0, 100, .inl ft)), (dr, .inl (cy 0, 29, .inl gd)), (m0, .inr (7, [.ref ml, .ref mm, .ref mit, .ref ms, .int (st), .ref mt, .int (nI tn), .int (nI 3), .int (nI p), .int (nI (tkE tp tn p)), .int (nI p), .int (nI (tkK tp tn p)), .int (tkV tp tn p), .ref nw, .ref dr, .ref tr, .ref pa, .int (nI ac), .ref ig, .ref kx, .ref be, .ref tc, .int (nI td)]))] := hD
      refine lv_pop hx hb dX7_readsClue_109 rfl ?_
      refine lv_aload_n hx hb dX7_readsClue_110 rfl (lv_at hl 5 rfl) ?_
      refine q_rV (As := []) (rest := []) ⟨hx, hb, hml, hown, hts⟩ (c_X7_isWell_n l D cy m0 ml mm mit ms mt nw dr tr pa ig kx be tc st (nI 3) (nI p) (nI (tkE tp tn p)) (nI p) (nI (tkK tp tn p)) (tkV tp tn p) tn ac td p (by omega)) (cwV 0 hts gX7_readsClue_X7_isWell rfl rfl rfl (by decide +kernel) ⟨Nat.le_of_ble_eq_true rfl, Nat.le_of_ble_eq_true rfl⟩) hP hK [2] rfl 2 rfl rfl rfl rfl hl.1 rfl (Nat.le_of_ble_eq_true rfl) dX7_readsClue_111 ⟨Nat.zero_le _, Nat.zero_le _⟩ (fun r15 hr15 => ?_)
      obtain rfl := hr15
      refine lv_if_eq (tgt := 163) hx hb dX7_readsClue_114 (by decide) (fun _ => ?_) (fun c9 => absurd (by decide) c9)
      have hP9 := hP.sub (ws' := [(m0, .inr (7, [.ref ml, .ref mm, .ref mit, .ref ms, .int (st), .ref mt, .int (nI tn), .int (nI 3), .int (nI p), .int (nI (tkE tp tn p)), .int (nI p), .int (nI (tkK tp tn p)), .int (tkV tp tn p), .ref nw, .ref dr, .ref tr, .ref pa, .int (nI ac), .ref ig, .ref kx, .ref be, .ref tc, .int (nI td)])), (mt, .inl (cy 0, 100, .inl ft)), (dr, .inl (cy 0, 29, .inl gd))]) [2, 0, 1] rfl
      have hD9 := hD.sub (ws' := [(m0, .inr (7, [.ref ml, .ref mm, .ref mit, .ref ms, .int (st), .ref mt, .int (nI tn), .int (nI 3), .int (nI p), .int (nI (tkE tp tn p)), .int (nI p), .int (nI (tkK tp tn p)), .int (tkV tp tn p), .ref nw, .ref dr, .ref tr, .ref pa, .int (nI ac), .ref ig, .ref kx, .ref be, .ref tc, .int (nI td)])), (mt, .inl (cy 0, 100, .inl ft)), (dr, .inl (cy 0, 29, .inl gd))]) [2, 0, 1] (by decide) rfl
      exact q_wvret hx hb hr hlocks dX7_readsClue_163 hP9 hD9 hS (Or.inr ⟨p, 3, _, _, _, _, by simp only [pClue, if_neg (by omega : ¬ pKind (tp p) = 0), if_pos (by omega : 6 ≤ w 4), Except.bind], by omega, rfl⟩)
    · refine lv_iconst (v := nI 1) hx hb dX7_readsClue_100 (by decide) ?_
      refine lv_goto (tgt := 105) hx hb dX7_readsClue_101 (by decide) ?_
      refine lv_iconst (v := nI 1) hx hb dX7_readsClue_105 (by decide) ?_
      refine q_wiV (As := [.int (nI 1), .int (nI 1)]) (rest := []) (wr := [(mt, .inl (cy 0, 100, .inl ft)), (dr, .inl (cy 0, 29, .inl gd))]) ⟨hx, hb, hml, hown, hts⟩ (c_X7_takes_e l D cy m0 ml mm mit ms mt nw dr tr pa ig kx be tc st (nI 3) (nI p) (nI (tkE tp tn p)) (nI p) (nI (tkK tp tn p)) (tkV tp tn p) tn ac td p (by omega) (nI 1) (nI 1)) (cwV 2 hts gX7_readsClue_X7_takes rfl rfl rfl (by decide +kernel) ⟨Nat.le_of_ble_eq_true rfl, Nat.le_of_ble_eq_true rfl⟩) hP hD hS hA hK [2] [0, 1] rfl rfl (by decide) rfl (by decide) (by decide) 2 rfl rfl rfl rfl hl.1 rfl (Nat.le_of_ble_eq_true rfl) dX7_readsClue_106 ⟨Nat.zero_le _, Nat.zero_le _⟩ (fun r16 u17 H locs hr16 hP hD hS => ?_)
      obtain ⟨rfl, rfl⟩ := hr16
      have hP : va_P D vwCl [(mt, .inl (cy 0, 100, .inl ft)), (dr, .inl (cy 0, 29, .inl gd)), (m0, .inr (7, [.ref ml, .ref mm, .ref mit, .ref ms, .int (st), .ref mt, .int (nI tn), .int (nI 3), .int (nI p), .int (nI (tkE tp tn p)), .int (nI p), .int (nI (tkK tp tn p)), .int (tkV tp tn p), .ref nw, .ref dr, .ref tr, .ref pa, .int (nI ac), .ref ig, .ref kx, .ref be, .ref tc, .int (nI td)]))] H := hP
      have hD : va_D A [(mt, .inl (cy 0, 100, .inl ft)), (dr, .inl (cy 0, 29, .inl gd)), (m0, .inr (7, [.ref ml, .ref mm, .ref mit, .ref ms, .int (st), .ref mt, .int (nI tn), .int (nI 3), .int (nI p), .int (nI (tkE tp tn p)), .int (nI p), .int (nI (tkK tp tn p)), .int (tkV tp tn p), .ref nw, .ref dr, .ref tr, .ref pa, .int (nI ac), .ref ig, .ref kx, .ref be, .ref tc, .int (nI td)]))] := hD
      refine lv_pop hx hb dX7_readsClue_109 rfl ?_
      refine lv_aload_n hx hb dX7_readsClue_110 rfl (lv_at hl 5 rfl) ?_
      refine q_rV (As := []) (rest := []) ⟨hx, hb, hml, hown, hts⟩ (c_X7_isWell_n l D cy m0 ml mm mit ms mt nw dr tr pa ig kx be tc st (nI 3) (nI p) (nI (tkE tp tn p)) (nI p) (nI (tkK tp tn p)) (tkV tp tn p) tn ac td p (by omega)) (cwV 0 hts gX7_readsClue_X7_isWell rfl rfl rfl (by decide +kernel) ⟨Nat.le_of_ble_eq_true rfl, Nat.le_of_ble_eq_true rfl⟩) hP hK [2] rfl 2 rfl rfl rfl rfl hl.1 rfl (Nat.le_of_ble_eq_true rfl) dX7_readsClue_111 ⟨Nat.zero_le _, Nat.zero_le _⟩ (fun r18 hr18 => ?_)
      obtain rfl := hr18
      refine lv_if_eq (tgt := 163) hx hb dX7_readsClue_114 (by decide) (fun _ => ?_) (fun c9 => absurd (by decide) c9)
      have hP9 := hP.sub (ws' := [(m0, .inr (7, [.ref ml, .ref mm, .ref mit, .ref ms, .int (st), .ref mt, .int (nI tn), .int (nI 3), .int (nI p), .int (nI (tkE tp tn p)), .int (nI p), .int (nI (tkK tp tn p)), .int (tkV tp tn p), .ref nw, .ref dr, .ref tr, .ref pa, .int (nI ac), .ref ig, .ref kx, .ref be, .ref tc, .int (nI td)])), (mt, .inl (cy 0, 100, .inl ft)), (dr, .inl (cy 0, 29, .inl gd))]) [2, 0, 1] rfl
      have hD9 := hD.sub (ws' := [(m0, .inr (7, [.ref ml, .ref mm, .ref mit, .ref ms, .int (st), .ref mt, .int (nI tn), .int (nI 3), .int (nI p), .int (nI (tkE tp tn p)), .int (nI p), .int (nI (tkK tp tn p)), .int (tkV tp tn p), .ref nw, .ref dr, .ref tr, .ref pa, .int (nI ac), .ref ig, .ref kx, .ref be, .ref tc, .int (nI td)])), (mt, .inl (cy 0, 100, .inl ft)), (dr, .inl (cy 0, 29, .inl gd))]) [2, 0, 1] (by decide) rfl
      exact q_wvret hx hb hr hlocks dX7_readsClue_163 hP9 hD9 hS (Or.inr ⟨p, 3, _, _, _, _, by simp only [pClue, if_neg (by omega : ¬ pKind (tp p) = 0), if_pos (by omega : 6 ≤ w 4), Except.bind], by omega, rfl⟩)
  · refine lv_iconst (v := nI 1) hx hb dX7_readsClue_20 (by decide) ?_
    refine lv_goto (tgt := 25) hx hb dX7_readsClue_21 (by decide) ?_
    refine lv_iconst (v := nI 3) hx hb dX7_readsClue_25 (by decide) ?_
    refine q_wiV (As := [.int (nI 1), .int (nI 3)]) (rest := []) (wr := [(dr, .inl (cy 0, 29, .inl gd))]) ⟨hx, hb, hml, hown, hts⟩ (c_X7_takes_y l D cy m0 ml mm mit ms mt nw dr tr pa ig kx be tc st fk (-1) (nI (tkE tp tn p)) (nI p) (nI (tkK tp tn p)) (tkV tp tn p) tn ac td ft tp htn htp (tkE tp tn p) (by omega) (nI 3)) (cwV 2 hts gX7_readsClue_X7_takes rfl rfl rfl (by decide +kernel) ⟨Nat.le_of_ble_eq_true rfl, Nat.le_of_ble_eq_true rfl⟩) hP hD hS hA hK [0, 1] [2] rfl rfl (by decide) rfl (by decide) (by decide) 0 rfl rfl rfl rfl hl.1 rfl (Nat.le_of_ble_eq_true rfl) dX7_readsClue_26 ⟨Nat.zero_le _, Nat.zero_le _⟩ (fun r19 u20 H locs hr19 hP hD hS => ?_)
    obtain ⟨rfl, rfl⟩ := hr19
    have hP : va_P D vwCl [(dr, .inl (cy 0, 29, .inl gd)), (m0, .inr (7, [.ref ml, .ref mm, .ref mit, .ref ms, .int (st), .ref mt, .int (nI tn), .int (fk), .int ((-1)), .int (nI (tkE tp tn (tkE tp tn p))), .int (nI (tkE tp tn p)), .int (nI (tkK tp tn (tkE tp tn p))), .int (tkV tp tn (tkE tp tn p)), .ref nw, .ref dr, .ref tr, .ref pa, .int (nI ac), .ref ig, .ref kx, .ref be, .ref tc, .int (nI td)])), (mt, .inl (cy 0, 100, .inl ft))] H := hP
    have hD : va_D A [(dr, .inl (cy 0, 29, .inl gd)), (m0, .inr (7, [.ref ml, .ref mm, .ref mit, .ref ms, .int (st), .ref mt, .int (nI tn), .int (fk), .int ((-1)), .int (nI (tkE tp tn (tkE tp tn p))), .int (nI (tkE tp tn p)), .int (nI (tkK tp tn (tkE tp tn p))), .int (tkV tp tn (tkE tp tn p)), .ref nw, .ref dr, .ref tr, .ref pa, .int (nI ac), .ref ig, .ref kx, .ref be, .ref tc, .int (nI td)])), (mt, .inl (cy 0, 100, .inl ft))] := hD
    refine lv_pop hx hb dX7_readsClue_29 rfl ?_
    refine lv_iconst (v := nI 5) hx hb dX7_readsClue_30 (by decide) ?_
    refine lv_iconst (v := nI 4) hx hb dX7_readsClue_31 (by decide) ?_
    refine lv_aload_n hx hb dX7_readsClue_32 rfl (lv_at hl 1 rfl) ?_
    refine va_get (D := D) (ci := 7) (v := .ref dr) (C := RX7) (T := TX7) (N := 23) hx hb hts nX7_readsClue_0 hown hK.1 hP 1 rfl rfl 14 (by decide) (hts _ mX7_readsClue_2) (fun _ h9 => h9) rfl dX7_readsClue_33 ?_
    refine lv_iconst (v := nI 4) hx hb dX7_readsClue_36 (by decide) ?_
    refine q_iald (j := 4) (v := nI (w 4)) hx hb hK hP 0 rfl (by omega) (by decide) (hmd _ (by omega)) dX7_readsClue_37 ?_
    refine lv_bipush (v := nI 6) hx hb dX7_readsClue_38 (by decide) ?_
    refine q_icmp_ge (tgt := 52) hx hb dX7_readsClue_40 (by decide) (by omega) (by decide) (fun c21 => absurd c21 (by omega)) (fun c21 => ?_)
    refine lv_aload_n hx hb dX7_readsClue_43 rfl (lv_at hl 1 rfl) ?_
    refine va_get (D := D) (ci := 7) (v := .ref dr) (C := RX7) (T := TX7) (N := 23) hx hb hts nX7_readsClue_0 hown hK.1 hP 1 rfl rfl 14 (by decide) (hts _ mX7_readsClue_2) (fun _ h9 => h9) rfl dX7_readsClue_44 ?_
    refine lv_iconst (v := nI 4) hx hb dX7_readsClue_47 (by decide) ?_
    refine q_iald (j := 4) (v := nI (w 4)) hx hb hK hP 0 rfl (by omega) (by decide) (hmd _ (by omega)) dX7_readsClue_48 ?_
    refine lv_goto (tgt := 53) hx hb dX7_readsClue_49 (by decide) ?_
    refine lv_imul hx hb dX7_readsClue_53 ?_
    refine q_top (y := nI (4 * (w 4))) (pk_mul _ _) ?_
    refine lv_iadd hx hb dX7_readsClue_54 ?_
    refine q_top (y := nI (5 + (4 * (w 4)))) (nI_add _ _) ?_
    refine lv_istore_n (lv' := [(2, .int (nI (5 + (4 * (w 4))))), (1, .int (nI (pKind (tp p)))), (0, .ref m0)]) hx hb dX7_readsClue_55 rfl hl (by decide) rfl (fun ls hl => ?_)
    refine lv_aload_n hx hb dX7_readsClue_56 rfl (lv_at hl 2 rfl) ?_
    refine lv_iconst (v := nI 1) hx hb dX7_readsClue_57 (by decide) ?_
    refine lv_iconst (v := nI 1) hx hb dX7_readsClue_58 (by decide) ?_
    refine lv_aload_n hx hb dX7_readsClue_59 rfl (lv_at hl 2 rfl) ?_
    refine va_get (D := D) (ci := 7) (v := .ref dr) (C := RX7) (T := TX7) (N := 23) hx hb hts nX7_readsClue_0 hown hK.1 hP 1 rfl rfl 14 (by decide) (hts _ mX7_readsClue_2) (fun _ h9 => h9) rfl dX7_readsClue_60 ?_
    refine lv_iconst (v := nI 0) hx hb dX7_readsClue_63 (by decide) ?_
    refine q_iald (j := 0) (v := nI (w 0)) hx hb hK hP 0 rfl (by omega) (by decide) (hmd _ (by omega)) dX7_readsClue_64 ?_
    have hpw := q_pw (w 0) hv0
    refine lv_ishl hx hb dX7_readsClue_65 ?_
    refine q_top (y := nI (1 * 2 ^ (w 0))) (q_shl (by omega) (by omega)) ?_
    refine lv_iconst (v := nI 1) hx hb dX7_readsClue_66 (by decide) ?_
    refine lv_isub hx hb dX7_readsClue_67 ?_
    refine q_top (y := nI (ctAll w)) (by rw [Nat.one_mul]; exact pk_sub (a := 2 ^ w 0) (b := 1) hpw.1) ?_
    refine q_wiV (As := [.int (nI 1), .int (nI (ctAll w))]) (rest := []) (wr := [(dr, .inl (cy 0, 29, .inl gd))]) ⟨hx, hb, hml, hown, hts⟩ (c_X7_figure_k l D cy m0 ml mm mit ms mt nw dr tr pa ig kx be tc st fk (-1) (nI (tkE tp tn (tkE tp tn p))) (nI (tkE tp tn p)) (nI (tkK tp tn (tkE tp tn p))) (tkV tp tn (tkE tp tn p)) tn ac td ft tp htn htp (tkE tp tn p) (by omega) 1 (ctAll w) (by omega) (by omega)) (cwV 2 hts gX7_readsClue_X7_figure rfl rfl rfl (by decide +kernel) ⟨Nat.le_of_ble_eq_true rfl, Nat.le_of_ble_eq_true rfl⟩) hP hD hS hA hK [1, 2] [0] rfl rfl (by decide) rfl (by decide) (by decide) 1 rfl rfl rfl rfl hl.1 rfl (Nat.le_of_ble_eq_true rfl) dX7_readsClue_68 ⟨Nat.zero_le _, Nat.zero_le _⟩ (fun r22 u23 H locs hr22 hP hD hS => ?_)
    rcases hr22 with ⟨q1, v1, hn1, hq1a, hq1b, hv1a, hv1b, rfl, rfl⟩ | ⟨k1, hn1, rfl, rfl⟩
    · rw [htl.1] at hn1
      have hP : va_P D vwCl [(dr, .inl (cy 0, 29, .inl gd)), (m0, .inr (7, [.ref ml, .ref mm, .ref mit, .ref ms, .int (st), .ref mt, .int (nI tn), .int (fk), .int ((-1)), .int (nI (tkE tp tn q1)), .int (nI q1), .int (nI (tkK tp tn q1)), .int (tkV tp tn q1), .ref nw, .ref dr, .ref tr, .ref pa, .int (nI ac), .ref ig, .ref kx, .ref be, .ref tc, .int (nI td)])), (mt, .inl (cy 0, 100, .inl ft))] H := hP
      have hD : va_D A [(dr, .inl (cy 0, 29, .inl gd)), (m0, .inr (7, [.ref ml, .ref mm, .ref mit, .ref ms, .int (st), .ref mt, .int (nI tn), .int (fk), .int ((-1)), .int (nI (tkE tp tn q1)), .int (nI q1), .int (nI (tkK tp tn q1)), .int (tkV tp tn q1), .ref nw, .ref dr, .ref tr, .ref pa, .int (nI ac), .ref ig, .ref kx, .ref be, .ref tc, .int (nI td)])), (mt, .inl (cy 0, 100, .inl ft))] := hD
      have hpe1 := tkE_le (tp := tp) hq1b
      refine lv_istore_n (lv' := [(3, .int (nI v1)), (2, .int (nI (5 + (4 * (w 4))))), (1, .int (nI (pKind (tp p)))), (0, .ref m0)]) hx hb dX7_readsClue_71 rfl hl (by decide) rfl (fun ls hl => ?_)
      refine lv_aload_n hx hb dX7_readsClue_72 rfl (lv_at hl 3 rfl) ?_
      refine lv_iconst (v := nI 2) hx hb dX7_readsClue_73 (by decide) ?_
      refine lv_iconst (v := nI 4) hx hb dX7_readsClue_74 (by decide) ?_
      refine q_wiV (As := [.int (nI 2), .int (nI 4)]) (rest := []) (wr := [(dr, .inl (cy 0, 29, .inl gd))]) ⟨hx, hb, hml, hown, hts⟩ (c_X7_next_k l D cy m0 ml mm mit ms mt nw dr tr pa ig kx be tc st fk (-1) (nI (tkE tp tn q1)) (nI q1) (nI (tkK tp tn q1)) (tkV tp tn q1) tn ac td ft tp htn htp q1 (by omega) 2 4 (by omega) (by omega)) (cwV 2 hts gX7_readsClue_X7_next rfl rfl rfl (by decide +kernel) ⟨Nat.le_of_ble_eq_true rfl, Nat.le_of_ble_eq_true rfl⟩) hP hD hS hA hK [1, 2] [0] rfl rfl (by decide) rfl (by decide) (by decide) 1 rfl rfl rfl rfl hl.1 rfl (Nat.le_of_ble_eq_true rfl) dX7_readsClue_75 ⟨Nat.zero_le _, Nat.zero_le _⟩ (fun r24 u25 H locs hr24 hP hD hS => ?_)
      rcases hr24 with ⟨z2, q2, v2, ht2, hn2, hq2a, hq2b, hv2a, hv2b, rfl, rfl⟩ | ⟨q2, k2, e21, e22, e23, e24, hnt2 | ⟨z2, ht2, hn2⟩, hq2b, rfl, rfl⟩
      · have hP : va_P D vwCl [(dr, .inl (cy 0, 29, .inl gd)), (m0, .inr (7, [.ref ml, .ref mm, .ref mit, .ref ms, .int (st), .ref mt, .int (nI tn), .int (fk), .int ((-1)), .int (nI (tkE tp tn q2)), .int (nI q2), .int (nI (tkK tp tn q2)), .int (tkV tp tn q2), .ref nw, .ref dr, .ref tr, .ref pa, .int (nI ac), .ref ig, .ref kx, .ref be, .ref tc, .int (nI td)])), (mt, .inl (cy 0, 100, .inl ft))] H := hP
        have hD : va_D A [(dr, .inl (cy 0, 29, .inl gd)), (m0, .inr (7, [.ref ml, .ref mm, .ref mit, .ref ms, .int (st), .ref mt, .int (nI tn), .int (fk), .int ((-1)), .int (nI (tkE tp tn q2)), .int (nI q2), .int (nI (tkK tp tn q2)), .int (tkV tp tn q2), .ref nw, .ref dr, .ref tr, .ref pa, .int (nI ac), .ref ig, .ref kx, .ref be, .ref tc, .int (nI td)])), (mt, .inl (cy 0, 100, .inl ft))] := hD
        have hpe2 := tkE_le (tp := tp) hq2b
        refine lv_istore (lv' := [(4, .int (nI v2)), (3, .int (nI v1)), (2, .int (nI (5 + (4 * (w 4))))), (1, .int (nI (pKind (tp p)))), (0, .ref m0)]) hx hb dX7_readsClue_78 hl (by decide) rfl (fun ls hl => ?_)
        refine lv_aload_n hx hb dX7_readsClue_80 rfl (lv_at hl 4 rfl) ?_
        refine lv_iconst (v := nI 0) hx hb dX7_readsClue_81 (by decide) ?_
        refine lv_iload hx hb dX7_readsClue_82 (lv_at hl 0 rfl) ?_
        refine lv_iconst (v := nI 1) hx hb dX7_readsClue_84 (by decide) ?_
        refine lv_isub hx hb dX7_readsClue_85 ?_
        refine q_top (y := nI (v2 - 1)) (pk_sub (by omega)) ?_
        refine q_wiV (As := [.int (nI 0), .int (nI (v2 - 1))]) (rest := []) (wr := [(dr, .inl (cy 0, 29, .inl gd))]) ⟨hx, hb, hml, hown, hts⟩ (c_X7_next_k l D cy m0 ml mm mit ms mt nw dr tr pa ig kx be tc st fk (-1) (nI (tkE tp tn q2)) (nI q2) (nI (tkK tp tn q2)) (tkV tp tn q2) tn ac td ft tp htn htp q2 (by omega) 0 (v2 - 1) (by omega) (by omega)) (cwV 2 hts gX7_readsClue_X7_next rfl rfl rfl (by decide +kernel) ⟨Nat.le_of_ble_eq_true rfl, Nat.le_of_ble_eq_true rfl⟩) hP hD hS hA hK [1, 2] [0] rfl rfl (by decide) rfl (by decide) (by decide) 1 rfl rfl rfl rfl hl.1 rfl (Nat.le_of_ble_eq_true rfl) dX7_readsClue_86 ⟨Nat.zero_le _, Nat.zero_le _⟩ (fun r26 u27 H locs hr26 hP hD hS => ?_)
        rcases hr26 with ⟨z3, q3, v3, ht3, hn3, hq3a, hq3b, hv3a, hv3b, rfl, rfl⟩ | ⟨q3, k3, e31, e32, e33, e34, hnt3 | ⟨z3, ht3, hn3⟩, hq3b, rfl, rfl⟩
        · have hP : va_P D vwCl [(dr, .inl (cy 0, 29, .inl gd)), (m0, .inr (7, [.ref ml, .ref mm, .ref mit, .ref ms, .int (st), .ref mt, .int (nI tn), .int (fk), .int ((-1)), .int (nI (tkE tp tn q3)), .int (nI q3), .int (nI (tkK tp tn q3)), .int (tkV tp tn q3), .ref nw, .ref dr, .ref tr, .ref pa, .int (nI ac), .ref ig, .ref kx, .ref be, .ref tc, .int (nI td)])), (mt, .inl (cy 0, 100, .inl ft))] H := hP
          have hD : va_D A [(dr, .inl (cy 0, 29, .inl gd)), (m0, .inr (7, [.ref ml, .ref mm, .ref mit, .ref ms, .int (st), .ref mt, .int (nI tn), .int (fk), .int ((-1)), .int (nI (tkE tp tn q3)), .int (nI q3), .int (nI (tkK tp tn q3)), .int (tkV tp tn q3), .ref nw, .ref dr, .ref tr, .ref pa, .int (nI ac), .ref ig, .ref kx, .ref be, .ref tc, .int (nI td)])), (mt, .inl (cy 0, 100, .inl ft))] := hD
          have hpe3 := tkE_le (tp := tp) hq3b
          refine lv_istore (lv' := [(5, .int (nI v3)), (4, .int (nI v2)), (3, .int (nI v1)), (2, .int (nI (5 + (4 * (w 4))))), (1, .int (nI (pKind (tp p)))), (0, .ref m0)]) hx hb dX7_readsClue_89 hl (by decide) rfl (fun ls hl => ?_)
          refine lv_aload_n hx hb dX7_readsClue_91 rfl (lv_at hl 5 rfl) ?_
          refine lv_aload_n hx hb dX7_readsClue_92 rfl (lv_at hl 5 rfl) ?_
          refine va_get (D := D) (ci := 7) (v := .int (nI (tkK tp tn q3))) (C := RX7) (T := TX7) (N := 23) hx hb hts nX7_readsClue_0 hown hK.1 hP 1 rfl rfl 11 (by decide) (hts _ mX7_readsClue_3) (fun _ h9 => h9) rfl dX7_readsClue_93 ?_
          refine lv_iconst (v := nI 4) hx hb dX7_readsClue_96 (by decide) ?_
          have hkl97 := tkK_le tp tn q3
          refine q_icmp_ne (tgt := 104) hx hb dX7_readsClue_97 (by decide) (by omega) (by decide) (fun c28 => ?_) (fun c28 => ?_)
          · have hts4 := tkK_n4 c28
            refine lv_iconst (v := nI 0) hx hb dX7_readsClue_104 (by decide) ?_
            refine lv_iconst (v := nI 1) hx hb dX7_readsClue_105 (by decide) ?_
            refine q_wiV (As := [.int (nI 0), .int (nI 1)]) (rest := []) (wr := [(dr, .inl (cy 0, 29, .inl gd)), (mt, .inl (cy 0, 100, .inl ft))]) ⟨hx, hb, hml, hown, hts⟩ (c_X7_takes_n l D cy m0 ml mm mit ms mt nw dr tr pa ig kx be tc st fk (-1) (nI (tkE tp tn q3)) (nI q3) (nI (tkK tp tn q3)) (tkV tp tn q3) tn ac td (nI 1)) (cwV 2 hts gX7_readsClue_X7_takes rfl rfl rfl (by decide +kernel) ⟨Nat.le_of_ble_eq_true rfl, Nat.le_of_ble_eq_true rfl⟩) hP hD hS hA hK [1] [0, 2] rfl rfl (by decide) rfl (by decide) (by decide) 1 rfl rfl rfl rfl hl.1 rfl (Nat.le_of_ble_eq_true rfl) dX7_readsClue_106 ⟨Nat.zero_le _, Nat.zero_le _⟩ (fun r29 u30 H locs hr29 hP hD hS => ?_)
            obtain ⟨rfl, rfl⟩ := hr29
            have hP : va_P D vwCl [(dr, .inl (cy 0, 29, .inl gd)), (mt, .inl (cy 0, 100, .inl ft)), (m0, .inr (7, [.ref ml, .ref mm, .ref mit, .ref ms, .int (st), .ref mt, .int (nI tn), .int (nI 1), .int (nI q3), .int (nI (tkE tp tn q3)), .int (nI q3), .int (nI (tkK tp tn q3)), .int (tkV tp tn q3), .ref nw, .ref dr, .ref tr, .ref pa, .int (nI ac), .ref ig, .ref kx, .ref be, .ref tc, .int (nI td)]))] H := hP
            have hD : va_D A [(dr, .inl (cy 0, 29, .inl gd)), (mt, .inl (cy 0, 100, .inl ft)), (m0, .inr (7, [.ref ml, .ref mm, .ref mit, .ref ms, .int (st), .ref mt, .int (nI tn), .int (nI 1), .int (nI q3), .int (nI (tkE tp tn q3)), .int (nI q3), .int (nI (tkK tp tn q3)), .int (tkV tp tn q3), .ref nw, .ref dr, .ref tr, .ref pa, .int (nI ac), .ref ig, .ref kx, .ref be, .ref tc, .int (nI td)]))] := hD
            refine lv_pop hx hb dX7_readsClue_109 rfl ?_
            refine lv_aload_n hx hb dX7_readsClue_110 rfl (lv_at hl 5 rfl) ?_
            refine q_rV (As := []) (rest := []) ⟨hx, hb, hml, hown, hts⟩ (c_X7_isWell_n l D cy m0 ml mm mit ms mt nw dr tr pa ig kx be tc st (nI 1) (nI q3) (nI (tkE tp tn q3)) (nI q3) (nI (tkK tp tn q3)) (tkV tp tn q3) tn ac td q3 (by omega)) (cwV 0 hts gX7_readsClue_X7_isWell rfl rfl rfl (by decide +kernel) ⟨Nat.le_of_ble_eq_true rfl, Nat.le_of_ble_eq_true rfl⟩) hP hK [2] rfl 2 rfl rfl rfl rfl hl.1 rfl (Nat.le_of_ble_eq_true rfl) dX7_readsClue_111 ⟨Nat.zero_le _, Nat.zero_le _⟩ (fun r31 hr31 => ?_)
            obtain rfl := hr31
            refine lv_if_eq (tgt := 163) hx hb dX7_readsClue_114 (by decide) (fun _ => ?_) (fun c9 => absurd (by decide) c9)
            have hP9 := hP.sub (ws' := [(m0, .inr (7, [.ref ml, .ref mm, .ref mit, .ref ms, .int (st), .ref mt, .int (nI tn), .int (nI 1), .int (nI q3), .int (nI (tkE tp tn q3)), .int (nI q3), .int (nI (tkK tp tn q3)), .int (tkV tp tn q3), .ref nw, .ref dr, .ref tr, .ref pa, .int (nI ac), .ref ig, .ref kx, .ref be, .ref tc, .int (nI td)])), (mt, .inl (cy 0, 100, .inl ft)), (dr, .inl (cy 0, 29, .inl gd))]) [2, 1, 0] rfl
            have hD9 := hD.sub (ws' := [(m0, .inr (7, [.ref ml, .ref mm, .ref mit, .ref ms, .int (st), .ref mt, .int (nI tn), .int (nI 1), .int (nI q3), .int (nI (tkE tp tn q3)), .int (nI q3), .int (nI (tkK tp tn q3)), .int (tkV tp tn q3), .ref nw, .ref dr, .ref tr, .ref pa, .int (nI ac), .ref ig, .ref kx, .ref be, .ref tc, .int (nI td)])), (mt, .inl (cy 0, 100, .inl ft)), (dr, .inl (cy 0, 29, .inl gd))]) [2, 1, 0] (by decide) rfl
            exact q_wvret hx hb hr hlocks dX7_readsClue_163 hP9 hD9 hS (Or.inr ⟨q3, 1, _, _, _, _, by simp only [pClue, if_neg (by omega : ¬ pKind (tp p) = 0), if_neg (by omega : ¬ 6 ≤ w 4), hn1, ht2, hn2, ht3, hn3, hts4, Except.bind], by omega, rfl⟩)
          · have hts4 := tkK_4 c28
            have hts5 := hts4.2
            refine lv_iconst (v := nI 1) hx hb dX7_readsClue_100 (by decide) ?_
            refine lv_goto (tgt := 105) hx hb dX7_readsClue_101 (by decide) ?_
            refine lv_iconst (v := nI 1) hx hb dX7_readsClue_105 (by decide) ?_
            refine q_wiV (As := [.int (nI 1), .int (nI 1)]) (rest := []) (wr := [(dr, .inl (cy 0, 29, .inl gd))]) ⟨hx, hb, hml, hown, hts⟩ (c_X7_takes_y l D cy m0 ml mm mit ms mt nw dr tr pa ig kx be tc st fk (-1) (nI (tkE tp tn q3)) (nI q3) (nI (tkK tp tn q3)) (tkV tp tn q3) tn ac td ft tp htn htp (tkE tp tn q3) (by omega) (nI 1)) (cwV 2 hts gX7_readsClue_X7_takes rfl rfl rfl (by decide +kernel) ⟨Nat.le_of_ble_eq_true rfl, Nat.le_of_ble_eq_true rfl⟩) hP hD hS hA hK [1, 2] [0] rfl rfl (by decide) rfl (by decide) (by decide) 1 rfl rfl rfl rfl hl.1 rfl (Nat.le_of_ble_eq_true rfl) dX7_readsClue_106 ⟨Nat.zero_le _, Nat.zero_le _⟩ (fun r32 u33 H locs hr32 hP hD hS => ?_)
            obtain ⟨rfl, rfl⟩ := hr32
            have hP : va_P D vwCl [(dr, .inl (cy 0, 29, .inl gd)), (m0, .inr (7, [.ref ml, .ref mm, .ref mit, .ref ms, .int (st), .ref mt, .int (nI tn), .int (fk), .int ((-1)), .int (nI (tkE tp tn (tkE tp tn q3))), .int (nI (tkE tp tn q3)), .int (nI (tkK tp tn (tkE tp tn q3))), .int (tkV tp tn (tkE tp tn q3)), .ref nw, .ref dr, .ref tr, .ref pa, .int (nI ac), .ref ig, .ref kx, .ref be, .ref tc, .int (nI td)])), (mt, .inl (cy 0, 100, .inl ft))] H := hP
            have hD : va_D A [(dr, .inl (cy 0, 29, .inl gd)), (m0, .inr (7, [.ref ml, .ref mm, .ref mit, .ref ms, .int (st), .ref mt, .int (nI tn), .int (fk), .int ((-1)), .int (nI (tkE tp tn (tkE tp tn q3))), .int (nI (tkE tp tn q3)), .int (nI (tkK tp tn (tkE tp tn q3))), .int (tkV tp tn (tkE tp tn q3)), .ref nw, .ref dr, .ref tr, .ref pa, .int (nI ac), .ref ig, .ref kx, .ref be, .ref tc, .int (nI td)])), (mt, .inl (cy 0, 100, .inl ft))] := hD
            refine lv_pop hx hb dX7_readsClue_109 rfl ?_
            refine lv_aload_n hx hb dX7_readsClue_110 rfl (lv_at hl 5 rfl) ?_
            refine q_rV (As := []) (rest := []) ⟨hx, hb, hml, hown, hts⟩ (c_X7_isWell_y l D cy m0 ml mm mit ms mt nw dr tr pa ig kx be tc st fk (-1) (nI (tkE tp tn (tkE tp tn q3))) (nI (tkE tp tn q3)) (nI (tkK tp tn (tkE tp tn q3))) (tkV tp tn (tkE tp tn q3)) tn ac td) (cwV 0 hts gX7_readsClue_X7_isWell rfl rfl rfl (by decide +kernel) ⟨Nat.le_of_ble_eq_true rfl, Nat.le_of_ble_eq_true rfl⟩) hP hK [1] rfl 1 rfl rfl rfl rfl hl.1 rfl (Nat.le_of_ble_eq_true rfl) dX7_readsClue_111 ⟨Nat.zero_le _, Nat.zero_le _⟩ (fun r34 hr34 => ?_)
            obtain rfl := hr34
            refine lv_if_eq (tgt := 163) hx hb dX7_readsClue_114 (by decide) (fun c9 => absurd c9 (by decide)) (fun _ => ?_)
            refine lv_aload_n hx hb dX7_readsClue_117 rfl (lv_at hl 5 rfl) ?_
            refine va_get (D := D) (ci := 7) (v := .ref dr) (C := RX7) (T := TX7) (N := 23) hx hb hts nX7_readsClue_0 hown hK.1 hP 1 rfl rfl 14 (by decide) (hts _ mX7_readsClue_2) (fun _ h9 => h9) rfl dX7_readsClue_118 ?_
            refine lv_iload_n hx hb dX7_readsClue_121 rfl (lv_at hl 3 rfl) ?_
            refine lv_iload_n hx hb dX7_readsClue_122 rfl (lv_at hl 4 rfl) ?_
            refine q_iast (j := (5 + (4 * (w 4)))) hx hb hK hP hD hS 0 rfl (by omega) (by decide) dX7_readsClue_123 (fun H locs hP hD hS => ?_)
            have hP : va_P D vwCl [(dr, .inl (cy 0, 29, .inl (upd gd (5 + (4 * (w 4))) (nI (pKind (tp p)))))), (m0, .inr (7, [.ref ml, .ref mm, .ref mit, .ref ms, .int (st), .ref mt, .int (nI tn), .int (fk), .int ((-1)), .int (nI (tkE tp tn (tkE tp tn q3))), .int (nI (tkE tp tn q3)), .int (nI (tkK tp tn (tkE tp tn q3))), .int (tkV tp tn (tkE tp tn q3)), .ref nw, .ref dr, .ref tr, .ref pa, .int (nI ac), .ref ig, .ref kx, .ref be, .ref tc, .int (nI td)])), (mt, .inl (cy 0, 100, .inl ft))] H := hP
            have hD : va_D A [(dr, .inl (cy 0, 29, .inl (upd gd (5 + (4 * (w 4))) (nI (pKind (tp p)))))), (m0, .inr (7, [.ref ml, .ref mm, .ref mit, .ref ms, .int (st), .ref mt, .int (nI tn), .int (fk), .int ((-1)), .int (nI (tkE tp tn (tkE tp tn q3))), .int (nI (tkE tp tn q3)), .int (nI (tkK tp tn (tkE tp tn q3))), .int (tkV tp tn (tkE tp tn q3)), .ref nw, .ref dr, .ref tr, .ref pa, .int (nI ac), .ref ig, .ref kx, .ref be, .ref tc, .int (nI td)])), (mt, .inl (cy 0, 100, .inl ft))] := hD
            refine lv_aload_n hx hb dX7_readsClue_124 rfl (lv_at hl 5 rfl) ?_
            refine va_get (D := D) (ci := 7) (v := .ref dr) (C := RX7) (T := TX7) (N := 23) hx hb hts nX7_readsClue_0 hown hK.1 hP 1 rfl rfl 14 (by decide) (hts _ mX7_readsClue_2) (fun _ h9 => h9) rfl dX7_readsClue_125 ?_
            refine lv_iload_n hx hb dX7_readsClue_128 rfl (lv_at hl 3 rfl) ?_
            refine lv_iconst (v := nI 1) hx hb dX7_readsClue_129 (by decide) ?_
            refine lv_iadd hx hb dX7_readsClue_130 ?_
            refine q_top (y := nI ((5 + (4 * (w 4))) + 1)) (nI_add _ _) ?_
            refine lv_iload_n hx hb dX7_readsClue_131 rfl (lv_at hl 2 rfl) ?_
            refine q_iast (j := ((5 + (4 * (w 4))) + 1)) hx hb hK hP hD hS 0 rfl (by omega) (by decide) dX7_readsClue_132 (fun H locs hP hD hS => ?_)
            have hP : va_P D vwCl [(dr, .inl (cy 0, 29, .inl (upd (upd gd (5 + (4 * (w 4))) (nI (pKind (tp p)))) ((5 + (4 * (w 4))) + 1) (nI v1)))), (m0, .inr (7, [.ref ml, .ref mm, .ref mit, .ref ms, .int (st), .ref mt, .int (nI tn), .int (fk), .int ((-1)), .int (nI (tkE tp tn (tkE tp tn q3))), .int (nI (tkE tp tn q3)), .int (nI (tkK tp tn (tkE tp tn q3))), .int (tkV tp tn (tkE tp tn q3)), .ref nw, .ref dr, .ref tr, .ref pa, .int (nI ac), .ref ig, .ref kx, .ref be, .ref tc, .int (nI td)])), (mt, .inl (cy 0, 100, .inl ft))] H := hP
            have hD : va_D A [(dr, .inl (cy 0, 29, .inl (upd (upd gd (5 + (4 * (w 4))) (nI (pKind (tp p)))) ((5 + (4 * (w 4))) + 1) (nI v1)))), (m0, .inr (7, [.ref ml, .ref mm, .ref mit, .ref ms, .int (st), .ref mt, .int (nI tn), .int (fk), .int ((-1)), .int (nI (tkE tp tn (tkE tp tn q3))), .int (nI (tkE tp tn q3)), .int (nI (tkK tp tn (tkE tp tn q3))), .int (tkV tp tn (tkE tp tn q3)), .ref nw, .ref dr, .ref tr, .ref pa, .int (nI ac), .ref ig, .ref kx, .ref be, .ref tc, .int (nI td)])), (mt, .inl (cy 0, 100, .inl ft))] := hD
            refine lv_aload_n hx hb dX7_readsClue_133 rfl (lv_at hl 5 rfl) ?_
            refine va_get (D := D) (ci := 7) (v := .ref dr) (C := RX7) (T := TX7) (N := 23) hx hb hts nX7_readsClue_0 hown hK.1 hP 1 rfl rfl 14 (by decide) (hts _ mX7_readsClue_2) (fun _ h9 => h9) rfl dX7_readsClue_134 ?_
            refine lv_iload_n hx hb dX7_readsClue_137 rfl (lv_at hl 3 rfl) ?_
            refine lv_iconst (v := nI 2) hx hb dX7_readsClue_138 (by decide) ?_
            refine lv_iadd hx hb dX7_readsClue_139 ?_
            refine q_top (y := nI ((5 + (4 * (w 4))) + 2)) (nI_add _ _) ?_
            refine lv_iload hx hb dX7_readsClue_140 (lv_at hl 1 rfl) ?_
            refine q_iast (j := ((5 + (4 * (w 4))) + 2)) hx hb hK hP hD hS 0 rfl (by omega) (by decide) dX7_readsClue_142 (fun H locs hP hD hS => ?_)
            have hP : va_P D vwCl [(dr, .inl (cy 0, 29, .inl (upd (upd (upd gd (5 + (4 * (w 4))) (nI (pKind (tp p)))) ((5 + (4 * (w 4))) + 1) (nI v1)) ((5 + (4 * (w 4))) + 2) (nI v2)))), (m0, .inr (7, [.ref ml, .ref mm, .ref mit, .ref ms, .int (st), .ref mt, .int (nI tn), .int (fk), .int ((-1)), .int (nI (tkE tp tn (tkE tp tn q3))), .int (nI (tkE tp tn q3)), .int (nI (tkK tp tn (tkE tp tn q3))), .int (tkV tp tn (tkE tp tn q3)), .ref nw, .ref dr, .ref tr, .ref pa, .int (nI ac), .ref ig, .ref kx, .ref be, .ref tc, .int (nI td)])), (mt, .inl (cy 0, 100, .inl ft))] H := hP
            have hD : va_D A [(dr, .inl (cy 0, 29, .inl (upd (upd (upd gd (5 + (4 * (w 4))) (nI (pKind (tp p)))) ((5 + (4 * (w 4))) + 1) (nI v1)) ((5 + (4 * (w 4))) + 2) (nI v2)))), (m0, .inr (7, [.ref ml, .ref mm, .ref mit, .ref ms, .int (st), .ref mt, .int (nI tn), .int (fk), .int ((-1)), .int (nI (tkE tp tn (tkE tp tn q3))), .int (nI (tkE tp tn q3)), .int (nI (tkK tp tn (tkE tp tn q3))), .int (tkV tp tn (tkE tp tn q3)), .ref nw, .ref dr, .ref tr, .ref pa, .int (nI ac), .ref ig, .ref kx, .ref be, .ref tc, .int (nI td)])), (mt, .inl (cy 0, 100, .inl ft))] := hD
            refine lv_aload_n hx hb dX7_readsClue_143 rfl (lv_at hl 5 rfl) ?_
            refine va_get (D := D) (ci := 7) (v := .ref dr) (C := RX7) (T := TX7) (N := 23) hx hb hts nX7_readsClue_0 hown hK.1 hP 1 rfl rfl 14 (by decide) (hts _ mX7_readsClue_2) (fun _ h9 => h9) rfl dX7_readsClue_144 ?_
            refine lv_iload_n hx hb dX7_readsClue_147 rfl (lv_at hl 3 rfl) ?_
            refine lv_iconst (v := nI 3) hx hb dX7_readsClue_148 (by decide) ?_
            refine lv_iadd hx hb dX7_readsClue_149 ?_
            refine q_top (y := nI ((5 + (4 * (w 4))) + 3)) (nI_add _ _) ?_
            refine lv_iload hx hb dX7_readsClue_150 (lv_at hl 0 rfl) ?_
            refine q_iast (j := ((5 + (4 * (w 4))) + 3)) hx hb hK hP hD hS 0 rfl (by omega) (by decide) dX7_readsClue_152 (fun H locs hP hD hS => ?_)
            have hP : va_P D vwCl [(dr, .inl (cy 0, 29, .inl (upd (upd (upd (upd gd (5 + (4 * (w 4))) (nI (pKind (tp p)))) ((5 + (4 * (w 4))) + 1) (nI v1)) ((5 + (4 * (w 4))) + 2) (nI v2)) ((5 + (4 * (w 4))) + 3) (nI v3)))), (m0, .inr (7, [.ref ml, .ref mm, .ref mit, .ref ms, .int (st), .ref mt, .int (nI tn), .int (fk), .int ((-1)), .int (nI (tkE tp tn (tkE tp tn q3))), .int (nI (tkE tp tn q3)), .int (nI (tkK tp tn (tkE tp tn q3))), .int (tkV tp tn (tkE tp tn q3)), .ref nw, .ref dr, .ref tr, .ref pa, .int (nI ac), .ref ig, .ref kx, .ref be, .ref tc, .int (nI td)])), (mt, .inl (cy 0, 100, .inl ft))] H := hP
            have hD : va_D A [(dr, .inl (cy 0, 29, .inl (upd (upd (upd (upd gd (5 + (4 * (w 4))) (nI (pKind (tp p)))) ((5 + (4 * (w 4))) + 1) (nI v1)) ((5 + (4 * (w 4))) + 2) (nI v2)) ((5 + (4 * (w 4))) + 3) (nI v3)))), (m0, .inr (7, [.ref ml, .ref mm, .ref mit, .ref ms, .int (st), .ref mt, .int (nI tn), .int (fk), .int ((-1)), .int (nI (tkE tp tn (tkE tp tn q3))), .int (nI (tkE tp tn q3)), .int (nI (tkK tp tn (tkE tp tn q3))), .int (tkV tp tn (tkE tp tn q3)), .ref nw, .ref dr, .ref tr, .ref pa, .int (nI ac), .ref ig, .ref kx, .ref be, .ref tc, .int (nI td)])), (mt, .inl (cy 0, 100, .inl ft))] := hD
            refine lv_aload_n hx hb dX7_readsClue_153 rfl (lv_at hl 5 rfl) ?_
            refine va_get (D := D) (ci := 7) (v := .ref dr) (C := RX7) (T := TX7) (N := 23) hx hb hts nX7_readsClue_0 hown hK.1 hP 1 rfl rfl 14 (by decide) (hts _ mX7_readsClue_2) (fun _ h9 => h9) rfl dX7_readsClue_154 ?_
            refine lv_iconst (v := nI 4) hx hb dX7_readsClue_157 (by decide) ?_
            refine lv_dup2_11 hx hb dX7_readsClue_158 rfl rfl ?_
            refine q_iald (j := 4) (v := (upd (upd (upd (upd gd (5 + (4 * (w 4))) (nI (pKind (tp p)))) ((5 + (4 * (w 4))) + 1) (nI v1)) ((5 + (4 * (w 4))) + 2) (nI v2)) ((5 + (4 * (w 4))) + 3) (nI v3)) 4) hx hb hK hP 0 rfl (by omega) (by decide) (rfl) dX7_readsClue_159 ?_
            refine q_top (y := nI (w 4)) (by rw [pk_un (by omega), pk_un (by omega), pk_un (by omega), pk_un (by omega)]; exact hmd 4 (by decide)) ?_
            refine lv_iconst (v := nI 1) hx hb dX7_readsClue_160 (by decide) ?_
            refine lv_iadd hx hb dX7_readsClue_161 ?_
            refine q_top (y := nI ((w 4) + 1)) (nI_add _ _) ?_
            refine q_iast (j := 4) hx hb hK hP hD hS 0 rfl (by omega) (by decide) dX7_readsClue_162 (fun H locs hP hD hS => ?_)
            have hP : va_P D vwCl [(dr, .inl (cy 0, 29, .inl (upd (upd (upd (upd (upd gd (5 + (4 * (w 4))) (nI (pKind (tp p)))) ((5 + (4 * (w 4))) + 1) (nI v1)) ((5 + (4 * (w 4))) + 2) (nI v2)) ((5 + (4 * (w 4))) + 3) (nI v3)) 4 (nI ((w 4) + 1))))), (m0, .inr (7, [.ref ml, .ref mm, .ref mit, .ref ms, .int (st), .ref mt, .int (nI tn), .int (fk), .int ((-1)), .int (nI (tkE tp tn (tkE tp tn q3))), .int (nI (tkE tp tn q3)), .int (nI (tkK tp tn (tkE tp tn q3))), .int (tkV tp tn (tkE tp tn q3)), .ref nw, .ref dr, .ref tr, .ref pa, .int (nI ac), .ref ig, .ref kx, .ref be, .ref tc, .int (nI td)])), (mt, .inl (cy 0, 100, .inl ft))] H := hP
            have hD : va_D A [(dr, .inl (cy 0, 29, .inl (upd (upd (upd (upd (upd gd (5 + (4 * (w 4))) (nI (pKind (tp p)))) ((5 + (4 * (w 4))) + 1) (nI v1)) ((5 + (4 * (w 4))) + 2) (nI v2)) ((5 + (4 * (w 4))) + 3) (nI v3)) 4 (nI ((w 4) + 1))))), (m0, .inr (7, [.ref ml, .ref mm, .ref mit, .ref ms, .int (st), .ref mt, .int (nI tn), .int (fk), .int ((-1)), .int (nI (tkE tp tn (tkE tp tn q3))), .int (nI (tkE tp tn q3)), .int (nI (tkK tp tn (tkE tp tn q3))), .int (tkV tp tn (tkE tp tn q3)), .ref nw, .ref dr, .ref tr, .ref pa, .int (nI ac), .ref ig, .ref kx, .ref be, .ref tc, .int (nI td)])), (mt, .inl (cy 0, 100, .inl ft))] := hD
            have hP9 := hP.sub (ws' := [(m0, .inr (7, [.ref ml, .ref mm, .ref mit, .ref ms, .int (st), .ref mt, .int (nI tn), .int (fk), .int ((-1)), .int (nI (tkE tp tn (tkE tp tn q3))), .int (nI (tkE tp tn q3)), .int (nI (tkK tp tn (tkE tp tn q3))), .int (tkV tp tn (tkE tp tn q3)), .ref nw, .ref dr, .ref tr, .ref pa, .int (nI ac), .ref ig, .ref kx, .ref be, .ref tc, .int (nI td)])), (mt, .inl (cy 0, 100, .inl ft)), (dr, .inl (cy 0, 29, .inl (upd (upd (upd (upd (upd gd (5 + (4 * (w 4))) (nI (pKind (tp p)))) ((5 + (4 * (w 4))) + 1) (nI v1)) ((5 + (4 * (w 4))) + 2) (nI v2)) ((5 + (4 * (w 4))) + 3) (nI v3)) 4 (nI ((w 4) + 1)))))]) [1, 2, 0] rfl
            have hD9 := hD.sub (ws' := [(m0, .inr (7, [.ref ml, .ref mm, .ref mit, .ref ms, .int (st), .ref mt, .int (nI tn), .int (fk), .int ((-1)), .int (nI (tkE tp tn (tkE tp tn q3))), .int (nI (tkE tp tn q3)), .int (nI (tkK tp tn (tkE tp tn q3))), .int (tkV tp tn (tkE tp tn q3)), .ref nw, .ref dr, .ref tr, .ref pa, .int (nI ac), .ref ig, .ref kx, .ref be, .ref tc, .int (nI td)])), (mt, .inl (cy 0, 100, .inl ft)), (dr, .inl (cy 0, 29, .inl (upd (upd (upd (upd (upd gd (5 + (4 * (w 4))) (nI (pKind (tp p)))) ((5 + (4 * (w 4))) + 1) (nI v1)) ((5 + (4 * (w 4))) + 2) (nI v2)) ((5 + (4 * (w 4))) + 3) (nI v3)) 4 (nI ((w 4) + 1)))))]) [1, 2, 0] (by decide) rfl
            exact q_wvret hx hb hr hlocks dX7_readsClue_163 hP9 hD9 hS (Or.inl ⟨tkE tp tn q3, pKind (tp p), v1, v2, v3, by simp only [pClue, if_neg (by omega : ¬ pKind (tp p) = 0), if_neg (by omega : ¬ 6 ≤ w 4), hn1, ht2, hn2, ht3, hn3, hts4.1, Except.bind], by have := tkE_le (tp := tp) hq3b; omega, by omega, by omega, by omega, by omega, by omega, by omega, by omega, by omega, by omega, _, mwIs_add hmd (by omega), rfl⟩)
        · have hP : va_P D vwCl [(dr, .inl (cy 0, 29, .inl gd)), (m0, .inr (7, [.ref ml, .ref mm, .ref mit, .ref ms, .int (st), .ref mt, .int (nI tn), .int (nI k3), .int (nI q3), .int (e31), .int (e32), .int (e33), .int (e34), .ref nw, .ref dr, .ref tr, .ref pa, .int (nI ac), .ref ig, .ref kx, .ref be, .ref tc, .int (nI td)])), (mt, .inl (cy 0, 100, .inl ft))] H := hP
          have hD : va_D A [(dr, .inl (cy 0, 29, .inl gd)), (m0, .inr (7, [.ref ml, .ref mm, .ref mit, .ref ms, .int (st), .ref mt, .int (nI tn), .int (nI k3), .int (nI q3), .int (e31), .int (e32), .int (e33), .int (e34), .ref nw, .ref dr, .ref tr, .ref pa, .int (nI ac), .ref ig, .ref kx, .ref be, .ref tc, .int (nI td)])), (mt, .inl (cy 0, 100, .inl ft))] := hD
          refine lv_istore (lv' := [(5, .int (nI 0)), (4, .int (nI v2)), (3, .int (nI v1)), (2, .int (nI (5 + (4 * (w 4))))), (1, .int (nI (pKind (tp p)))), (0, .ref m0)]) hx hb dX7_readsClue_89 hl (by decide) rfl (fun ls hl => ?_)
          refine lv_aload_n hx hb dX7_readsClue_91 rfl (lv_at hl 5 rfl) ?_
          refine lv_aload_n hx hb dX7_readsClue_92 rfl (lv_at hl 5 rfl) ?_
          refine va_get (D := D) (ci := 7) (v := .int (e33)) (C := RX7) (T := TX7) (N := 23) hx hb hts nX7_readsClue_0 hown hK.1 hP 1 rfl rfl 11 (by decide) (hts _ mX7_readsClue_3) (fun _ h9 => h9) rfl dX7_readsClue_93 ?_
          refine lv_iconst (v := nI 4) hx hb dX7_readsClue_96 (by decide) ?_
          refine lv_icmp_ne (tgt := 104) hx hb dX7_readsClue_97 (by decide) (fun c35 => ?_) (fun c35 => ?_)
          · refine lv_iconst (v := nI 0) hx hb dX7_readsClue_104 (by decide) ?_
            refine lv_iconst (v := nI 1) hx hb dX7_readsClue_105 (by decide) ?_
            refine q_wiV (As := [.int (nI 0), .int (nI 1)]) (rest := []) (wr := [(dr, .inl (cy 0, 29, .inl gd)), (mt, .inl (cy 0, 100, .inl ft))]) ⟨hx, hb, hml, hown, hts⟩ (c_X7_takes_e l D cy m0 ml mm mit ms mt nw dr tr pa ig kx be tc st (nI k3) (nI q3) e31 e32 e33 e34 tn ac td q3 (by omega) (nI 0) (nI 1)) (cwV 2 hts gX7_readsClue_X7_takes rfl rfl rfl (by decide +kernel) ⟨Nat.le_of_ble_eq_true rfl, Nat.le_of_ble_eq_true rfl⟩) hP hD hS hA hK [1] [0, 2] rfl rfl (by decide) rfl (by decide) (by decide) 1 rfl rfl rfl rfl hl.1 rfl (Nat.le_of_ble_eq_true rfl) dX7_readsClue_106 ⟨Nat.zero_le _, Nat.zero_le _⟩ (fun r36 u37 H locs hr36 hP hD hS => ?_)
            obtain ⟨rfl, rfl⟩ := hr36
            have hP : va_P D vwCl [(dr, .inl (cy 0, 29, .inl gd)), (mt, .inl (cy 0, 100, .inl ft)), (m0, .inr (7, [.ref ml, .ref mm, .ref mit, .ref ms, .int (st), .ref mt, .int (nI tn), .int (nI k3), .int (nI q3), .int (e31), .int (e32), .int (e33), .int (e34), .ref nw, .ref dr, .ref tr, .ref pa, .int (nI ac), .ref ig, .ref kx, .ref be, .ref tc, .int (nI td)]))] H := hP
            have hD : va_D A [(dr, .inl (cy 0, 29, .inl gd)), (mt, .inl (cy 0, 100, .inl ft)), (m0, .inr (7, [.ref ml, .ref mm, .ref mit, .ref ms, .int (st), .ref mt, .int (nI tn), .int (nI k3), .int (nI q3), .int (e31), .int (e32), .int (e33), .int (e34), .ref nw, .ref dr, .ref tr, .ref pa, .int (nI ac), .ref ig, .ref kx, .ref be, .ref tc, .int (nI td)]))] := hD
            refine lv_pop hx hb dX7_readsClue_109 rfl ?_
            refine lv_aload_n hx hb dX7_readsClue_110 rfl (lv_at hl 5 rfl) ?_
            refine q_rV (As := []) (rest := []) ⟨hx, hb, hml, hown, hts⟩ (c_X7_isWell_n l D cy m0 ml mm mit ms mt nw dr tr pa ig kx be tc st (nI k3) (nI q3) e31 e32 e33 e34 tn ac td q3 (by omega)) (cwV 0 hts gX7_readsClue_X7_isWell rfl rfl rfl (by decide +kernel) ⟨Nat.le_of_ble_eq_true rfl, Nat.le_of_ble_eq_true rfl⟩) hP hK [2] rfl 2 rfl rfl rfl rfl hl.1 rfl (Nat.le_of_ble_eq_true rfl) dX7_readsClue_111 ⟨Nat.zero_le _, Nat.zero_le _⟩ (fun r38 hr38 => ?_)
            obtain rfl := hr38
            refine lv_if_eq (tgt := 163) hx hb dX7_readsClue_114 (by decide) (fun _ => ?_) (fun c9 => absurd (by decide) c9)
            have hP9 := hP.sub (ws' := [(m0, .inr (7, [.ref ml, .ref mm, .ref mit, .ref ms, .int (st), .ref mt, .int (nI tn), .int (nI k3), .int (nI q3), .int (e31), .int (e32), .int (e33), .int (e34), .ref nw, .ref dr, .ref tr, .ref pa, .int (nI ac), .ref ig, .ref kx, .ref be, .ref tc, .int (nI td)])), (mt, .inl (cy 0, 100, .inl ft)), (dr, .inl (cy 0, 29, .inl gd))]) [2, 1, 0] rfl
            have hD9 := hD.sub (ws' := [(m0, .inr (7, [.ref ml, .ref mm, .ref mit, .ref ms, .int (st), .ref mt, .int (nI tn), .int (nI k3), .int (nI q3), .int (e31), .int (e32), .int (e33), .int (e34), .ref nw, .ref dr, .ref tr, .ref pa, .int (nI ac), .ref ig, .ref kx, .ref be, .ref tc, .int (nI td)])), (mt, .inl (cy 0, 100, .inl ft)), (dr, .inl (cy 0, 29, .inl gd))]) [2, 1, 0] (by decide) rfl
            exact q_wvret hx hb hr hlocks dX7_readsClue_163 hP9 hD9 hS (Or.inr ⟨q3, k3, _, _, _, _, by simp only [pClue, if_neg (by omega : ¬ pKind (tp p) = 0), if_neg (by omega : ¬ 6 ≤ w 4), hn1, ht2, hn2, hnt3, Except.bind], by omega, rfl⟩)
          · refine lv_iconst (v := nI 1) hx hb dX7_readsClue_100 (by decide) ?_
            refine lv_goto (tgt := 105) hx hb dX7_readsClue_101 (by decide) ?_
            refine lv_iconst (v := nI 1) hx hb dX7_readsClue_105 (by decide) ?_
            refine q_wiV (As := [.int (nI 1), .int (nI 1)]) (rest := []) (wr := [(dr, .inl (cy 0, 29, .inl gd)), (mt, .inl (cy 0, 100, .inl ft))]) ⟨hx, hb, hml, hown, hts⟩ (c_X7_takes_e l D cy m0 ml mm mit ms mt nw dr tr pa ig kx be tc st (nI k3) (nI q3) e31 e32 e33 e34 tn ac td q3 (by omega) (nI 1) (nI 1)) (cwV 2 hts gX7_readsClue_X7_takes rfl rfl rfl (by decide +kernel) ⟨Nat.le_of_ble_eq_true rfl, Nat.le_of_ble_eq_true rfl⟩) hP hD hS hA hK [1] [0, 2] rfl rfl (by decide) rfl (by decide) (by decide) 1 rfl rfl rfl rfl hl.1 rfl (Nat.le_of_ble_eq_true rfl) dX7_readsClue_106 ⟨Nat.zero_le _, Nat.zero_le _⟩ (fun r39 u40 H locs hr39 hP hD hS => ?_)
            obtain ⟨rfl, rfl⟩ := hr39
            have hP : va_P D vwCl [(dr, .inl (cy 0, 29, .inl gd)), (mt, .inl (cy 0, 100, .inl ft)), (m0, .inr (7, [.ref ml, .ref mm, .ref mit, .ref ms, .int (st), .ref mt, .int (nI tn), .int (nI k3), .int (nI q3), .int (e31), .int (e32), .int (e33), .int (e34), .ref nw, .ref dr, .ref tr, .ref pa, .int (nI ac), .ref ig, .ref kx, .ref be, .ref tc, .int (nI td)]))] H := hP
            have hD : va_D A [(dr, .inl (cy 0, 29, .inl gd)), (mt, .inl (cy 0, 100, .inl ft)), (m0, .inr (7, [.ref ml, .ref mm, .ref mit, .ref ms, .int (st), .ref mt, .int (nI tn), .int (nI k3), .int (nI q3), .int (e31), .int (e32), .int (e33), .int (e34), .ref nw, .ref dr, .ref tr, .ref pa, .int (nI ac), .ref ig, .ref kx, .ref be, .ref tc, .int (nI td)]))] := hD
            refine lv_pop hx hb dX7_readsClue_109 rfl ?_
            refine lv_aload_n hx hb dX7_readsClue_110 rfl (lv_at hl 5 rfl) ?_
            refine q_rV (As := []) (rest := []) ⟨hx, hb, hml, hown, hts⟩ (c_X7_isWell_n l D cy m0 ml mm mit ms mt nw dr tr pa ig kx be tc st (nI k3) (nI q3) e31 e32 e33 e34 tn ac td q3 (by omega)) (cwV 0 hts gX7_readsClue_X7_isWell rfl rfl rfl (by decide +kernel) ⟨Nat.le_of_ble_eq_true rfl, Nat.le_of_ble_eq_true rfl⟩) hP hK [2] rfl 2 rfl rfl rfl rfl hl.1 rfl (Nat.le_of_ble_eq_true rfl) dX7_readsClue_111 ⟨Nat.zero_le _, Nat.zero_le _⟩ (fun r41 hr41 => ?_)
            obtain rfl := hr41
            refine lv_if_eq (tgt := 163) hx hb dX7_readsClue_114 (by decide) (fun _ => ?_) (fun c9 => absurd (by decide) c9)
            have hP9 := hP.sub (ws' := [(m0, .inr (7, [.ref ml, .ref mm, .ref mit, .ref ms, .int (st), .ref mt, .int (nI tn), .int (nI k3), .int (nI q3), .int (e31), .int (e32), .int (e33), .int (e34), .ref nw, .ref dr, .ref tr, .ref pa, .int (nI ac), .ref ig, .ref kx, .ref be, .ref tc, .int (nI td)])), (mt, .inl (cy 0, 100, .inl ft)), (dr, .inl (cy 0, 29, .inl gd))]) [2, 1, 0] rfl
            have hD9 := hD.sub (ws' := [(m0, .inr (7, [.ref ml, .ref mm, .ref mit, .ref ms, .int (st), .ref mt, .int (nI tn), .int (nI k3), .int (nI q3), .int (e31), .int (e32), .int (e33), .int (e34), .ref nw, .ref dr, .ref tr, .ref pa, .int (nI ac), .ref ig, .ref kx, .ref be, .ref tc, .int (nI td)])), (mt, .inl (cy 0, 100, .inl ft)), (dr, .inl (cy 0, 29, .inl gd))]) [2, 1, 0] (by decide) rfl
            exact q_wvret hx hb hr hlocks dX7_readsClue_163 hP9 hD9 hS (Or.inr ⟨q3, k3, _, _, _, _, by simp only [pClue, if_neg (by omega : ¬ pKind (tp p) = 0), if_neg (by omega : ¬ 6 ≤ w 4), hn1, ht2, hn2, hnt3, Except.bind], by omega, rfl⟩)
        · have hP : va_P D vwCl [(dr, .inl (cy 0, 29, .inl gd)), (m0, .inr (7, [.ref ml, .ref mm, .ref mit, .ref ms, .int (st), .ref mt, .int (nI tn), .int (nI k3), .int (nI q3), .int (e31), .int (e32), .int (e33), .int (e34), .ref nw, .ref dr, .ref tr, .ref pa, .int (nI ac), .ref ig, .ref kx, .ref be, .ref tc, .int (nI td)])), (mt, .inl (cy 0, 100, .inl ft))] H := hP
          have hD : va_D A [(dr, .inl (cy 0, 29, .inl gd)), (m0, .inr (7, [.ref ml, .ref mm, .ref mit, .ref ms, .int (st), .ref mt, .int (nI tn), .int (nI k3), .int (nI q3), .int (e31), .int (e32), .int (e33), .int (e34), .ref nw, .ref dr, .ref tr, .ref pa, .int (nI ac), .ref ig, .ref kx, .ref be, .ref tc, .int (nI td)])), (mt, .inl (cy 0, 100, .inl ft))] := hD
          refine lv_istore (lv' := [(5, .int (nI 0)), (4, .int (nI v2)), (3, .int (nI v1)), (2, .int (nI (5 + (4 * (w 4))))), (1, .int (nI (pKind (tp p)))), (0, .ref m0)]) hx hb dX7_readsClue_89 hl (by decide) rfl (fun ls hl => ?_)
          refine lv_aload_n hx hb dX7_readsClue_91 rfl (lv_at hl 5 rfl) ?_
          refine lv_aload_n hx hb dX7_readsClue_92 rfl (lv_at hl 5 rfl) ?_
          refine va_get (D := D) (ci := 7) (v := .int (e33)) (C := RX7) (T := TX7) (N := 23) hx hb hts nX7_readsClue_0 hown hK.1 hP 1 rfl rfl 11 (by decide) (hts _ mX7_readsClue_3) (fun _ h9 => h9) rfl dX7_readsClue_93 ?_
          refine lv_iconst (v := nI 4) hx hb dX7_readsClue_96 (by decide) ?_
          refine lv_icmp_ne (tgt := 104) hx hb dX7_readsClue_97 (by decide) (fun c42 => ?_) (fun c42 => ?_)
          · refine lv_iconst (v := nI 0) hx hb dX7_readsClue_104 (by decide) ?_
            refine lv_iconst (v := nI 1) hx hb dX7_readsClue_105 (by decide) ?_
            refine q_wiV (As := [.int (nI 0), .int (nI 1)]) (rest := []) (wr := [(dr, .inl (cy 0, 29, .inl gd)), (mt, .inl (cy 0, 100, .inl ft))]) ⟨hx, hb, hml, hown, hts⟩ (c_X7_takes_e l D cy m0 ml mm mit ms mt nw dr tr pa ig kx be tc st (nI k3) (nI q3) e31 e32 e33 e34 tn ac td q3 (by omega) (nI 0) (nI 1)) (cwV 2 hts gX7_readsClue_X7_takes rfl rfl rfl (by decide +kernel) ⟨Nat.le_of_ble_eq_true rfl, Nat.le_of_ble_eq_true rfl⟩) hP hD hS hA hK [1] [0, 2] rfl rfl (by decide) rfl (by decide) (by decide) 1 rfl rfl rfl rfl hl.1 rfl (Nat.le_of_ble_eq_true rfl) dX7_readsClue_106 ⟨Nat.zero_le _, Nat.zero_le _⟩ (fun r43 u44 H locs hr43 hP hD hS => ?_)
            obtain ⟨rfl, rfl⟩ := hr43
            have hP : va_P D vwCl [(dr, .inl (cy 0, 29, .inl gd)), (mt, .inl (cy 0, 100, .inl ft)), (m0, .inr (7, [.ref ml, .ref mm, .ref mit, .ref ms, .int (st), .ref mt, .int (nI tn), .int (nI k3), .int (nI q3), .int (e31), .int (e32), .int (e33), .int (e34), .ref nw, .ref dr, .ref tr, .ref pa, .int (nI ac), .ref ig, .ref kx, .ref be, .ref tc, .int (nI td)]))] H := hP
            have hD : va_D A [(dr, .inl (cy 0, 29, .inl gd)), (mt, .inl (cy 0, 100, .inl ft)), (m0, .inr (7, [.ref ml, .ref mm, .ref mit, .ref ms, .int (st), .ref mt, .int (nI tn), .int (nI k3), .int (nI q3), .int (e31), .int (e32), .int (e33), .int (e34), .ref nw, .ref dr, .ref tr, .ref pa, .int (nI ac), .ref ig, .ref kx, .ref be, .ref tc, .int (nI td)]))] := hD
            refine lv_pop hx hb dX7_readsClue_109 rfl ?_
            refine lv_aload_n hx hb dX7_readsClue_110 rfl (lv_at hl 5 rfl) ?_
            refine q_rV (As := []) (rest := []) ⟨hx, hb, hml, hown, hts⟩ (c_X7_isWell_n l D cy m0 ml mm mit ms mt nw dr tr pa ig kx be tc st (nI k3) (nI q3) e31 e32 e33 e34 tn ac td q3 (by omega)) (cwV 0 hts gX7_readsClue_X7_isWell rfl rfl rfl (by decide +kernel) ⟨Nat.le_of_ble_eq_true rfl, Nat.le_of_ble_eq_true rfl⟩) hP hK [2] rfl 2 rfl rfl rfl rfl hl.1 rfl (Nat.le_of_ble_eq_true rfl) dX7_readsClue_111 ⟨Nat.zero_le _, Nat.zero_le _⟩ (fun r45 hr45 => ?_)
            obtain rfl := hr45
            refine lv_if_eq (tgt := 163) hx hb dX7_readsClue_114 (by decide) (fun _ => ?_) (fun c9 => absurd (by decide) c9)
            have hP9 := hP.sub (ws' := [(m0, .inr (7, [.ref ml, .ref mm, .ref mit, .ref ms, .int (st), .ref mt, .int (nI tn), .int (nI k3), .int (nI q3), .int (e31), .int (e32), .int (e33), .int (e34), .ref nw, .ref dr, .ref tr, .ref pa, .int (nI ac), .ref ig, .ref kx, .ref be, .ref tc, .int (nI td)])), (mt, .inl (cy 0, 100, .inl ft)), (dr, .inl (cy 0, 29, .inl gd))]) [2, 1, 0] rfl
            have hD9 := hD.sub (ws' := [(m0, .inr (7, [.ref ml, .ref mm, .ref mit, .ref ms, .int (st), .ref mt, .int (nI tn), .int (nI k3), .int (nI q3), .int (e31), .int (e32), .int (e33), .int (e34), .ref nw, .ref dr, .ref tr, .ref pa, .int (nI ac), .ref ig, .ref kx, .ref be, .ref tc, .int (nI td)])), (mt, .inl (cy 0, 100, .inl ft)), (dr, .inl (cy 0, 29, .inl gd))]) [2, 1, 0] (by decide) rfl
            exact q_wvret hx hb hr hlocks dX7_readsClue_163 hP9 hD9 hS (Or.inr ⟨q3, k3, _, _, _, _, by simp only [pClue, if_neg (by omega : ¬ pKind (tp p) = 0), if_neg (by omega : ¬ 6 ≤ w 4), hn1, ht2, hn2, ht3, hn3, Except.bind], by omega, rfl⟩)
          · refine lv_iconst (v := nI 1) hx hb dX7_readsClue_100 (by decide) ?_
            refine lv_goto (tgt := 105) hx hb dX7_readsClue_101 (by decide) ?_
            refine lv_iconst (v := nI 1) hx hb dX7_readsClue_105 (by decide) ?_
            refine q_wiV (As := [.int (nI 1), .int (nI 1)]) (rest := []) (wr := [(dr, .inl (cy 0, 29, .inl gd)), (mt, .inl (cy 0, 100, .inl ft))]) ⟨hx, hb, hml, hown, hts⟩ (c_X7_takes_e l D cy m0 ml mm mit ms mt nw dr tr pa ig kx be tc st (nI k3) (nI q3) e31 e32 e33 e34 tn ac td q3 (by omega) (nI 1) (nI 1)) (cwV 2 hts gX7_readsClue_X7_takes rfl rfl rfl (by decide +kernel) ⟨Nat.le_of_ble_eq_true rfl, Nat.le_of_ble_eq_true rfl⟩) hP hD hS hA hK [1] [0, 2] rfl rfl (by decide) rfl (by decide) (by decide) 1 rfl rfl rfl rfl hl.1 rfl (Nat.le_of_ble_eq_true rfl) dX7_readsClue_106 ⟨Nat.zero_le _, Nat.zero_le _⟩ (fun r46 u47 H locs hr46 hP hD hS => ?_)
            obtain ⟨rfl, rfl⟩ := hr46
            have hP : va_P D vwCl [(dr, .inl (cy 0, 29, .inl gd)), (mt, .inl (cy 0, 100, .inl ft)), (m0, .inr (7, [.ref ml, .ref mm, .ref mit, .ref ms, .int (st), .ref mt, .int (nI tn), .int (nI k3), .int (nI q3), .int (e31), .int (e32), .int (e33), .int (e34), .ref nw, .ref dr, .ref tr, .ref pa, .int (nI ac), .ref ig, .ref kx, .ref be, .ref tc, .int (nI td)]))] H := hP
            have hD : va_D A [(dr, .inl (cy 0, 29, .inl gd)), (mt, .inl (cy 0, 100, .inl ft)), (m0, .inr (7, [.ref ml, .ref mm, .ref mit, .ref ms, .int (st), .ref mt, .int (nI tn), .int (nI k3), .int (nI q3), .int (e31), .int (e32), .int (e33), .int (e34), .ref nw, .ref dr, .ref tr, .ref pa, .int (nI ac), .ref ig, .ref kx, .ref be, .ref tc, .int (nI td)]))] := hD
            refine lv_pop hx hb dX7_readsClue_109 rfl ?_
            refine lv_aload_n hx hb dX7_readsClue_110 rfl (lv_at hl 5 rfl) ?_
            refine q_rV (As := []) (rest := []) ⟨hx, hb, hml, hown, hts⟩ (c_X7_isWell_n l D cy m0 ml mm mit ms mt nw dr tr pa ig kx be tc st (nI k3) (nI q3) e31 e32 e33 e34 tn ac td q3 (by omega)) (cwV 0 hts gX7_readsClue_X7_isWell rfl rfl rfl (by decide +kernel) ⟨Nat.le_of_ble_eq_true rfl, Nat.le_of_ble_eq_true rfl⟩) hP hK [2] rfl 2 rfl rfl rfl rfl hl.1 rfl (Nat.le_of_ble_eq_true rfl) dX7_readsClue_111 ⟨Nat.zero_le _, Nat.zero_le _⟩ (fun r48 hr48 => ?_)
            obtain rfl := hr48
            refine lv_if_eq (tgt := 163) hx hb dX7_readsClue_114 (by decide) (fun _ => ?_) (fun c9 => absurd (by decide) c9)
            have hP9 := hP.sub (ws' := [(m0, .inr (7, [.ref ml, .ref mm, .ref mit, .ref ms, .int (st), .ref mt, .int (nI tn), .int (nI k3), .int (nI q3), .int (e31), .int (e32), .int (e33), .int (e34), .ref nw, .ref dr, .ref tr, .ref pa, .int (nI ac), .ref ig, .ref kx, .ref be, .ref tc, .int (nI td)])), (mt, .inl (cy 0, 100, .inl ft)), (dr, .inl (cy 0, 29, .inl gd))]) [2, 1, 0] rfl
            have hD9 := hD.sub (ws' := [(m0, .inr (7, [.ref ml, .ref mm, .ref mit, .ref ms, .int (st), .ref mt, .int (nI tn), .int (nI k3), .int (nI q3), .int (e31), .int (e32), .int (e33), .int (e34), .ref nw, .ref dr, .ref tr, .ref pa, .int (nI ac), .ref ig, .ref kx, .ref be, .ref tc, .int (nI td)])), (mt, .inl (cy 0, 100, .inl ft)), (dr, .inl (cy 0, 29, .inl gd))]) [2, 1, 0] (by decide) rfl
            exact q_wvret hx hb hr hlocks dX7_readsClue_163 hP9 hD9 hS (Or.inr ⟨q3, k3, _, _, _, _, by simp only [pClue, if_neg (by omega : ¬ pKind (tp p) = 0), if_neg (by omega : ¬ 6 ≤ w 4), hn1, ht2, hn2, ht3, hn3, Except.bind], by omega, rfl⟩)
      · have hP : va_P D vwCl [(dr, .inl (cy 0, 29, .inl gd)), (m0, .inr (7, [.ref ml, .ref mm, .ref mit, .ref ms, .int (st), .ref mt, .int (nI tn), .int (nI k2), .int (nI q2), .int (e21), .int (e22), .int (e23), .int (e24), .ref nw, .ref dr, .ref tr, .ref pa, .int (nI ac), .ref ig, .ref kx, .ref be, .ref tc, .int (nI td)])), (mt, .inl (cy 0, 100, .inl ft))] H := hP
        have hD : va_D A [(dr, .inl (cy 0, 29, .inl gd)), (m0, .inr (7, [.ref ml, .ref mm, .ref mit, .ref ms, .int (st), .ref mt, .int (nI tn), .int (nI k2), .int (nI q2), .int (e21), .int (e22), .int (e23), .int (e24), .ref nw, .ref dr, .ref tr, .ref pa, .int (nI ac), .ref ig, .ref kx, .ref be, .ref tc, .int (nI td)])), (mt, .inl (cy 0, 100, .inl ft))] := hD
        refine lv_istore (lv' := [(4, .int (nI 0)), (3, .int (nI v1)), (2, .int (nI (5 + (4 * (w 4))))), (1, .int (nI (pKind (tp p)))), (0, .ref m0)]) hx hb dX7_readsClue_78 hl (by decide) rfl (fun ls hl => ?_)
        refine lv_aload_n hx hb dX7_readsClue_80 rfl (lv_at hl 4 rfl) ?_
        refine lv_iconst (v := nI 0) hx hb dX7_readsClue_81 (by decide) ?_
        refine lv_iload hx hb dX7_readsClue_82 (lv_at hl 0 rfl) ?_
        refine lv_iconst (v := nI 1) hx hb dX7_readsClue_84 (by decide) ?_
        refine lv_isub hx hb dX7_readsClue_85 ?_
        refine q_wiV (As := [.int (nI 0), .int ((nI 0) - (nI 1))]) (rest := []) (wr := [(dr, .inl (cy 0, 29, .inl gd)), (mt, .inl (cy 0, 100, .inl ft))]) ⟨hx, hb, hml, hown, hts⟩ (c_X7_next_e l D cy m0 ml mm mit ms mt nw dr tr pa ig kx be tc st (nI k2) (nI q2) e21 e22 e23 e24 tn ac td q2 (by omega) (nI 0) ((nI 0) - (nI 1))) (cwV 2 hts gX7_readsClue_X7_next rfl rfl rfl (by decide +kernel) ⟨Nat.le_of_ble_eq_true rfl, Nat.le_of_ble_eq_true rfl⟩) hP hD hS hA hK [1] [0, 2] rfl rfl (by decide) rfl (by decide) (by decide) 1 rfl rfl rfl rfl hl.1 rfl (Nat.le_of_ble_eq_true rfl) dX7_readsClue_86 ⟨Nat.zero_le _, Nat.zero_le _⟩ (fun r49 u50 H locs hr49 hP hD hS => ?_)
        obtain ⟨rfl, rfl⟩ := hr49
        have hP : va_P D vwCl [(dr, .inl (cy 0, 29, .inl gd)), (mt, .inl (cy 0, 100, .inl ft)), (m0, .inr (7, [.ref ml, .ref mm, .ref mit, .ref ms, .int (st), .ref mt, .int (nI tn), .int (nI k2), .int (nI q2), .int (e21), .int (e22), .int (e23), .int (e24), .ref nw, .ref dr, .ref tr, .ref pa, .int (nI ac), .ref ig, .ref kx, .ref be, .ref tc, .int (nI td)]))] H := hP
        have hD : va_D A [(dr, .inl (cy 0, 29, .inl gd)), (mt, .inl (cy 0, 100, .inl ft)), (m0, .inr (7, [.ref ml, .ref mm, .ref mit, .ref ms, .int (st), .ref mt, .int (nI tn), .int (nI k2), .int (nI q2), .int (e21), .int (e22), .int (e23), .int (e24), .ref nw, .ref dr, .ref tr, .ref pa, .int (nI ac), .ref ig, .ref kx, .ref be, .ref tc, .int (nI td)]))] := hD
        refine lv_istore (lv' := [(5, .int (nI 0)), (4, .int (nI 0)), (3, .int (nI v1)), (2, .int (nI (5 + (4 * (w 4))))), (1, .int (nI (pKind (tp p)))), (0, .ref m0)]) hx hb dX7_readsClue_89 hl (by decide) rfl (fun ls hl => ?_)
        refine lv_aload_n hx hb dX7_readsClue_91 rfl (lv_at hl 5 rfl) ?_
        refine lv_aload_n hx hb dX7_readsClue_92 rfl (lv_at hl 5 rfl) ?_
        refine va_get (D := D) (ci := 7) (v := .int (e23)) (C := RX7) (T := TX7) (N := 23) hx hb hts nX7_readsClue_0 hown hK.1 hP 2 rfl rfl 11 (by decide) (hts _ mX7_readsClue_3) (fun _ h9 => h9) rfl dX7_readsClue_93 ?_
        refine lv_iconst (v := nI 4) hx hb dX7_readsClue_96 (by decide) ?_
        refine lv_icmp_ne (tgt := 104) hx hb dX7_readsClue_97 (by decide) (fun c51 => ?_) (fun c51 => ?_)
        · refine lv_iconst (v := nI 0) hx hb dX7_readsClue_104 (by decide) ?_
          refine lv_iconst (v := nI 1) hx hb dX7_readsClue_105 (by decide) ?_
          refine q_wiV (As := [.int (nI 0), .int (nI 1)]) (rest := []) (wr := [(dr, .inl (cy 0, 29, .inl gd)), (mt, .inl (cy 0, 100, .inl ft))]) ⟨hx, hb, hml, hown, hts⟩ (c_X7_takes_e l D cy m0 ml mm mit ms mt nw dr tr pa ig kx be tc st (nI k2) (nI q2) e21 e22 e23 e24 tn ac td q2 (by omega) (nI 0) (nI 1)) (cwV 2 hts gX7_readsClue_X7_takes rfl rfl rfl (by decide +kernel) ⟨Nat.le_of_ble_eq_true rfl, Nat.le_of_ble_eq_true rfl⟩) hP hD hS hA hK [2] [0, 1] rfl rfl (by decide) rfl (by decide) (by decide) 2 rfl rfl rfl rfl hl.1 rfl (Nat.le_of_ble_eq_true rfl) dX7_readsClue_106 ⟨Nat.zero_le _, Nat.zero_le _⟩ (fun r52 u53 H locs hr52 hP hD hS => ?_)
          obtain ⟨rfl, rfl⟩ := hr52
          have hP : va_P D vwCl [(dr, .inl (cy 0, 29, .inl gd)), (mt, .inl (cy 0, 100, .inl ft)), (m0, .inr (7, [.ref ml, .ref mm, .ref mit, .ref ms, .int (st), .ref mt, .int (nI tn), .int (nI k2), .int (nI q2), .int (e21), .int (e22), .int (e23), .int (e24), .ref nw, .ref dr, .ref tr, .ref pa, .int (nI ac), .ref ig, .ref kx, .ref be, .ref tc, .int (nI td)]))] H := hP
          have hD : va_D A [(dr, .inl (cy 0, 29, .inl gd)), (mt, .inl (cy 0, 100, .inl ft)), (m0, .inr (7, [.ref ml, .ref mm, .ref mit, .ref ms, .int (st), .ref mt, .int (nI tn), .int (nI k2), .int (nI q2), .int (e21), .int (e22), .int (e23), .int (e24), .ref nw, .ref dr, .ref tr, .ref pa, .int (nI ac), .ref ig, .ref kx, .ref be, .ref tc, .int (nI td)]))] := hD
          refine lv_pop hx hb dX7_readsClue_109 rfl ?_
          refine lv_aload_n hx hb dX7_readsClue_110 rfl (lv_at hl 5 rfl) ?_
          refine q_rV (As := []) (rest := []) ⟨hx, hb, hml, hown, hts⟩ (c_X7_isWell_n l D cy m0 ml mm mit ms mt nw dr tr pa ig kx be tc st (nI k2) (nI q2) e21 e22 e23 e24 tn ac td q2 (by omega)) (cwV 0 hts gX7_readsClue_X7_isWell rfl rfl rfl (by decide +kernel) ⟨Nat.le_of_ble_eq_true rfl, Nat.le_of_ble_eq_true rfl⟩) hP hK [2] rfl 2 rfl rfl rfl rfl hl.1 rfl (Nat.le_of_ble_eq_true rfl) dX7_readsClue_111 ⟨Nat.zero_le _, Nat.zero_le _⟩ (fun r54 hr54 => ?_)
          obtain rfl := hr54
          refine lv_if_eq (tgt := 163) hx hb dX7_readsClue_114 (by decide) (fun _ => ?_) (fun c9 => absurd (by decide) c9)
          have hP9 := hP.sub (ws' := [(m0, .inr (7, [.ref ml, .ref mm, .ref mit, .ref ms, .int (st), .ref mt, .int (nI tn), .int (nI k2), .int (nI q2), .int (e21), .int (e22), .int (e23), .int (e24), .ref nw, .ref dr, .ref tr, .ref pa, .int (nI ac), .ref ig, .ref kx, .ref be, .ref tc, .int (nI td)])), (mt, .inl (cy 0, 100, .inl ft)), (dr, .inl (cy 0, 29, .inl gd))]) [2, 1, 0] rfl
          have hD9 := hD.sub (ws' := [(m0, .inr (7, [.ref ml, .ref mm, .ref mit, .ref ms, .int (st), .ref mt, .int (nI tn), .int (nI k2), .int (nI q2), .int (e21), .int (e22), .int (e23), .int (e24), .ref nw, .ref dr, .ref tr, .ref pa, .int (nI ac), .ref ig, .ref kx, .ref be, .ref tc, .int (nI td)])), (mt, .inl (cy 0, 100, .inl ft)), (dr, .inl (cy 0, 29, .inl gd))]) [2, 1, 0] (by decide) rfl
          exact q_wvret hx hb hr hlocks dX7_readsClue_163 hP9 hD9 hS (Or.inr ⟨q2, k2, _, _, _, _, by simp only [pClue, if_neg (by omega : ¬ pKind (tp p) = 0), if_neg (by omega : ¬ 6 ≤ w 4), hn1, hnt2, Except.bind], by omega, rfl⟩)
        · refine lv_iconst (v := nI 1) hx hb dX7_readsClue_100 (by decide) ?_
          refine lv_goto (tgt := 105) hx hb dX7_readsClue_101 (by decide) ?_
          refine lv_iconst (v := nI 1) hx hb dX7_readsClue_105 (by decide) ?_
          refine q_wiV (As := [.int (nI 1), .int (nI 1)]) (rest := []) (wr := [(dr, .inl (cy 0, 29, .inl gd)), (mt, .inl (cy 0, 100, .inl ft))]) ⟨hx, hb, hml, hown, hts⟩ (c_X7_takes_e l D cy m0 ml mm mit ms mt nw dr tr pa ig kx be tc st (nI k2) (nI q2) e21 e22 e23 e24 tn ac td q2 (by omega) (nI 1) (nI 1)) (cwV 2 hts gX7_readsClue_X7_takes rfl rfl rfl (by decide +kernel) ⟨Nat.le_of_ble_eq_true rfl, Nat.le_of_ble_eq_true rfl⟩) hP hD hS hA hK [2] [0, 1] rfl rfl (by decide) rfl (by decide) (by decide) 2 rfl rfl rfl rfl hl.1 rfl (Nat.le_of_ble_eq_true rfl) dX7_readsClue_106 ⟨Nat.zero_le _, Nat.zero_le _⟩ (fun r55 u56 H locs hr55 hP hD hS => ?_)
          obtain ⟨rfl, rfl⟩ := hr55
          have hP : va_P D vwCl [(dr, .inl (cy 0, 29, .inl gd)), (mt, .inl (cy 0, 100, .inl ft)), (m0, .inr (7, [.ref ml, .ref mm, .ref mit, .ref ms, .int (st), .ref mt, .int (nI tn), .int (nI k2), .int (nI q2), .int (e21), .int (e22), .int (e23), .int (e24), .ref nw, .ref dr, .ref tr, .ref pa, .int (nI ac), .ref ig, .ref kx, .ref be, .ref tc, .int (nI td)]))] H := hP
          have hD : va_D A [(dr, .inl (cy 0, 29, .inl gd)), (mt, .inl (cy 0, 100, .inl ft)), (m0, .inr (7, [.ref ml, .ref mm, .ref mit, .ref ms, .int (st), .ref mt, .int (nI tn), .int (nI k2), .int (nI q2), .int (e21), .int (e22), .int (e23), .int (e24), .ref nw, .ref dr, .ref tr, .ref pa, .int (nI ac), .ref ig, .ref kx, .ref be, .ref tc, .int (nI td)]))] := hD
          refine lv_pop hx hb dX7_readsClue_109 rfl ?_
          refine lv_aload_n hx hb dX7_readsClue_110 rfl (lv_at hl 5 rfl) ?_
          refine q_rV (As := []) (rest := []) ⟨hx, hb, hml, hown, hts⟩ (c_X7_isWell_n l D cy m0 ml mm mit ms mt nw dr tr pa ig kx be tc st (nI k2) (nI q2) e21 e22 e23 e24 tn ac td q2 (by omega)) (cwV 0 hts gX7_readsClue_X7_isWell rfl rfl rfl (by decide +kernel) ⟨Nat.le_of_ble_eq_true rfl, Nat.le_of_ble_eq_true rfl⟩) hP hK [2] rfl 2 rfl rfl rfl rfl hl.1 rfl (Nat.le_of_ble_eq_true rfl) dX7_readsClue_111 ⟨Nat.zero_le _, Nat.zero_le _⟩ (fun r57 hr57 => ?_)
          obtain rfl := hr57
          refine lv_if_eq (tgt := 163) hx hb dX7_readsClue_114 (by decide) (fun _ => ?_) (fun c9 => absurd (by decide) c9)
          have hP9 := hP.sub (ws' := [(m0, .inr (7, [.ref ml, .ref mm, .ref mit, .ref ms, .int (st), .ref mt, .int (nI tn), .int (nI k2), .int (nI q2), .int (e21), .int (e22), .int (e23), .int (e24), .ref nw, .ref dr, .ref tr, .ref pa, .int (nI ac), .ref ig, .ref kx, .ref be, .ref tc, .int (nI td)])), (mt, .inl (cy 0, 100, .inl ft)), (dr, .inl (cy 0, 29, .inl gd))]) [2, 1, 0] rfl
          have hD9 := hD.sub (ws' := [(m0, .inr (7, [.ref ml, .ref mm, .ref mit, .ref ms, .int (st), .ref mt, .int (nI tn), .int (nI k2), .int (nI q2), .int (e21), .int (e22), .int (e23), .int (e24), .ref nw, .ref dr, .ref tr, .ref pa, .int (nI ac), .ref ig, .ref kx, .ref be, .ref tc, .int (nI td)])), (mt, .inl (cy 0, 100, .inl ft)), (dr, .inl (cy 0, 29, .inl gd))]) [2, 1, 0] (by decide) rfl
          exact q_wvret hx hb hr hlocks dX7_readsClue_163 hP9 hD9 hS (Or.inr ⟨q2, k2, _, _, _, _, by simp only [pClue, if_neg (by omega : ¬ pKind (tp p) = 0), if_neg (by omega : ¬ 6 ≤ w 4), hn1, hnt2, Except.bind], by omega, rfl⟩)
      · have hP : va_P D vwCl [(dr, .inl (cy 0, 29, .inl gd)), (m0, .inr (7, [.ref ml, .ref mm, .ref mit, .ref ms, .int (st), .ref mt, .int (nI tn), .int (nI k2), .int (nI q2), .int (e21), .int (e22), .int (e23), .int (e24), .ref nw, .ref dr, .ref tr, .ref pa, .int (nI ac), .ref ig, .ref kx, .ref be, .ref tc, .int (nI td)])), (mt, .inl (cy 0, 100, .inl ft))] H := hP
        have hD : va_D A [(dr, .inl (cy 0, 29, .inl gd)), (m0, .inr (7, [.ref ml, .ref mm, .ref mit, .ref ms, .int (st), .ref mt, .int (nI tn), .int (nI k2), .int (nI q2), .int (e21), .int (e22), .int (e23), .int (e24), .ref nw, .ref dr, .ref tr, .ref pa, .int (nI ac), .ref ig, .ref kx, .ref be, .ref tc, .int (nI td)])), (mt, .inl (cy 0, 100, .inl ft))] := hD
        refine lv_istore (lv' := [(4, .int (nI 0)), (3, .int (nI v1)), (2, .int (nI (5 + (4 * (w 4))))), (1, .int (nI (pKind (tp p)))), (0, .ref m0)]) hx hb dX7_readsClue_78 hl (by decide) rfl (fun ls hl => ?_)
        refine lv_aload_n hx hb dX7_readsClue_80 rfl (lv_at hl 4 rfl) ?_
        refine lv_iconst (v := nI 0) hx hb dX7_readsClue_81 (by decide) ?_
        refine lv_iload hx hb dX7_readsClue_82 (lv_at hl 0 rfl) ?_
        refine lv_iconst (v := nI 1) hx hb dX7_readsClue_84 (by decide) ?_
        refine lv_isub hx hb dX7_readsClue_85 ?_
        refine q_wiV (As := [.int (nI 0), .int ((nI 0) - (nI 1))]) (rest := []) (wr := [(dr, .inl (cy 0, 29, .inl gd)), (mt, .inl (cy 0, 100, .inl ft))]) ⟨hx, hb, hml, hown, hts⟩ (c_X7_next_e l D cy m0 ml mm mit ms mt nw dr tr pa ig kx be tc st (nI k2) (nI q2) e21 e22 e23 e24 tn ac td q2 (by omega) (nI 0) ((nI 0) - (nI 1))) (cwV 2 hts gX7_readsClue_X7_next rfl rfl rfl (by decide +kernel) ⟨Nat.le_of_ble_eq_true rfl, Nat.le_of_ble_eq_true rfl⟩) hP hD hS hA hK [1] [0, 2] rfl rfl (by decide) rfl (by decide) (by decide) 1 rfl rfl rfl rfl hl.1 rfl (Nat.le_of_ble_eq_true rfl) dX7_readsClue_86 ⟨Nat.zero_le _, Nat.zero_le _⟩ (fun r58 u59 H locs hr58 hP hD hS => ?_)
        obtain ⟨rfl, rfl⟩ := hr58
        have hP : va_P D vwCl [(dr, .inl (cy 0, 29, .inl gd)), (mt, .inl (cy 0, 100, .inl ft)), (m0, .inr (7, [.ref ml, .ref mm, .ref mit, .ref ms, .int (st), .ref mt, .int (nI tn), .int (nI k2), .int (nI q2), .int (e21), .int (e22), .int (e23), .int (e24), .ref nw, .ref dr, .ref tr, .ref pa, .int (nI ac), .ref ig, .ref kx, .ref be, .ref tc, .int (nI td)]))] H := hP
        have hD : va_D A [(dr, .inl (cy 0, 29, .inl gd)), (mt, .inl (cy 0, 100, .inl ft)), (m0, .inr (7, [.ref ml, .ref mm, .ref mit, .ref ms, .int (st), .ref mt, .int (nI tn), .int (nI k2), .int (nI q2), .int (e21), .int (e22), .int (e23), .int (e24), .ref nw, .ref dr, .ref tr, .ref pa, .int (nI ac), .ref ig, .ref kx, .ref be, .ref tc, .int (nI td)]))] := hD
        refine lv_istore (lv' := [(5, .int (nI 0)), (4, .int (nI 0)), (3, .int (nI v1)), (2, .int (nI (5 + (4 * (w 4))))), (1, .int (nI (pKind (tp p)))), (0, .ref m0)]) hx hb dX7_readsClue_89 hl (by decide) rfl (fun ls hl => ?_)
        refine lv_aload_n hx hb dX7_readsClue_91 rfl (lv_at hl 5 rfl) ?_
        refine lv_aload_n hx hb dX7_readsClue_92 rfl (lv_at hl 5 rfl) ?_
        refine va_get (D := D) (ci := 7) (v := .int (e23)) (C := RX7) (T := TX7) (N := 23) hx hb hts nX7_readsClue_0 hown hK.1 hP 2 rfl rfl 11 (by decide) (hts _ mX7_readsClue_3) (fun _ h9 => h9) rfl dX7_readsClue_93 ?_
        refine lv_iconst (v := nI 4) hx hb dX7_readsClue_96 (by decide) ?_
        refine lv_icmp_ne (tgt := 104) hx hb dX7_readsClue_97 (by decide) (fun c60 => ?_) (fun c60 => ?_)
        · refine lv_iconst (v := nI 0) hx hb dX7_readsClue_104 (by decide) ?_
          refine lv_iconst (v := nI 1) hx hb dX7_readsClue_105 (by decide) ?_
          refine q_wiV (As := [.int (nI 0), .int (nI 1)]) (rest := []) (wr := [(dr, .inl (cy 0, 29, .inl gd)), (mt, .inl (cy 0, 100, .inl ft))]) ⟨hx, hb, hml, hown, hts⟩ (c_X7_takes_e l D cy m0 ml mm mit ms mt nw dr tr pa ig kx be tc st (nI k2) (nI q2) e21 e22 e23 e24 tn ac td q2 (by omega) (nI 0) (nI 1)) (cwV 2 hts gX7_readsClue_X7_takes rfl rfl rfl (by decide +kernel) ⟨Nat.le_of_ble_eq_true rfl, Nat.le_of_ble_eq_true rfl⟩) hP hD hS hA hK [2] [0, 1] rfl rfl (by decide) rfl (by decide) (by decide) 2 rfl rfl rfl rfl hl.1 rfl (Nat.le_of_ble_eq_true rfl) dX7_readsClue_106 ⟨Nat.zero_le _, Nat.zero_le _⟩ (fun r61 u62 H locs hr61 hP hD hS => ?_)
          obtain ⟨rfl, rfl⟩ := hr61
          have hP : va_P D vwCl [(dr, .inl (cy 0, 29, .inl gd)), (mt, .inl (cy 0, 100, .inl ft)), (m0, .inr (7, [.ref ml, .ref mm, .ref mit, .ref ms, .int (st), .ref mt, .int (nI tn), .int (nI k2), .int (nI q2), .int (e21), .int (e22), .int (e23), .int (e24), .ref nw, .ref dr, .ref tr, .ref pa, .int (nI ac), .ref ig, .ref kx, .ref be, .ref tc, .int (nI td)]))] H := hP
          have hD : va_D A [(dr, .inl (cy 0, 29, .inl gd)), (mt, .inl (cy 0, 100, .inl ft)), (m0, .inr (7, [.ref ml, .ref mm, .ref mit, .ref ms, .int (st), .ref mt, .int (nI tn), .int (nI k2), .int (nI q2), .int (e21), .int (e22), .int (e23), .int (e24), .ref nw, .ref dr, .ref tr, .ref pa, .int (nI ac), .ref ig, .ref kx, .ref be, .ref tc, .int (nI td)]))] := hD
          refine lv_pop hx hb dX7_readsClue_109 rfl ?_
          refine lv_aload_n hx hb dX7_readsClue_110 rfl (lv_at hl 5 rfl) ?_
          refine q_rV (As := []) (rest := []) ⟨hx, hb, hml, hown, hts⟩ (c_X7_isWell_n l D cy m0 ml mm mit ms mt nw dr tr pa ig kx be tc st (nI k2) (nI q2) e21 e22 e23 e24 tn ac td q2 (by omega)) (cwV 0 hts gX7_readsClue_X7_isWell rfl rfl rfl (by decide +kernel) ⟨Nat.le_of_ble_eq_true rfl, Nat.le_of_ble_eq_true rfl⟩) hP hK [2] rfl 2 rfl rfl rfl rfl hl.1 rfl (Nat.le_of_ble_eq_true rfl) dX7_readsClue_111 ⟨Nat.zero_le _, Nat.zero_le _⟩ (fun r63 hr63 => ?_)
          obtain rfl := hr63
          refine lv_if_eq (tgt := 163) hx hb dX7_readsClue_114 (by decide) (fun _ => ?_) (fun c9 => absurd (by decide) c9)
          have hP9 := hP.sub (ws' := [(m0, .inr (7, [.ref ml, .ref mm, .ref mit, .ref ms, .int (st), .ref mt, .int (nI tn), .int (nI k2), .int (nI q2), .int (e21), .int (e22), .int (e23), .int (e24), .ref nw, .ref dr, .ref tr, .ref pa, .int (nI ac), .ref ig, .ref kx, .ref be, .ref tc, .int (nI td)])), (mt, .inl (cy 0, 100, .inl ft)), (dr, .inl (cy 0, 29, .inl gd))]) [2, 1, 0] rfl
          have hD9 := hD.sub (ws' := [(m0, .inr (7, [.ref ml, .ref mm, .ref mit, .ref ms, .int (st), .ref mt, .int (nI tn), .int (nI k2), .int (nI q2), .int (e21), .int (e22), .int (e23), .int (e24), .ref nw, .ref dr, .ref tr, .ref pa, .int (nI ac), .ref ig, .ref kx, .ref be, .ref tc, .int (nI td)])), (mt, .inl (cy 0, 100, .inl ft)), (dr, .inl (cy 0, 29, .inl gd))]) [2, 1, 0] (by decide) rfl
          exact q_wvret hx hb hr hlocks dX7_readsClue_163 hP9 hD9 hS (Or.inr ⟨q2, k2, _, _, _, _, by simp only [pClue, if_neg (by omega : ¬ pKind (tp p) = 0), if_neg (by omega : ¬ 6 ≤ w 4), hn1, ht2, hn2, Except.bind], by omega, rfl⟩)
        · refine lv_iconst (v := nI 1) hx hb dX7_readsClue_100 (by decide) ?_
          refine lv_goto (tgt := 105) hx hb dX7_readsClue_101 (by decide) ?_
          refine lv_iconst (v := nI 1) hx hb dX7_readsClue_105 (by decide) ?_
          refine q_wiV (As := [.int (nI 1), .int (nI 1)]) (rest := []) (wr := [(dr, .inl (cy 0, 29, .inl gd)), (mt, .inl (cy 0, 100, .inl ft))]) ⟨hx, hb, hml, hown, hts⟩ (c_X7_takes_e l D cy m0 ml mm mit ms mt nw dr tr pa ig kx be tc st (nI k2) (nI q2) e21 e22 e23 e24 tn ac td q2 (by omega) (nI 1) (nI 1)) (cwV 2 hts gX7_readsClue_X7_takes rfl rfl rfl (by decide +kernel) ⟨Nat.le_of_ble_eq_true rfl, Nat.le_of_ble_eq_true rfl⟩) hP hD hS hA hK [2] [0, 1] rfl rfl (by decide) rfl (by decide) (by decide) 2 rfl rfl rfl rfl hl.1 rfl (Nat.le_of_ble_eq_true rfl) dX7_readsClue_106 ⟨Nat.zero_le _, Nat.zero_le _⟩ (fun r64 u65 H locs hr64 hP hD hS => ?_)
          obtain ⟨rfl, rfl⟩ := hr64
          have hP : va_P D vwCl [(dr, .inl (cy 0, 29, .inl gd)), (mt, .inl (cy 0, 100, .inl ft)), (m0, .inr (7, [.ref ml, .ref mm, .ref mit, .ref ms, .int (st), .ref mt, .int (nI tn), .int (nI k2), .int (nI q2), .int (e21), .int (e22), .int (e23), .int (e24), .ref nw, .ref dr, .ref tr, .ref pa, .int (nI ac), .ref ig, .ref kx, .ref be, .ref tc, .int (nI td)]))] H := hP
          have hD : va_D A [(dr, .inl (cy 0, 29, .inl gd)), (mt, .inl (cy 0, 100, .inl ft)), (m0, .inr (7, [.ref ml, .ref mm, .ref mit, .ref ms, .int (st), .ref mt, .int (nI tn), .int (nI k2), .int (nI q2), .int (e21), .int (e22), .int (e23), .int (e24), .ref nw, .ref dr, .ref tr, .ref pa, .int (nI ac), .ref ig, .ref kx, .ref be, .ref tc, .int (nI td)]))] := hD
          refine lv_pop hx hb dX7_readsClue_109 rfl ?_
          refine lv_aload_n hx hb dX7_readsClue_110 rfl (lv_at hl 5 rfl) ?_
          refine q_rV (As := []) (rest := []) ⟨hx, hb, hml, hown, hts⟩ (c_X7_isWell_n l D cy m0 ml mm mit ms mt nw dr tr pa ig kx be tc st (nI k2) (nI q2) e21 e22 e23 e24 tn ac td q2 (by omega)) (cwV 0 hts gX7_readsClue_X7_isWell rfl rfl rfl (by decide +kernel) ⟨Nat.le_of_ble_eq_true rfl, Nat.le_of_ble_eq_true rfl⟩) hP hK [2] rfl 2 rfl rfl rfl rfl hl.1 rfl (Nat.le_of_ble_eq_true rfl) dX7_readsClue_111 ⟨Nat.zero_le _, Nat.zero_le _⟩ (fun r66 hr66 => ?_)
          obtain rfl := hr66
          refine lv_if_eq (tgt := 163) hx hb dX7_readsClue_114 (by decide) (fun _ => ?_) (fun c9 => absurd (by decide) c9)
          have hP9 := hP.sub (ws' := [(m0, .inr (7, [.ref ml, .ref mm, .ref mit, .ref ms, .int (st), .ref mt, .int (nI tn), .int (nI k2), .int (nI q2), .int (e21), .int (e22), .int (e23), .int (e24), .ref nw, .ref dr, .ref tr, .ref pa, .int (nI ac), .ref ig, .ref kx, .ref be, .ref tc, .int (nI td)])), (mt, .inl (cy 0, 100, .inl ft)), (dr, .inl (cy 0, 29, .inl gd))]) [2, 1, 0] rfl
          have hD9 := hD.sub (ws' := [(m0, .inr (7, [.ref ml, .ref mm, .ref mit, .ref ms, .int (st), .ref mt, .int (nI tn), .int (nI k2), .int (nI q2), .int (e21), .int (e22), .int (e23), .int (e24), .ref nw, .ref dr, .ref tr, .ref pa, .int (nI ac), .ref ig, .ref kx, .ref be, .ref tc, .int (nI td)])), (mt, .inl (cy 0, 100, .inl ft)), (dr, .inl (cy 0, 29, .inl gd))]) [2, 1, 0] (by decide) rfl
          exact q_wvret hx hb hr hlocks dX7_readsClue_163 hP9 hD9 hS (Or.inr ⟨q2, k2, _, _, _, _, by simp only [pClue, if_neg (by omega : ¬ pKind (tp p) = 0), if_neg (by omega : ¬ 6 ≤ w 4), hn1, ht2, hn2, Except.bind], by omega, rfl⟩)
    · rw [htl.1] at hn1
      have hP : va_P D vwCl [(dr, .inl (cy 0, 29, .inl gd)), (m0, .inr (7, [.ref ml, .ref mm, .ref mit, .ref ms, .int (st), .ref mt, .int (nI tn), .int (nI k1), .int (nI (tkE tp tn p)), .int (nI (tkE tp tn (tkE tp tn p))), .int (nI (tkE tp tn p)), .int (nI (tkK tp tn (tkE tp tn p))), .int (tkV tp tn (tkE tp tn p)), .ref nw, .ref dr, .ref tr, .ref pa, .int (nI ac), .ref ig, .ref kx, .ref be, .ref tc, .int (nI td)])), (mt, .inl (cy 0, 100, .inl ft))] H := hP
      have hD : va_D A [(dr, .inl (cy 0, 29, .inl gd)), (m0, .inr (7, [.ref ml, .ref mm, .ref mit, .ref ms, .int (st), .ref mt, .int (nI tn), .int (nI k1), .int (nI (tkE tp tn p)), .int (nI (tkE tp tn (tkE tp tn p))), .int (nI (tkE tp tn p)), .int (nI (tkK tp tn (tkE tp tn p))), .int (tkV tp tn (tkE tp tn p)), .ref nw, .ref dr, .ref tr, .ref pa, .int (nI ac), .ref ig, .ref kx, .ref be, .ref tc, .int (nI td)])), (mt, .inl (cy 0, 100, .inl ft))] := hD
      refine lv_istore_n (lv' := [(3, .int (nI 0)), (2, .int (nI (5 + (4 * (w 4))))), (1, .int (nI (pKind (tp p)))), (0, .ref m0)]) hx hb dX7_readsClue_71 rfl hl (by decide) rfl (fun ls hl => ?_)
      refine lv_aload_n hx hb dX7_readsClue_72 rfl (lv_at hl 3 rfl) ?_
      refine lv_iconst (v := nI 2) hx hb dX7_readsClue_73 (by decide) ?_
      refine lv_iconst (v := nI 4) hx hb dX7_readsClue_74 (by decide) ?_
      refine q_wiV (As := [.int (nI 2), .int (nI 4)]) (rest := []) (wr := [(dr, .inl (cy 0, 29, .inl gd)), (mt, .inl (cy 0, 100, .inl ft))]) ⟨hx, hb, hml, hown, hts⟩ (c_X7_next_e l D cy m0 ml mm mit ms mt nw dr tr pa ig kx be tc st (nI k1) (nI (tkE tp tn p)) (nI (tkE tp tn (tkE tp tn p))) (nI (tkE tp tn p)) (nI (tkK tp tn (tkE tp tn p))) (tkV tp tn (tkE tp tn p)) tn ac td (tkE tp tn p) (by omega) (nI 2) (nI 4)) (cwV 2 hts gX7_readsClue_X7_next rfl rfl rfl (by decide +kernel) ⟨Nat.le_of_ble_eq_true rfl, Nat.le_of_ble_eq_true rfl⟩) hP hD hS hA hK [1] [0, 2] rfl rfl (by decide) rfl (by decide) (by decide) 1 rfl rfl rfl rfl hl.1 rfl (Nat.le_of_ble_eq_true rfl) dX7_readsClue_75 ⟨Nat.zero_le _, Nat.zero_le _⟩ (fun r67 u68 H locs hr67 hP hD hS => ?_)
      obtain ⟨rfl, rfl⟩ := hr67
      have hP : va_P D vwCl [(dr, .inl (cy 0, 29, .inl gd)), (mt, .inl (cy 0, 100, .inl ft)), (m0, .inr (7, [.ref ml, .ref mm, .ref mit, .ref ms, .int (st), .ref mt, .int (nI tn), .int (nI k1), .int (nI (tkE tp tn p)), .int (nI (tkE tp tn (tkE tp tn p))), .int (nI (tkE tp tn p)), .int (nI (tkK tp tn (tkE tp tn p))), .int (tkV tp tn (tkE tp tn p)), .ref nw, .ref dr, .ref tr, .ref pa, .int (nI ac), .ref ig, .ref kx, .ref be, .ref tc, .int (nI td)]))] H := hP
      have hD : va_D A [(dr, .inl (cy 0, 29, .inl gd)), (mt, .inl (cy 0, 100, .inl ft)), (m0, .inr (7, [.ref ml, .ref mm, .ref mit, .ref ms, .int (st), .ref mt, .int (nI tn), .int (nI k1), .int (nI (tkE tp tn p)), .int (nI (tkE tp tn (tkE tp tn p))), .int (nI (tkE tp tn p)), .int (nI (tkK tp tn (tkE tp tn p))), .int (tkV tp tn (tkE tp tn p)), .ref nw, .ref dr, .ref tr, .ref pa, .int (nI ac), .ref ig, .ref kx, .ref be, .ref tc, .int (nI td)]))] := hD
      refine lv_istore (lv' := [(4, .int (nI 0)), (3, .int (nI 0)), (2, .int (nI (5 + (4 * (w 4))))), (1, .int (nI (pKind (tp p)))), (0, .ref m0)]) hx hb dX7_readsClue_78 hl (by decide) rfl (fun ls hl => ?_)
      refine lv_aload_n hx hb dX7_readsClue_80 rfl (lv_at hl 4 rfl) ?_
      refine lv_iconst (v := nI 0) hx hb dX7_readsClue_81 (by decide) ?_
      refine lv_iload hx hb dX7_readsClue_82 (lv_at hl 0 rfl) ?_
      refine lv_iconst (v := nI 1) hx hb dX7_readsClue_84 (by decide) ?_
      refine lv_isub hx hb dX7_readsClue_85 ?_
      refine q_wiV (As := [.int (nI 0), .int ((nI 0) - (nI 1))]) (rest := []) (wr := [(dr, .inl (cy 0, 29, .inl gd)), (mt, .inl (cy 0, 100, .inl ft))]) ⟨hx, hb, hml, hown, hts⟩ (c_X7_next_e l D cy m0 ml mm mit ms mt nw dr tr pa ig kx be tc st (nI k1) (nI (tkE tp tn p)) (nI (tkE tp tn (tkE tp tn p))) (nI (tkE tp tn p)) (nI (tkK tp tn (tkE tp tn p))) (tkV tp tn (tkE tp tn p)) tn ac td (tkE tp tn p) (by omega) (nI 0) ((nI 0) - (nI 1))) (cwV 2 hts gX7_readsClue_X7_next rfl rfl rfl (by decide +kernel) ⟨Nat.le_of_ble_eq_true rfl, Nat.le_of_ble_eq_true rfl⟩) hP hD hS hA hK [2] [0, 1] rfl rfl (by decide) rfl (by decide) (by decide) 2 rfl rfl rfl rfl hl.1 rfl (Nat.le_of_ble_eq_true rfl) dX7_readsClue_86 ⟨Nat.zero_le _, Nat.zero_le _⟩ (fun r69 u70 H locs hr69 hP hD hS => ?_)
      obtain ⟨rfl, rfl⟩ := hr69
      have hP : va_P D vwCl [(dr, .inl (cy 0, 29, .inl gd)), (mt, .inl (cy 0, 100, .inl ft)), (m0, .inr (7, [.ref ml, .ref mm, .ref mit, .ref ms, .int (st), .ref mt, .int (nI tn), .int (nI k1), .int (nI (tkE tp tn p)), .int (nI (tkE tp tn (tkE tp tn p))), .int (nI (tkE tp tn p)), .int (nI (tkK tp tn (tkE tp tn p))), .int (tkV tp tn (tkE tp tn p)), .ref nw, .ref dr, .ref tr, .ref pa, .int (nI ac), .ref ig, .ref kx, .ref be, .ref tc, .int (nI td)]))] H := hP
      have hD : va_D A [(dr, .inl (cy 0, 29, .inl gd)), (mt, .inl (cy 0, 100, .inl ft)), (m0, .inr (7, [.ref ml, .ref mm, .ref mit, .ref ms, .int (st), .ref mt, .int (nI tn), .int (nI k1), .int (nI (tkE tp tn p)), .int (nI (tkE tp tn (tkE tp tn p))), .int (nI (tkE tp tn p)), .int (nI (tkK tp tn (tkE tp tn p))), .int (tkV tp tn (tkE tp tn p)), .ref nw, .ref dr, .ref tr, .ref pa, .int (nI ac), .ref ig, .ref kx, .ref be, .ref tc, .int (nI td)]))] := hD
      refine lv_istore (lv' := [(5, .int (nI 0)), (4, .int (nI 0)), (3, .int (nI 0)), (2, .int (nI (5 + (4 * (w 4))))), (1, .int (nI (pKind (tp p)))), (0, .ref m0)]) hx hb dX7_readsClue_89 hl (by decide) rfl (fun ls hl => ?_)
      refine lv_aload_n hx hb dX7_readsClue_91 rfl (lv_at hl 5 rfl) ?_
      refine lv_aload_n hx hb dX7_readsClue_92 rfl (lv_at hl 5 rfl) ?_
      refine va_get (D := D) (ci := 7) (v := .int (nI (tkK tp tn (tkE tp tn p)))) (C := RX7) (T := TX7) (N := 23) hx hb hts nX7_readsClue_0 hown hK.1 hP 2 rfl rfl 11 (by decide) (hts _ mX7_readsClue_3) (fun _ h9 => h9) rfl dX7_readsClue_93 ?_
      refine lv_iconst (v := nI 4) hx hb dX7_readsClue_96 (by decide) ?_
      have hkl97 := tkK_le tp tn (tkE tp tn p)
      refine q_icmp_ne (tgt := 104) hx hb dX7_readsClue_97 (by decide) (by omega) (by decide) (fun c71 => ?_) (fun c71 => ?_)
      · refine lv_iconst (v := nI 0) hx hb dX7_readsClue_104 (by decide) ?_
        refine lv_iconst (v := nI 1) hx hb dX7_readsClue_105 (by decide) ?_
        refine q_wiV (As := [.int (nI 0), .int (nI 1)]) (rest := []) (wr := [(dr, .inl (cy 0, 29, .inl gd)), (mt, .inl (cy 0, 100, .inl ft))]) ⟨hx, hb, hml, hown, hts⟩ (c_X7_takes_e l D cy m0 ml mm mit ms mt nw dr tr pa ig kx be tc st (nI k1) (nI (tkE tp tn p)) (nI (tkE tp tn (tkE tp tn p))) (nI (tkE tp tn p)) (nI (tkK tp tn (tkE tp tn p))) (tkV tp tn (tkE tp tn p)) tn ac td (tkE tp tn p) (by omega) (nI 0) (nI 1)) (cwV 2 hts gX7_readsClue_X7_takes rfl rfl rfl (by decide +kernel) ⟨Nat.le_of_ble_eq_true rfl, Nat.le_of_ble_eq_true rfl⟩) hP hD hS hA hK [2] [0, 1] rfl rfl (by decide) rfl (by decide) (by decide) 2 rfl rfl rfl rfl hl.1 rfl (Nat.le_of_ble_eq_true rfl) dX7_readsClue_106 ⟨Nat.zero_le _, Nat.zero_le _⟩ (fun r72 u73 H locs hr72 hP hD hS => ?_)
        obtain ⟨rfl, rfl⟩ := hr72
        have hP : va_P D vwCl [(dr, .inl (cy 0, 29, .inl gd)), (mt, .inl (cy 0, 100, .inl ft)), (m0, .inr (7, [.ref ml, .ref mm, .ref mit, .ref ms, .int (st), .ref mt, .int (nI tn), .int (nI k1), .int (nI (tkE tp tn p)), .int (nI (tkE tp tn (tkE tp tn p))), .int (nI (tkE tp tn p)), .int (nI (tkK tp tn (tkE tp tn p))), .int (tkV tp tn (tkE tp tn p)), .ref nw, .ref dr, .ref tr, .ref pa, .int (nI ac), .ref ig, .ref kx, .ref be, .ref tc, .int (nI td)]))] H := hP
        have hD : va_D A [(dr, .inl (cy 0, 29, .inl gd)), (mt, .inl (cy 0, 100, .inl ft)), (m0, .inr (7, [.ref ml, .ref mm, .ref mit, .ref ms, .int (st), .ref mt, .int (nI tn), .int (nI k1), .int (nI (tkE tp tn p)), .int (nI (tkE tp tn (tkE tp tn p))), .int (nI (tkE tp tn p)), .int (nI (tkK tp tn (tkE tp tn p))), .int (tkV tp tn (tkE tp tn p)), .ref nw, .ref dr, .ref tr, .ref pa, .int (nI ac), .ref ig, .ref kx, .ref be, .ref tc, .int (nI td)]))] := hD
        refine lv_pop hx hb dX7_readsClue_109 rfl ?_
        refine lv_aload_n hx hb dX7_readsClue_110 rfl (lv_at hl 5 rfl) ?_
        refine q_rV (As := []) (rest := []) ⟨hx, hb, hml, hown, hts⟩ (c_X7_isWell_n l D cy m0 ml mm mit ms mt nw dr tr pa ig kx be tc st (nI k1) (nI (tkE tp tn p)) (nI (tkE tp tn (tkE tp tn p))) (nI (tkE tp tn p)) (nI (tkK tp tn (tkE tp tn p))) (tkV tp tn (tkE tp tn p)) tn ac td (tkE tp tn p) (by omega)) (cwV 0 hts gX7_readsClue_X7_isWell rfl rfl rfl (by decide +kernel) ⟨Nat.le_of_ble_eq_true rfl, Nat.le_of_ble_eq_true rfl⟩) hP hK [2] rfl 2 rfl rfl rfl rfl hl.1 rfl (Nat.le_of_ble_eq_true rfl) dX7_readsClue_111 ⟨Nat.zero_le _, Nat.zero_le _⟩ (fun r74 hr74 => ?_)
        obtain rfl := hr74
        refine lv_if_eq (tgt := 163) hx hb dX7_readsClue_114 (by decide) (fun _ => ?_) (fun c9 => absurd (by decide) c9)
        have hP9 := hP.sub (ws' := [(m0, .inr (7, [.ref ml, .ref mm, .ref mit, .ref ms, .int (st), .ref mt, .int (nI tn), .int (nI k1), .int (nI (tkE tp tn p)), .int (nI (tkE tp tn (tkE tp tn p))), .int (nI (tkE tp tn p)), .int (nI (tkK tp tn (tkE tp tn p))), .int (tkV tp tn (tkE tp tn p)), .ref nw, .ref dr, .ref tr, .ref pa, .int (nI ac), .ref ig, .ref kx, .ref be, .ref tc, .int (nI td)])), (mt, .inl (cy 0, 100, .inl ft)), (dr, .inl (cy 0, 29, .inl gd))]) [2, 1, 0] rfl
        have hD9 := hD.sub (ws' := [(m0, .inr (7, [.ref ml, .ref mm, .ref mit, .ref ms, .int (st), .ref mt, .int (nI tn), .int (nI k1), .int (nI (tkE tp tn p)), .int (nI (tkE tp tn (tkE tp tn p))), .int (nI (tkE tp tn p)), .int (nI (tkK tp tn (tkE tp tn p))), .int (tkV tp tn (tkE tp tn p)), .ref nw, .ref dr, .ref tr, .ref pa, .int (nI ac), .ref ig, .ref kx, .ref be, .ref tc, .int (nI td)])), (mt, .inl (cy 0, 100, .inl ft)), (dr, .inl (cy 0, 29, .inl gd))]) [2, 1, 0] (by decide) rfl
        exact q_wvret hx hb hr hlocks dX7_readsClue_163 hP9 hD9 hS (Or.inr ⟨(tkE tp tn p), k1, _, _, _, _, by simp only [pClue, if_neg (by omega : ¬ pKind (tp p) = 0), if_neg (by omega : ¬ 6 ≤ w 4), hn1, htl.1, Except.bind], by omega, rfl⟩)
      · refine lv_iconst (v := nI 1) hx hb dX7_readsClue_100 (by decide) ?_
        refine lv_goto (tgt := 105) hx hb dX7_readsClue_101 (by decide) ?_
        refine lv_iconst (v := nI 1) hx hb dX7_readsClue_105 (by decide) ?_
        refine q_wiV (As := [.int (nI 1), .int (nI 1)]) (rest := []) (wr := [(dr, .inl (cy 0, 29, .inl gd)), (mt, .inl (cy 0, 100, .inl ft))]) ⟨hx, hb, hml, hown, hts⟩ (c_X7_takes_e l D cy m0 ml mm mit ms mt nw dr tr pa ig kx be tc st (nI k1) (nI (tkE tp tn p)) (nI (tkE tp tn (tkE tp tn p))) (nI (tkE tp tn p)) (nI (tkK tp tn (tkE tp tn p))) (tkV tp tn (tkE tp tn p)) tn ac td (tkE tp tn p) (by omega) (nI 1) (nI 1)) (cwV 2 hts gX7_readsClue_X7_takes rfl rfl rfl (by decide +kernel) ⟨Nat.le_of_ble_eq_true rfl, Nat.le_of_ble_eq_true rfl⟩) hP hD hS hA hK [2] [0, 1] rfl rfl (by decide) rfl (by decide) (by decide) 2 rfl rfl rfl rfl hl.1 rfl (Nat.le_of_ble_eq_true rfl) dX7_readsClue_106 ⟨Nat.zero_le _, Nat.zero_le _⟩ (fun r75 u76 H locs hr75 hP hD hS => ?_)
        obtain ⟨rfl, rfl⟩ := hr75
        have hP : va_P D vwCl [(dr, .inl (cy 0, 29, .inl gd)), (mt, .inl (cy 0, 100, .inl ft)), (m0, .inr (7, [.ref ml, .ref mm, .ref mit, .ref ms, .int (st), .ref mt, .int (nI tn), .int (nI k1), .int (nI (tkE tp tn p)), .int (nI (tkE tp tn (tkE tp tn p))), .int (nI (tkE tp tn p)), .int (nI (tkK tp tn (tkE tp tn p))), .int (tkV tp tn (tkE tp tn p)), .ref nw, .ref dr, .ref tr, .ref pa, .int (nI ac), .ref ig, .ref kx, .ref be, .ref tc, .int (nI td)]))] H := hP
        have hD : va_D A [(dr, .inl (cy 0, 29, .inl gd)), (mt, .inl (cy 0, 100, .inl ft)), (m0, .inr (7, [.ref ml, .ref mm, .ref mit, .ref ms, .int (st), .ref mt, .int (nI tn), .int (nI k1), .int (nI (tkE tp tn p)), .int (nI (tkE tp tn (tkE tp tn p))), .int (nI (tkE tp tn p)), .int (nI (tkK tp tn (tkE tp tn p))), .int (tkV tp tn (tkE tp tn p)), .ref nw, .ref dr, .ref tr, .ref pa, .int (nI ac), .ref ig, .ref kx, .ref be, .ref tc, .int (nI td)]))] := hD
        refine lv_pop hx hb dX7_readsClue_109 rfl ?_
        refine lv_aload_n hx hb dX7_readsClue_110 rfl (lv_at hl 5 rfl) ?_
        refine q_rV (As := []) (rest := []) ⟨hx, hb, hml, hown, hts⟩ (c_X7_isWell_n l D cy m0 ml mm mit ms mt nw dr tr pa ig kx be tc st (nI k1) (nI (tkE tp tn p)) (nI (tkE tp tn (tkE tp tn p))) (nI (tkE tp tn p)) (nI (tkK tp tn (tkE tp tn p))) (tkV tp tn (tkE tp tn p)) tn ac td (tkE tp tn p) (by omega)) (cwV 0 hts gX7_readsClue_X7_isWell rfl rfl rfl (by decide +kernel) ⟨Nat.le_of_ble_eq_true rfl, Nat.le_of_ble_eq_true rfl⟩) hP hK [2] rfl 2 rfl rfl rfl rfl hl.1 rfl (Nat.le_of_ble_eq_true rfl) dX7_readsClue_111 ⟨Nat.zero_le _, Nat.zero_le _⟩ (fun r77 hr77 => ?_)
        obtain rfl := hr77
        refine lv_if_eq (tgt := 163) hx hb dX7_readsClue_114 (by decide) (fun _ => ?_) (fun c9 => absurd (by decide) c9)
        have hP9 := hP.sub (ws' := [(m0, .inr (7, [.ref ml, .ref mm, .ref mit, .ref ms, .int (st), .ref mt, .int (nI tn), .int (nI k1), .int (nI (tkE tp tn p)), .int (nI (tkE tp tn (tkE tp tn p))), .int (nI (tkE tp tn p)), .int (nI (tkK tp tn (tkE tp tn p))), .int (tkV tp tn (tkE tp tn p)), .ref nw, .ref dr, .ref tr, .ref pa, .int (nI ac), .ref ig, .ref kx, .ref be, .ref tc, .int (nI td)])), (mt, .inl (cy 0, 100, .inl ft)), (dr, .inl (cy 0, 29, .inl gd))]) [2, 1, 0] rfl
        have hD9 := hD.sub (ws' := [(m0, .inr (7, [.ref ml, .ref mm, .ref mit, .ref ms, .int (st), .ref mt, .int (nI tn), .int (nI k1), .int (nI (tkE tp tn p)), .int (nI (tkE tp tn (tkE tp tn p))), .int (nI (tkE tp tn p)), .int (nI (tkK tp tn (tkE tp tn p))), .int (tkV tp tn (tkE tp tn p)), .ref nw, .ref dr, .ref tr, .ref pa, .int (nI ac), .ref ig, .ref kx, .ref be, .ref tc, .int (nI td)])), (mt, .inl (cy 0, 100, .inl ft)), (dr, .inl (cy 0, 29, .inl gd))]) [2, 1, 0] (by decide) rfl
        exact q_wvret hx hb hr hlocks dX7_readsClue_163 hP9 hD9 hS (Or.inr ⟨(tkE tp tn p), k1, _, _, _, _, by simp only [pClue, if_neg (by omega : ¬ pKind (tp p) = 0), if_neg (by omega : ¬ 6 ≤ w 4), hn1, htl.1, Except.bind], by omega, rfl⟩)
theorem nX7_city_0 : ∀ w ∈ wsX70, w ∈ wsX7_city := by decide +kernel
theorem mX7_city_1 : Cond.fieldLink RX7 86 "ClueLeaveModel" "at" "I" ∈ wsX7_city := by decide +kernel
theorem mX7_city_2 : Cond.fieldLink RX7 101 "ClueLeaveModel" "faultPlace" "I" ∈ wsX7_city := by decide +kernel
theorem mX7_city_3 : Cond.fieldLink RX7 98 "ClueLeaveModel" "token" "I" ∈ wsX7_city := by decide +kernel
theorem mX7_city_4 : Cond.fieldLink RX7 28 "ClueLeaveModel" "draft" "[I" ∈ wsX7_city := by decide +kernel
theorem mX7_city_5 : Cond.fieldLink RX7 82 "ClueLeaveModel" "taped" "I" ∈ wsX7_city := by decide +kernel
theorem mX7_city_6 : Cond.constant RX7 130 (-1000100) ∈ wsX7_city := by decide +kernel
theorem mX7_city_7 : Cond.fieldLink RX7 95 "ClueLeaveModel" "value" "I" ∈ wsX7_city := by decide +kernel
theorem mX7_city_8 : Cond.fieldLink RX7 25 "ClueLeaveModel" "now" "[I" ∈ wsX7_city := by decide +kernel
theorem mX7_city_9 : Cond.fieldLink RX7 135 "ClueLeaveModel" "acts" "I" ∈ wsX7_city := by decide +kernel
set_option maxHeartbeats 4000000 in
set_option maxRecDepth 100000 in
theorem c_X7_city (l : Launch) (D : va_G) (cy : Nat → ClassId) (m0 ml mm mit ms mt nw dr tr pa ig kx be tc : Nat) (st fk fp av sv ov vv : Int32) (tn ac td : Nat) (ft : Nat → Int32) (tp : Nat → Nat) (htn : tn ≤ 100) (htp : tpIs tn tp ft) (f gd : Nat → Int32) : q_Wi l yX7_city wsX7_city 7 D cy [(m0, .inr (7, [.ref ml, .ref mm, .ref mit, .ref ms, .int (st), .ref mt, .int (nI tn), .int (fk), .int (fp), .int (av), .int (sv), .int (ov), .int (vv), .ref nw, .ref dr, .ref tr, .ref pa, .int (nI ac), .ref ig, .ref kx, .ref be, .ref tc, .int (nI td)])), (mt, .inl (cy 0, 100, .inl ft)), (nw, .inl (cy 0, 29, .inl f)), (dr, .inl (cy 0, 29, .inl gd))] [.ref m0] (fun r u => (∃ (w2 : Nat → Nat) (f2 gd2 : Nat → Int32) (a1 a2 a3 a4 : Int32), pCity tp tn = .ok w2 ∧ ctOk w2 ∧ mwIs w2 f2 ∧ r = nI (w2 4) ∧ u = [(m0, .inr (7, [.ref ml, .ref mm, .ref mit, .ref ms, .int (st), .ref mt, .int (nI 0), .int (fk), .int ((-1)), .int (a1), .int (a2), .int (a3), .int (a4), .ref nw, .ref dr, .ref tr, .ref pa, .int (nI 0), .ref ig, .ref kx, .ref be, .ref tc, .int (nI td)])), (mt, .inl (cy 0, 100, .inl ft)), (nw, .inl (cy 0, 29, .inl f2)), (dr, .inl (cy 0, 29, .inl gd2))]) ∨ (∃ (q k : Nat) (gd2 : Nat → Int32) (a1 a2 a3 a4 : Int32), pCity tp tn = .error (q, k) ∧ q ≤ tn ∧ r = (-1000100) - nI q ∧ u = [(m0, .inr (7, [.ref ml, .ref mm, .ref mit, .ref ms, .int (st), .ref mt, .int (nI 0), .int (nI k), .int (nI q), .int (a1), .int (a2), .int (a3), .int (a4), .ref nw, .ref dr, .ref tr, .ref pa, .int (nI ac), .ref ig, .ref kx, .ref be, .ref tc, .int (nI td)])), (mt, .inl (cy 0, 100, .inl ft)), (nw, .inl (cy 0, 29, .inl f)), (dr, .inl (cy 0, 29, .inl gd2))])) := by
  refine q_wi_of (cc := cX7_city) (maxL := 2) (ret := (some .int)) (by decide) rfl (Nat.le_of_ble_eq_true rfl) ?_
  intro pg en s mi args below meth cd A hC hA hK H locs hP hD hS ls hl
  obtain ⟨hx, hb, hr, hml, hown, hts, hlocks⟩ := hC
  have hl : lv_has ls 2 [(0, .ref m0)] := hl
  refine lv_iconst (v := nI 0) hx hb dX7_city_0 (by decide) ?_
  refine lv_istore_n (lv' := [(1, .int (nI 0)), (0, .ref m0)]) hx hb dX7_city_1 rfl hl (by decide) rfl (fun ls hl => ?_)
  have L2_4 : ∀ (fu z1 : Nat), z1 ≤ 29 → 29 < z1 + fu → ∀ (H : Heap) (locs : List Loc), va_P D vwCl [(m0, .inr (7, [.ref ml, .ref mm, .ref mit, .ref ms, .int (st), .ref mt, .int (nI tn), .int (fk), .int (fp), .int (av), .int (sv), .int (ov), .int (vv), .ref nw, .ref dr, .ref tr, .ref pa, .int (nI ac), .ref ig, .ref kx, .ref be, .ref tc, .int (nI td)])), (mt, .inl (cy 0, 100, .inl ft)), (nw, .inl (cy 0, 29, .inl f)), (dr, .inl (cy 0, 29, .inl (fa_fill (fun _ => nI 0) gd z1)))] H → va_D A [(m0, .inr (7, [.ref ml, .ref mm, .ref mit, .ref ms, .int (st), .ref mt, .int (nI tn), .int (fk), .int (fp), .int (av), .int (sv), .int (ov), .int (vv), .ref nw, .ref dr, .ref tr, .ref pa, .int (nI ac), .ref ig, .ref kx, .ref be, .ref tc, .int (nI td)])), (mt, .inl (cy 0, 100, .inl ft)), (nw, .inl (cy 0, 29, .inl f)), (dr, .inl (cy 0, 29, .inl (fa_fill (fun _ => nI 0) gd z1)))] → va_S A s.heap H locs → ∀ ls : Array Slot, lv_has ls 2 [(0, .ref m0), (1, .int (nI z1))] → W pg l en (q_rm 7) s mi args below meth cd H locs 0 0 (MQ below (va_Qi (fun r u => (∃ (w2 : Nat → Nat) (f2 gd2 : Nat → Int32) (a1 a2 a3 a4 : Int32), pCity tp tn = .ok w2 ∧ ctOk w2 ∧ mwIs w2 f2 ∧ r = nI (w2 4) ∧ u = [(m0, .inr (7, [.ref ml, .ref mm, .ref mit, .ref ms, .int (st), .ref mt, .int (nI 0), .int (fk), .int ((-1)), .int (a1), .int (a2), .int (a3), .int (a4), .ref nw, .ref dr, .ref tr, .ref pa, .int (nI 0), .ref ig, .ref kx, .ref be, .ref tc, .int (nI td)])), (mt, .inl (cy 0, 100, .inl ft)), (nw, .inl (cy 0, 29, .inl f2)), (dr, .inl (cy 0, 29, .inl gd2))]) ∨ (∃ (q k : Nat) (gd2 : Nat → Int32) (a1 a2 a3 a4 : Int32), pCity tp tn = .error (q, k) ∧ q ≤ tn ∧ r = (-1000100) - nI q ∧ u = [(m0, .inr (7, [.ref ml, .ref mm, .ref mit, .ref ms, .int (st), .ref mt, .int (nI 0), .int (nI k), .int (nI q), .int (a1), .int (a2), .int (a3), .int (a4), .ref nw, .ref dr, .ref tr, .ref pa, .int (nI ac), .ref ig, .ref kx, .ref be, .ref tc, .int (nI td)])), (mt, .inl (cy 0, 100, .inl ft)), (nw, .inl (cy 0, 29, .inl f)), (dr, .inl (cy 0, 29, .inl gd2))])) (fun (u : va_W) t => va_P D vwCl u t.heap ∧ va_D A u) A) args s 0 0 A) (F0 mi 2 ls []) := by
    intro fu
    induction fu with
    | zero =>
      intro z1 h1 h2
      exact absurd h2 (by omega)
    | succ fu ih2 =>
      intro z1 h1_2 h2_2 H locs hP hD hS ls hl
      refine lv_iload_n hx hb dX7_city_2 rfl (lv_at hl 1 rfl) ?_
      refine lv_bipush (v := nI 29) hx hb dX7_city_3 (by decide) ?_
      refine q_icmp_ge (tgt := 21) hx hb dX7_city_5 (by decide) (by omega) (by decide) (fun c1 => ?_) (fun c1 => ?_)
      · refine lv_aload_n hx hb dX7_city_21 rfl (lv_at hl 0 rfl) ?_
        refine lv_iconst (v := nI 0) hx hb dX7_city_22 (by decide) ?_
        refine va_put (D := D) (ci := 7) (v := .int (nI 0)) (ty := .int) (C := RX7) (T := TX7) (N := 23) hx hb hts nX7_city_0 tyX7 tyX7_ok nmX7 hown hK.1 hP hD hS 0 rfl rfl 9 (by decide) (hts _ mX7_city_1) (fun _ h9 => h9) rfl (by decide +kernel) rfl rfl (Nat.le_of_ble_eq_true rfl) dX7_city_23 (fun H locs hP hD hS => ?_)
        have hP : va_P D vwCl [(m0, .inr (7, [.ref ml, .ref mm, .ref mit, .ref ms, .int (st), .ref mt, .int (nI tn), .int (fk), .int (fp), .int (nI 0), .int (sv), .int (ov), .int (vv), .ref nw, .ref dr, .ref tr, .ref pa, .int (nI ac), .ref ig, .ref kx, .ref be, .ref tc, .int (nI td)])), (mt, .inl (cy 0, 100, .inl ft)), (nw, .inl (cy 0, 29, .inl f)), (dr, .inl (cy 0, 29, .inl (fa_fill (fun _ => nI 0) gd z1)))] H := hP
        have hD : va_D A [(m0, .inr (7, [.ref ml, .ref mm, .ref mit, .ref ms, .int (st), .ref mt, .int (nI tn), .int (fk), .int (fp), .int (nI 0), .int (sv), .int (ov), .int (vv), .ref nw, .ref dr, .ref tr, .ref pa, .int (nI ac), .ref ig, .ref kx, .ref be, .ref tc, .int (nI td)])), (mt, .inl (cy 0, 100, .inl ft)), (nw, .inl (cy 0, 29, .inl f)), (dr, .inl (cy 0, 29, .inl (fa_fill (fun _ => nI 0) gd z1)))] := hD
        refine lv_aload_n hx hb dX7_city_26 rfl (lv_at hl 0 rfl) ?_
        refine lv_iconst (v := (-1)) hx hb dX7_city_27 (by decide) ?_
        refine va_put (D := D) (ci := 7) (v := .int ((-1))) (ty := .int) (C := RX7) (T := TX7) (N := 23) hx hb hts nX7_city_0 tyX7 tyX7_ok nmX7 hown hK.1 hP hD hS 0 rfl rfl 8 (by decide) (hts _ mX7_city_2) (fun _ h9 => h9) rfl (by decide +kernel) rfl rfl (Nat.le_of_ble_eq_true rfl) dX7_city_28 (fun H locs hP hD hS => ?_)
        have hP : va_P D vwCl [(m0, .inr (7, [.ref ml, .ref mm, .ref mit, .ref ms, .int (st), .ref mt, .int (nI tn), .int (fk), .int ((-1)), .int (nI 0), .int (sv), .int (ov), .int (vv), .ref nw, .ref dr, .ref tr, .ref pa, .int (nI ac), .ref ig, .ref kx, .ref be, .ref tc, .int (nI td)])), (mt, .inl (cy 0, 100, .inl ft)), (nw, .inl (cy 0, 29, .inl f)), (dr, .inl (cy 0, 29, .inl (fa_fill (fun _ => nI 0) gd z1)))] H := hP
        have hD : va_D A [(m0, .inr (7, [.ref ml, .ref mm, .ref mit, .ref ms, .int (st), .ref mt, .int (nI tn), .int (fk), .int ((-1)), .int (nI 0), .int (sv), .int (ov), .int (vv), .ref nw, .ref dr, .ref tr, .ref pa, .int (nI ac), .ref ig, .ref kx, .ref be, .ref tc, .int (nI td)])), (mt, .inl (cy 0, 100, .inl ft)), (nw, .inl (cy 0, 29, .inl f)), (dr, .inl (cy 0, 29, .inl (fa_fill (fun _ => nI 0) gd z1)))] := hD
        refine lv_aload_n hx hb dX7_city_31 rfl (lv_at hl 0 rfl) ?_
        refine q_wvV (As := []) (rest := []) (wr := [(nw, .inl (cy 0, 29, .inl f)), (dr, .inl (cy 0, 29, .inl (fa_fill (fun _ => nI 0) gd z1)))]) ⟨hx, hb, hml, hown, hts⟩ (c_X7_advances l D cy m0 ml mm mit ms mt nw dr tr pa ig kx be tc st fk (-1) (nI 0) sv ov vv tn ac td ft tp htn htp 0 (by omega)) (cwV 0 hts gX7_city_X7_advances rfl rfl rfl (by decide +kernel) ⟨Nat.le_of_ble_eq_true rfl, Nat.le_of_ble_eq_true rfl⟩) hP hD hS hA hK [0, 1] [2, 3] rfl rfl (by decide) rfl (by decide) (by decide) 0 rfl rfl rfl rfl hl.1 rfl (Nat.le_of_ble_eq_true rfl) dX7_city_32 ⟨Nat.zero_le _, Nat.zero_le _⟩ (fun u3 H locs hr2 hP hD hS => ?_)
        obtain rfl := hr2
        have hP : va_P D vwCl [(nw, .inl (cy 0, 29, .inl f)), (dr, .inl (cy 0, 29, .inl (fa_fill (fun _ => nI 0) gd z1))), (m0, .inr (7, [.ref ml, .ref mm, .ref mit, .ref ms, .int (st), .ref mt, .int (nI tn), .int (fk), .int ((-1)), .int (nI (tkE tp tn 0)), .int (nI 0), .int (nI (tkK tp tn 0)), .int (tkV tp tn 0), .ref nw, .ref dr, .ref tr, .ref pa, .int (nI ac), .ref ig, .ref kx, .ref be, .ref tc, .int (nI td)])), (mt, .inl (cy 0, 100, .inl ft))] H := hP
        have hD : va_D A [(nw, .inl (cy 0, 29, .inl f)), (dr, .inl (cy 0, 29, .inl (fa_fill (fun _ => nI 0) gd z1))), (m0, .inr (7, [.ref ml, .ref mm, .ref mit, .ref ms, .int (st), .ref mt, .int (nI tn), .int (fk), .int ((-1)), .int (nI (tkE tp tn 0)), .int (nI 0), .int (nI (tkK tp tn 0)), .int (tkV tp tn 0), .ref nw, .ref dr, .ref tr, .ref pa, .int (nI ac), .ref ig, .ref kx, .ref be, .ref tc, .int (nI td)])), (mt, .inl (cy 0, 100, .inl ft))] := hD
        have hkl0 := tkK_le tp tn 0
        refine lv_aload_n hx hb dX7_city_35 rfl (lv_at hl 0 rfl) ?_
        refine lv_aload_n hx hb dX7_city_36 rfl (lv_at hl 0 rfl) ?_
        refine va_get (D := D) (ci := 7) (v := .int (nI (tkK tp tn 0))) (C := RX7) (T := TX7) (N := 23) hx hb hts nX7_city_0 hown hK.1 hP 2 rfl rfl 11 (by decide) (hts _ mX7_city_3) (fun _ h9 => h9) rfl dX7_city_37 ?_
        refine lv_iconst (v := nI 1) hx hb dX7_city_40 (by decide) ?_
        refine q_icmp_ne (tgt := 57) hx hb dX7_city_41 (by decide) (by omega) (by decide) (fun c4 => ?_) (fun c4 => ?_)
        · have htc : pTake tp tn 99 0 = .error (0, 1) := tkC_n1 c4
          refine lv_iconst (v := nI 0) hx hb dX7_city_57 (by decide) ?_
          refine lv_iconst (v := nI 1) hx hb dX7_city_58 (by decide) ?_
          refine q_wiV (As := [.int (nI 0), .int (nI 1)]) (rest := []) (wr := [(nw, .inl (cy 0, 29, .inl f)), (dr, .inl (cy 0, 29, .inl (fa_fill (fun _ => nI 0) gd z1))), (mt, .inl (cy 0, 100, .inl ft))]) ⟨hx, hb, hml, hown, hts⟩ (c_X7_takes_n l D cy m0 ml mm mit ms mt nw dr tr pa ig kx be tc st fk (-1) (nI (tkE tp tn 0)) (nI 0) (nI (tkK tp tn 0)) (tkV tp tn 0) tn ac td (nI 1)) (cwV 2 hts gX7_city_X7_takes rfl rfl rfl (by decide +kernel) ⟨Nat.le_of_ble_eq_true rfl, Nat.le_of_ble_eq_true rfl⟩) hP hD hS hA hK [2] [0, 1, 3] rfl rfl (by decide) rfl (by decide) (by decide) 2 rfl rfl rfl rfl hl.1 rfl (Nat.le_of_ble_eq_true rfl) dX7_city_59 ⟨Nat.zero_le _, Nat.zero_le _⟩ (fun r5 u6 H locs hr5 hP hD hS => ?_)
          obtain ⟨rfl, rfl⟩ := hr5
          have hP : va_P D vwCl [(nw, .inl (cy 0, 29, .inl f)), (dr, .inl (cy 0, 29, .inl (fa_fill (fun _ => nI 0) gd z1))), (mt, .inl (cy 0, 100, .inl ft)), (m0, .inr (7, [.ref ml, .ref mm, .ref mit, .ref ms, .int (st), .ref mt, .int (nI tn), .int (nI 1), .int (nI 0), .int (nI (tkE tp tn 0)), .int (nI 0), .int (nI (tkK tp tn 0)), .int (tkV tp tn 0), .ref nw, .ref dr, .ref tr, .ref pa, .int (nI ac), .ref ig, .ref kx, .ref be, .ref tc, .int (nI td)]))] H := hP
          have hD : va_D A [(nw, .inl (cy 0, 29, .inl f)), (dr, .inl (cy 0, 29, .inl (fa_fill (fun _ => nI 0) gd z1))), (mt, .inl (cy 0, 100, .inl ft)), (m0, .inr (7, [.ref ml, .ref mm, .ref mit, .ref ms, .int (st), .ref mt, .int (nI tn), .int (nI 1), .int (nI 0), .int (nI (tkE tp tn 0)), .int (nI 0), .int (nI (tkK tp tn 0)), .int (tkV tp tn 0), .ref nw, .ref dr, .ref tr, .ref pa, .int (nI ac), .ref ig, .ref kx, .ref be, .ref tc, .int (nI td)]))] := hD
          refine lv_pop hx hb dX7_city_62 rfl ?_
          refine lv_aload_n hx hb dX7_city_63 rfl (lv_at hl 0 rfl) ?_
          refine va_get (D := D) (ci := 7) (v := .ref dr) (C := RX7) (T := TX7) (N := 23) hx hb hts nX7_city_0 hown hK.1 hP 3 rfl rfl 14 (by decide) (hts _ mX7_city_4) (fun _ h9 => h9) rfl dX7_city_64 ?_
          refine lv_iconst (v := nI 0) hx hb dX7_city_67 (by decide) ?_
          refine lv_aload_n hx hb dX7_city_68 rfl (lv_at hl 0 rfl) ?_
          refine lv_iconst (v := nI 2) hx hb dX7_city_69 (by decide) ?_
          refine lv_bipush (v := nI 6) hx hb dX7_city_70 (by decide) ?_
          refine q_wiV (As := [.int (nI 2), .int (nI 6)]) (rest := [.int (nI 0), .ref dr]) (wr := [(nw, .inl (cy 0, 29, .inl f)), (dr, .inl (cy 0, 29, .inl (fa_fill (fun _ => nI 0) gd z1))), (mt, .inl (cy 0, 100, .inl ft))]) ⟨hx, hb, hml, hown, hts⟩ (c_X7_figure_e l D cy m0 ml mm mit ms mt nw dr tr pa ig kx be tc st (nI 1) (nI 0) (nI (tkE tp tn 0)) (nI 0) (nI (tkK tp tn 0)) (tkV tp tn 0) tn ac td 0 (by omega) (nI 2) (nI 6)) (cwV 2 hts gX7_city_X7_figure rfl rfl rfl (by decide +kernel) ⟨Nat.le_of_ble_eq_true rfl, Nat.le_of_ble_eq_true rfl⟩) hP hD hS hA hK [3] [0, 1, 2] rfl rfl (by decide) rfl (by decide) (by decide) 3 rfl rfl rfl rfl hl.1 rfl (Nat.le_of_ble_eq_true rfl) dX7_city_72 ⟨Nat.zero_le _, Nat.zero_le _⟩ (fun r7 u8 H locs hr7 hP hD hS => ?_)
          obtain ⟨rfl, rfl⟩ := hr7
          have hP : va_P D vwCl [(nw, .inl (cy 0, 29, .inl f)), (dr, .inl (cy 0, 29, .inl (fa_fill (fun _ => nI 0) gd z1))), (mt, .inl (cy 0, 100, .inl ft)), (m0, .inr (7, [.ref ml, .ref mm, .ref mit, .ref ms, .int (st), .ref mt, .int (nI tn), .int (nI 1), .int (nI 0), .int (nI (tkE tp tn 0)), .int (nI 0), .int (nI (tkK tp tn 0)), .int (tkV tp tn 0), .ref nw, .ref dr, .ref tr, .ref pa, .int (nI ac), .ref ig, .ref kx, .ref be, .ref tc, .int (nI td)]))] H := hP
          have hD : va_D A [(nw, .inl (cy 0, 29, .inl f)), (dr, .inl (cy 0, 29, .inl (fa_fill (fun _ => nI 0) gd z1))), (mt, .inl (cy 0, 100, .inl ft)), (m0, .inr (7, [.ref ml, .ref mm, .ref mit, .ref ms, .int (st), .ref mt, .int (nI tn), .int (nI 1), .int (nI 0), .int (nI (tkE tp tn 0)), .int (nI 0), .int (nI (tkK tp tn 0)), .int (tkV tp tn 0), .ref nw, .ref dr, .ref tr, .ref pa, .int (nI ac), .ref ig, .ref kx, .ref be, .ref tc, .int (nI td)]))] := hD
          refine q_iast (j := 0) hx hb hK hP hD hS 1 rfl (by omega) (by decide) dX7_city_75 (fun H locs hP hD hS => ?_)
          have hP : va_P D vwCl [(nw, .inl (cy 0, 29, .inl f)), (dr, .inl (cy 0, 29, .inl (upd (fa_fill (fun _ => nI 0) gd z1) 0 (nI 0)))), (mt, .inl (cy 0, 100, .inl ft)), (m0, .inr (7, [.ref ml, .ref mm, .ref mit, .ref ms, .int (st), .ref mt, .int (nI tn), .int (nI 1), .int (nI 0), .int (nI (tkE tp tn 0)), .int (nI 0), .int (nI (tkK tp tn 0)), .int (tkV tp tn 0), .ref nw, .ref dr, .ref tr, .ref pa, .int (nI ac), .ref ig, .ref kx, .ref be, .ref tc, .int (nI td)]))] H := hP
          have hD : va_D A [(nw, .inl (cy 0, 29, .inl f)), (dr, .inl (cy 0, 29, .inl (upd (fa_fill (fun _ => nI 0) gd z1) 0 (nI 0)))), (mt, .inl (cy 0, 100, .inl ft)), (m0, .inr (7, [.ref ml, .ref mm, .ref mit, .ref ms, .int (st), .ref mt, .int (nI tn), .int (nI 1), .int (nI 0), .int (nI (tkE tp tn 0)), .int (nI 0), .int (nI (tkK tp tn 0)), .int (tkV tp tn 0), .ref nw, .ref dr, .ref tr, .ref pa, .int (nI ac), .ref ig, .ref kx, .ref be, .ref tc, .int (nI td)]))] := hD
          refine lv_aload_n hx hb dX7_city_76 rfl (lv_at hl 0 rfl) ?_
          refine va_get (D := D) (ci := 7) (v := .ref dr) (C := RX7) (T := TX7) (N := 23) hx hb hts nX7_city_0 hown hK.1 hP 3 rfl rfl 14 (by decide) (hts _ mX7_city_4) (fun _ h9 => h9) rfl dX7_city_77 ?_
          refine lv_iconst (v := nI 1) hx hb dX7_city_80 (by decide) ?_
          refine lv_aload_n hx hb dX7_city_81 rfl (lv_at hl 0 rfl) ?_
          refine lv_iconst (v := nI 0) hx hb dX7_city_82 (by decide) ?_
          refine lv_bipush (v := nI 6) hx hb dX7_city_83 (by decide) ?_
          refine q_wiV (As := [.int (nI 0), .int (nI 6)]) (rest := [.int (nI 1), .ref dr]) (wr := [(nw, .inl (cy 0, 29, .inl f)), (dr, .inl (cy 0, 29, .inl (upd (fa_fill (fun _ => nI 0) gd z1) 0 (nI 0)))), (mt, .inl (cy 0, 100, .inl ft))]) ⟨hx, hb, hml, hown, hts⟩ (c_X7_next_e l D cy m0 ml mm mit ms mt nw dr tr pa ig kx be tc st (nI 1) (nI 0) (nI (tkE tp tn 0)) (nI 0) (nI (tkK tp tn 0)) (tkV tp tn 0) tn ac td 0 (by omega) (nI 0) (nI 6)) (cwV 2 hts gX7_city_X7_next rfl rfl rfl (by decide +kernel) ⟨Nat.le_of_ble_eq_true rfl, Nat.le_of_ble_eq_true rfl⟩) hP hD hS hA hK [3] [0, 1, 2] rfl rfl (by decide) rfl (by decide) (by decide) 3 rfl rfl rfl rfl hl.1 rfl (Nat.le_of_ble_eq_true rfl) dX7_city_85 ⟨Nat.zero_le _, Nat.zero_le _⟩ (fun r9 u10 H locs hr9 hP hD hS => ?_)
          obtain ⟨rfl, rfl⟩ := hr9
          have hP : va_P D vwCl [(nw, .inl (cy 0, 29, .inl f)), (dr, .inl (cy 0, 29, .inl (upd (fa_fill (fun _ => nI 0) gd z1) 0 (nI 0)))), (mt, .inl (cy 0, 100, .inl ft)), (m0, .inr (7, [.ref ml, .ref mm, .ref mit, .ref ms, .int (st), .ref mt, .int (nI tn), .int (nI 1), .int (nI 0), .int (nI (tkE tp tn 0)), .int (nI 0), .int (nI (tkK tp tn 0)), .int (tkV tp tn 0), .ref nw, .ref dr, .ref tr, .ref pa, .int (nI ac), .ref ig, .ref kx, .ref be, .ref tc, .int (nI td)]))] H := hP
          have hD : va_D A [(nw, .inl (cy 0, 29, .inl f)), (dr, .inl (cy 0, 29, .inl (upd (fa_fill (fun _ => nI 0) gd z1) 0 (nI 0)))), (mt, .inl (cy 0, 100, .inl ft)), (m0, .inr (7, [.ref ml, .ref mm, .ref mit, .ref ms, .int (st), .ref mt, .int (nI tn), .int (nI 1), .int (nI 0), .int (nI (tkE tp tn 0)), .int (nI 0), .int (nI (tkK tp tn 0)), .int (tkV tp tn 0), .ref nw, .ref dr, .ref tr, .ref pa, .int (nI ac), .ref ig, .ref kx, .ref be, .ref tc, .int (nI td)]))] := hD
          refine q_iast (j := 1) hx hb hK hP hD hS 1 rfl (by omega) (by decide) dX7_city_88 (fun H locs hP hD hS => ?_)
          have hP : va_P D vwCl [(nw, .inl (cy 0, 29, .inl f)), (dr, .inl (cy 0, 29, .inl (upd (upd (fa_fill (fun _ => nI 0) gd z1) 0 (nI 0)) 1 (nI 0)))), (mt, .inl (cy 0, 100, .inl ft)), (m0, .inr (7, [.ref ml, .ref mm, .ref mit, .ref ms, .int (st), .ref mt, .int (nI tn), .int (nI 1), .int (nI 0), .int (nI (tkE tp tn 0)), .int (nI 0), .int (nI (tkK tp tn 0)), .int (tkV tp tn 0), .ref nw, .ref dr, .ref tr, .ref pa, .int (nI ac), .ref ig, .ref kx, .ref be, .ref tc, .int (nI td)]))] H := hP
          have hD : va_D A [(nw, .inl (cy 0, 29, .inl f)), (dr, .inl (cy 0, 29, .inl (upd (upd (fa_fill (fun _ => nI 0) gd z1) 0 (nI 0)) 1 (nI 0)))), (mt, .inl (cy 0, 100, .inl ft)), (m0, .inr (7, [.ref ml, .ref mm, .ref mit, .ref ms, .int (st), .ref mt, .int (nI tn), .int (nI 1), .int (nI 0), .int (nI (tkE tp tn 0)), .int (nI 0), .int (nI (tkK tp tn 0)), .int (tkV tp tn 0), .ref nw, .ref dr, .ref tr, .ref pa, .int (nI ac), .ref ig, .ref kx, .ref be, .ref tc, .int (nI td)]))] := hD
          refine lv_aload_n hx hb dX7_city_89 rfl (lv_at hl 0 rfl) ?_
          refine lv_aload_n hx hb dX7_city_90 rfl (lv_at hl 0 rfl) ?_
          refine va_get (D := D) (ci := 7) (v := .int (nI (tkK tp tn 0))) (C := RX7) (T := TX7) (N := 23) hx hb hts nX7_city_0 hown hK.1 hP 3 rfl rfl 11 (by decide) (hts _ mX7_city_3) (fun _ h9 => h9) rfl dX7_city_91 ?_
          have hkl94 := tkK_le tp tn 0
          refine lv_iconst (v := nI 4) hx hb dX7_city_94 (by decide) ?_
          refine q_icmp_ne (tgt := 102) hx hb dX7_city_95 (by decide) (by omega) (by decide) (fun c11 => ?_) (fun c11 => ?_)
          · refine lv_iconst (v := nI 0) hx hb dX7_city_102 (by decide) ?_
            refine lv_iconst (v := nI 1) hx hb dX7_city_103 (by decide) ?_
            refine q_wiV (As := [.int (nI 0), .int (nI 1)]) (rest := []) (wr := [(nw, .inl (cy 0, 29, .inl f)), (dr, .inl (cy 0, 29, .inl (upd (upd (fa_fill (fun _ => nI 0) gd z1) 0 (nI 0)) 1 (nI 0)))), (mt, .inl (cy 0, 100, .inl ft))]) ⟨hx, hb, hml, hown, hts⟩ (c_X7_takes_e l D cy m0 ml mm mit ms mt nw dr tr pa ig kx be tc st (nI 1) (nI 0) (nI (tkE tp tn 0)) (nI 0) (nI (tkK tp tn 0)) (tkV tp tn 0) tn ac td 0 (by omega) (nI 0) (nI 1)) (cwV 2 hts gX7_city_X7_takes rfl rfl rfl (by decide +kernel) ⟨Nat.le_of_ble_eq_true rfl, Nat.le_of_ble_eq_true rfl⟩) hP hD hS hA hK [3] [0, 1, 2] rfl rfl (by decide) rfl (by decide) (by decide) 3 rfl rfl rfl rfl hl.1 rfl (Nat.le_of_ble_eq_true rfl) dX7_city_104 ⟨Nat.zero_le _, Nat.zero_le _⟩ (fun r12 u13 H locs hr12 hP hD hS => ?_)
            obtain ⟨rfl, rfl⟩ := hr12
            have hP : va_P D vwCl [(nw, .inl (cy 0, 29, .inl f)), (dr, .inl (cy 0, 29, .inl (upd (upd (fa_fill (fun _ => nI 0) gd z1) 0 (nI 0)) 1 (nI 0)))), (mt, .inl (cy 0, 100, .inl ft)), (m0, .inr (7, [.ref ml, .ref mm, .ref mit, .ref ms, .int (st), .ref mt, .int (nI tn), .int (nI 1), .int (nI 0), .int (nI (tkE tp tn 0)), .int (nI 0), .int (nI (tkK tp tn 0)), .int (tkV tp tn 0), .ref nw, .ref dr, .ref tr, .ref pa, .int (nI ac), .ref ig, .ref kx, .ref be, .ref tc, .int (nI td)]))] H := hP
            have hD : va_D A [(nw, .inl (cy 0, 29, .inl f)), (dr, .inl (cy 0, 29, .inl (upd (upd (fa_fill (fun _ => nI 0) gd z1) 0 (nI 0)) 1 (nI 0)))), (mt, .inl (cy 0, 100, .inl ft)), (m0, .inr (7, [.ref ml, .ref mm, .ref mit, .ref ms, .int (st), .ref mt, .int (nI tn), .int (nI 1), .int (nI 0), .int (nI (tkE tp tn 0)), .int (nI 0), .int (nI (tkK tp tn 0)), .int (tkV tp tn 0), .ref nw, .ref dr, .ref tr, .ref pa, .int (nI ac), .ref ig, .ref kx, .ref be, .ref tc, .int (nI td)]))] := hD
            refine lv_pop hx hb dX7_city_107 rfl ?_
            refine lv_aload_n hx hb dX7_city_108 rfl (lv_at hl 0 rfl) ?_
            refine q_rV (As := []) (rest := []) ⟨hx, hb, hml, hown, hts⟩ (c_X7_isWell_n l D cy m0 ml mm mit ms mt nw dr tr pa ig kx be tc st (nI 1) (nI 0) (nI (tkE tp tn 0)) (nI 0) (nI (tkK tp tn 0)) (tkV tp tn 0) tn ac td 0 (by omega)) (cwV 0 hts gX7_city_X7_isWell rfl rfl rfl (by decide +kernel) ⟨Nat.le_of_ble_eq_true rfl, Nat.le_of_ble_eq_true rfl⟩) hP hK [3] rfl 3 rfl rfl rfl rfl hl.1 rfl (Nat.le_of_ble_eq_true rfl) dX7_city_109 ⟨Nat.zero_le _, Nat.zero_le _⟩ (fun r14 hr14 => ?_)
            obtain rfl := hr14
            refine lv_if_eq (tgt := 140) hx hb dX7_city_112 (by decide) (fun _ => ?_) (fun c9 => absurd (by decide) c9)
            refine lv_aload_n hx hb dX7_city_140 rfl (lv_at hl 0 rfl) ?_
            refine q_rV (As := []) (rest := []) ⟨hx, hb, hml, hown, hts⟩ (c_X7_isWell_n l D cy m0 ml mm mit ms mt nw dr tr pa ig kx be tc st (nI 1) (nI 0) (nI (tkE tp tn 0)) (nI 0) (nI (tkK tp tn 0)) (tkV tp tn 0) tn ac td 0 (by omega)) (cwV 0 hts gX7_city_X7_isWell rfl rfl rfl (by decide +kernel) ⟨Nat.le_of_ble_eq_true rfl, Nat.le_of_ble_eq_true rfl⟩) hP hK [3] rfl 3 rfl rfl rfl rfl hl.1 rfl (Nat.le_of_ble_eq_true rfl) dX7_city_141 ⟨Nat.zero_le _, Nat.zero_le _⟩ (fun r15 hr15 => ?_)
            obtain rfl := hr15
            refine lv_if_eq (tgt := 161) hx hb dX7_city_144 (by decide) (fun _ => ?_) (fun c9 => absurd (by decide) c9)
            refine lv_aload_n hx hb dX7_city_161 rfl (lv_at hl 0 rfl) ?_
            refine lv_iconst (v := nI 0) hx hb dX7_city_162 (by decide) ?_
            refine va_put (D := D) (ci := 7) (v := .int (nI 0)) (ty := .int) (C := RX7) (T := TX7) (N := 23) hx hb hts nX7_city_0 tyX7 tyX7_ok nmX7 hown hK.1 hP hD hS 3 rfl rfl 6 (by decide) (hts _ mX7_city_5) (fun _ h9 => h9) rfl (by decide +kernel) rfl rfl (Nat.le_of_ble_eq_true rfl) dX7_city_163 (fun H locs hP hD hS => ?_)
            have hP : va_P D vwCl [(nw, .inl (cy 0, 29, .inl f)), (dr, .inl (cy 0, 29, .inl (upd (upd (fa_fill (fun _ => nI 0) gd z1) 0 (nI 0)) 1 (nI 0)))), (mt, .inl (cy 0, 100, .inl ft)), (m0, .inr (7, [.ref ml, .ref mm, .ref mit, .ref ms, .int (st), .ref mt, .int (nI 0), .int (nI 1), .int (nI 0), .int (nI (tkE tp tn 0)), .int (nI 0), .int (nI (tkK tp tn 0)), .int (tkV tp tn 0), .ref nw, .ref dr, .ref tr, .ref pa, .int (nI ac), .ref ig, .ref kx, .ref be, .ref tc, .int (nI td)]))] H := hP
            have hD : va_D A [(nw, .inl (cy 0, 29, .inl f)), (dr, .inl (cy 0, 29, .inl (upd (upd (fa_fill (fun _ => nI 0) gd z1) 0 (nI 0)) 1 (nI 0)))), (mt, .inl (cy 0, 100, .inl ft)), (m0, .inr (7, [.ref ml, .ref mm, .ref mit, .ref ms, .int (st), .ref mt, .int (nI 0), .int (nI 1), .int (nI 0), .int (nI (tkE tp tn 0)), .int (nI 0), .int (nI (tkK tp tn 0)), .int (tkV tp tn 0), .ref nw, .ref dr, .ref tr, .ref pa, .int (nI ac), .ref ig, .ref kx, .ref be, .ref tc, .int (nI td)]))] := hD
            refine lv_aload_n hx hb dX7_city_166 rfl (lv_at hl 0 rfl) ?_
            refine q_rV (As := []) (rest := []) ⟨hx, hb, hml, hown, hts⟩ (c_X7_isWell_n l D cy m0 ml mm mit ms mt nw dr tr pa ig kx be tc st (nI 1) (nI 0) (nI (tkE tp tn 0)) (nI 0) (nI (tkK tp tn 0)) (tkV tp tn 0) 0 ac td 0 (by omega)) (cwV 0 hts gX7_city_X7_isWell rfl rfl rfl (by decide +kernel) ⟨Nat.le_of_ble_eq_true rfl, Nat.le_of_ble_eq_true rfl⟩) hP hK [3] rfl 3 rfl rfl rfl rfl hl.1 rfl (Nat.le_of_ble_eq_true rfl) dX7_city_167 ⟨Nat.zero_le _, Nat.zero_le _⟩ (fun r16 hr16 => ?_)
            obtain rfl := hr16
            refine lv_if_ne (tgt := 181) hx hb dX7_city_170 (by decide) (fun c9 => absurd (by decide) c9) (fun _ => ?_)
            refine lv_ldc (v := (-1000100)) hx hb hown (hts _ mX7_city_6) dX7_city_173 ?_
            refine lv_aload_n hx hb dX7_city_175 rfl (lv_at hl 0 rfl) ?_
            refine va_get (D := D) (ci := 7) (v := .int (nI 0)) (C := RX7) (T := TX7) (N := 23) hx hb hts nX7_city_0 hown hK.1 hP 3 rfl rfl 8 (by decide) (hts _ mX7_city_2) (fun _ h9 => h9) rfl dX7_city_176 ?_
            refine lv_isub hx hb dX7_city_179 ?_
            refine q_top (y := (-1000100)) (by decide) ?_
            have hP9 := hP.sub (ws' := [(m0, .inr (7, [.ref ml, .ref mm, .ref mit, .ref ms, .int (st), .ref mt, .int (nI 0), .int (nI 1), .int (nI 0), .int (nI (tkE tp tn 0)), .int (nI 0), .int (nI (tkK tp tn 0)), .int (tkV tp tn 0), .ref nw, .ref dr, .ref tr, .ref pa, .int (nI ac), .ref ig, .ref kx, .ref be, .ref tc, .int (nI td)])), (mt, .inl (cy 0, 100, .inl ft)), (nw, .inl (cy 0, 29, .inl f)), (dr, .inl (cy 0, 29, .inl (upd (upd (fa_fill (fun _ => nI 0) gd z1) 0 (nI 0)) 1 (nI 0))))]) [3, 2, 0, 1] rfl
            have hD9 := hD.sub (ws' := [(m0, .inr (7, [.ref ml, .ref mm, .ref mit, .ref ms, .int (st), .ref mt, .int (nI 0), .int (nI 1), .int (nI 0), .int (nI (tkE tp tn 0)), .int (nI 0), .int (nI (tkK tp tn 0)), .int (tkV tp tn 0), .ref nw, .ref dr, .ref tr, .ref pa, .int (nI ac), .ref ig, .ref kx, .ref be, .ref tc, .int (nI td)])), (mt, .inl (cy 0, 100, .inl ft)), (nw, .inl (cy 0, 29, .inl f)), (dr, .inl (cy 0, 29, .inl (upd (upd (fa_fill (fun _ => nI 0) gd z1) 0 (nI 0)) 1 (nI 0))))]) [3, 2, 0, 1] (by decide) rfl
            exact q_wiret (v := (-1000100)) hx hb hr hlocks dX7_city_180 hP9 hD9 hS (Or.inr ⟨0, 1, _, _, _, _, _, by simp only [pCity, pLaw, htc, Except.bind], by omega, rfl, rfl⟩)
          · refine lv_iconst (v := nI 1) hx hb dX7_city_98 (by decide) ?_
            refine lv_goto (tgt := 103) hx hb dX7_city_99 (by decide) ?_
            refine lv_iconst (v := nI 1) hx hb dX7_city_103 (by decide) ?_
            refine q_wiV (As := [.int (nI 1), .int (nI 1)]) (rest := []) (wr := [(nw, .inl (cy 0, 29, .inl f)), (dr, .inl (cy 0, 29, .inl (upd (upd (fa_fill (fun _ => nI 0) gd z1) 0 (nI 0)) 1 (nI 0)))), (mt, .inl (cy 0, 100, .inl ft))]) ⟨hx, hb, hml, hown, hts⟩ (c_X7_takes_e l D cy m0 ml mm mit ms mt nw dr tr pa ig kx be tc st (nI 1) (nI 0) (nI (tkE tp tn 0)) (nI 0) (nI (tkK tp tn 0)) (tkV tp tn 0) tn ac td 0 (by omega) (nI 1) (nI 1)) (cwV 2 hts gX7_city_X7_takes rfl rfl rfl (by decide +kernel) ⟨Nat.le_of_ble_eq_true rfl, Nat.le_of_ble_eq_true rfl⟩) hP hD hS hA hK [3] [0, 1, 2] rfl rfl (by decide) rfl (by decide) (by decide) 3 rfl rfl rfl rfl hl.1 rfl (Nat.le_of_ble_eq_true rfl) dX7_city_104 ⟨Nat.zero_le _, Nat.zero_le _⟩ (fun r17 u18 H locs hr17 hP hD hS => ?_)
            obtain ⟨rfl, rfl⟩ := hr17
            have hP : va_P D vwCl [(nw, .inl (cy 0, 29, .inl f)), (dr, .inl (cy 0, 29, .inl (upd (upd (fa_fill (fun _ => nI 0) gd z1) 0 (nI 0)) 1 (nI 0)))), (mt, .inl (cy 0, 100, .inl ft)), (m0, .inr (7, [.ref ml, .ref mm, .ref mit, .ref ms, .int (st), .ref mt, .int (nI tn), .int (nI 1), .int (nI 0), .int (nI (tkE tp tn 0)), .int (nI 0), .int (nI (tkK tp tn 0)), .int (tkV tp tn 0), .ref nw, .ref dr, .ref tr, .ref pa, .int (nI ac), .ref ig, .ref kx, .ref be, .ref tc, .int (nI td)]))] H := hP
            have hD : va_D A [(nw, .inl (cy 0, 29, .inl f)), (dr, .inl (cy 0, 29, .inl (upd (upd (fa_fill (fun _ => nI 0) gd z1) 0 (nI 0)) 1 (nI 0)))), (mt, .inl (cy 0, 100, .inl ft)), (m0, .inr (7, [.ref ml, .ref mm, .ref mit, .ref ms, .int (st), .ref mt, .int (nI tn), .int (nI 1), .int (nI 0), .int (nI (tkE tp tn 0)), .int (nI 0), .int (nI (tkK tp tn 0)), .int (tkV tp tn 0), .ref nw, .ref dr, .ref tr, .ref pa, .int (nI ac), .ref ig, .ref kx, .ref be, .ref tc, .int (nI td)]))] := hD
            refine lv_pop hx hb dX7_city_107 rfl ?_
            refine lv_aload_n hx hb dX7_city_108 rfl (lv_at hl 0 rfl) ?_
            refine q_rV (As := []) (rest := []) ⟨hx, hb, hml, hown, hts⟩ (c_X7_isWell_n l D cy m0 ml mm mit ms mt nw dr tr pa ig kx be tc st (nI 1) (nI 0) (nI (tkE tp tn 0)) (nI 0) (nI (tkK tp tn 0)) (tkV tp tn 0) tn ac td 0 (by omega)) (cwV 0 hts gX7_city_X7_isWell rfl rfl rfl (by decide +kernel) ⟨Nat.le_of_ble_eq_true rfl, Nat.le_of_ble_eq_true rfl⟩) hP hK [3] rfl 3 rfl rfl rfl rfl hl.1 rfl (Nat.le_of_ble_eq_true rfl) dX7_city_109 ⟨Nat.zero_le _, Nat.zero_le _⟩ (fun r19 hr19 => ?_)
            obtain rfl := hr19
            refine lv_if_eq (tgt := 140) hx hb dX7_city_112 (by decide) (fun _ => ?_) (fun c9 => absurd (by decide) c9)
            refine lv_aload_n hx hb dX7_city_140 rfl (lv_at hl 0 rfl) ?_
            refine q_rV (As := []) (rest := []) ⟨hx, hb, hml, hown, hts⟩ (c_X7_isWell_n l D cy m0 ml mm mit ms mt nw dr tr pa ig kx be tc st (nI 1) (nI 0) (nI (tkE tp tn 0)) (nI 0) (nI (tkK tp tn 0)) (tkV tp tn 0) tn ac td 0 (by omega)) (cwV 0 hts gX7_city_X7_isWell rfl rfl rfl (by decide +kernel) ⟨Nat.le_of_ble_eq_true rfl, Nat.le_of_ble_eq_true rfl⟩) hP hK [3] rfl 3 rfl rfl rfl rfl hl.1 rfl (Nat.le_of_ble_eq_true rfl) dX7_city_141 ⟨Nat.zero_le _, Nat.zero_le _⟩ (fun r20 hr20 => ?_)
            obtain rfl := hr20
            refine lv_if_eq (tgt := 161) hx hb dX7_city_144 (by decide) (fun _ => ?_) (fun c9 => absurd (by decide) c9)
            refine lv_aload_n hx hb dX7_city_161 rfl (lv_at hl 0 rfl) ?_
            refine lv_iconst (v := nI 0) hx hb dX7_city_162 (by decide) ?_
            refine va_put (D := D) (ci := 7) (v := .int (nI 0)) (ty := .int) (C := RX7) (T := TX7) (N := 23) hx hb hts nX7_city_0 tyX7 tyX7_ok nmX7 hown hK.1 hP hD hS 3 rfl rfl 6 (by decide) (hts _ mX7_city_5) (fun _ h9 => h9) rfl (by decide +kernel) rfl rfl (Nat.le_of_ble_eq_true rfl) dX7_city_163 (fun H locs hP hD hS => ?_)
            have hP : va_P D vwCl [(nw, .inl (cy 0, 29, .inl f)), (dr, .inl (cy 0, 29, .inl (upd (upd (fa_fill (fun _ => nI 0) gd z1) 0 (nI 0)) 1 (nI 0)))), (mt, .inl (cy 0, 100, .inl ft)), (m0, .inr (7, [.ref ml, .ref mm, .ref mit, .ref ms, .int (st), .ref mt, .int (nI 0), .int (nI 1), .int (nI 0), .int (nI (tkE tp tn 0)), .int (nI 0), .int (nI (tkK tp tn 0)), .int (tkV tp tn 0), .ref nw, .ref dr, .ref tr, .ref pa, .int (nI ac), .ref ig, .ref kx, .ref be, .ref tc, .int (nI td)]))] H := hP
            have hD : va_D A [(nw, .inl (cy 0, 29, .inl f)), (dr, .inl (cy 0, 29, .inl (upd (upd (fa_fill (fun _ => nI 0) gd z1) 0 (nI 0)) 1 (nI 0)))), (mt, .inl (cy 0, 100, .inl ft)), (m0, .inr (7, [.ref ml, .ref mm, .ref mit, .ref ms, .int (st), .ref mt, .int (nI 0), .int (nI 1), .int (nI 0), .int (nI (tkE tp tn 0)), .int (nI 0), .int (nI (tkK tp tn 0)), .int (tkV tp tn 0), .ref nw, .ref dr, .ref tr, .ref pa, .int (nI ac), .ref ig, .ref kx, .ref be, .ref tc, .int (nI td)]))] := hD
            refine lv_aload_n hx hb dX7_city_166 rfl (lv_at hl 0 rfl) ?_
            refine q_rV (As := []) (rest := []) ⟨hx, hb, hml, hown, hts⟩ (c_X7_isWell_n l D cy m0 ml mm mit ms mt nw dr tr pa ig kx be tc st (nI 1) (nI 0) (nI (tkE tp tn 0)) (nI 0) (nI (tkK tp tn 0)) (tkV tp tn 0) 0 ac td 0 (by omega)) (cwV 0 hts gX7_city_X7_isWell rfl rfl rfl (by decide +kernel) ⟨Nat.le_of_ble_eq_true rfl, Nat.le_of_ble_eq_true rfl⟩) hP hK [3] rfl 3 rfl rfl rfl rfl hl.1 rfl (Nat.le_of_ble_eq_true rfl) dX7_city_167 ⟨Nat.zero_le _, Nat.zero_le _⟩ (fun r21 hr21 => ?_)
            obtain rfl := hr21
            refine lv_if_ne (tgt := 181) hx hb dX7_city_170 (by decide) (fun c9 => absurd (by decide) c9) (fun _ => ?_)
            refine lv_ldc (v := (-1000100)) hx hb hown (hts _ mX7_city_6) dX7_city_173 ?_
            refine lv_aload_n hx hb dX7_city_175 rfl (lv_at hl 0 rfl) ?_
            refine va_get (D := D) (ci := 7) (v := .int (nI 0)) (C := RX7) (T := TX7) (N := 23) hx hb hts nX7_city_0 hown hK.1 hP 3 rfl rfl 8 (by decide) (hts _ mX7_city_2) (fun _ h9 => h9) rfl dX7_city_176 ?_
            refine lv_isub hx hb dX7_city_179 ?_
            refine q_top (y := (-1000100)) (by decide) ?_
            have hP9 := hP.sub (ws' := [(m0, .inr (7, [.ref ml, .ref mm, .ref mit, .ref ms, .int (st), .ref mt, .int (nI 0), .int (nI 1), .int (nI 0), .int (nI (tkE tp tn 0)), .int (nI 0), .int (nI (tkK tp tn 0)), .int (tkV tp tn 0), .ref nw, .ref dr, .ref tr, .ref pa, .int (nI ac), .ref ig, .ref kx, .ref be, .ref tc, .int (nI td)])), (mt, .inl (cy 0, 100, .inl ft)), (nw, .inl (cy 0, 29, .inl f)), (dr, .inl (cy 0, 29, .inl (upd (upd (fa_fill (fun _ => nI 0) gd z1) 0 (nI 0)) 1 (nI 0))))]) [3, 2, 0, 1] rfl
            have hD9 := hD.sub (ws' := [(m0, .inr (7, [.ref ml, .ref mm, .ref mit, .ref ms, .int (st), .ref mt, .int (nI 0), .int (nI 1), .int (nI 0), .int (nI (tkE tp tn 0)), .int (nI 0), .int (nI (tkK tp tn 0)), .int (tkV tp tn 0), .ref nw, .ref dr, .ref tr, .ref pa, .int (nI ac), .ref ig, .ref kx, .ref be, .ref tc, .int (nI td)])), (mt, .inl (cy 0, 100, .inl ft)), (nw, .inl (cy 0, 29, .inl f)), (dr, .inl (cy 0, 29, .inl (upd (upd (fa_fill (fun _ => nI 0) gd z1) 0 (nI 0)) 1 (nI 0))))]) [3, 2, 0, 1] (by decide) rfl
            exact q_wiret (v := (-1000100)) hx hb hr hlocks dX7_city_180 hP9 hD9 hS (Or.inr ⟨0, 1, _, _, _, _, _, by simp only [pCity, pLaw, htc, Except.bind], by omega, rfl, rfl⟩)
        · have hk1e := c4
          have hk1l := tkK_1 hk1e
          have hb0 := (htp 0 hk1l.1).2
          refine lv_aload_n hx hb dX7_city_44 rfl (lv_at hl 0 rfl) ?_
          refine va_get (D := D) (ci := 7) (v := .int (tkV tp tn 0)) (C := RX7) (T := TX7) (N := 23) hx hb hts nX7_city_0 hown hK.1 hP 2 rfl rfl 12 (by decide) (hts _ mX7_city_7) (fun _ h9 => h9) rfl dX7_city_45 ?_
          refine q_top (y := nI (tp 0)) (hk1l.2.2) ?_
          refine lv_bipush (v := nI 99) hx hb dX7_city_48 (by decide) ?_
          refine q_icmp_ne (tgt := 57) hx hb dX7_city_50 (by decide) (by omega) (by decide) (fun c22 => ?_) (fun c22 => ?_)
          · have htc : pTake tp tn 99 0 = .error (0, 1) := if_neg (fun q => c22 q.2)
            refine lv_iconst (v := nI 0) hx hb dX7_city_57 (by decide) ?_
            refine lv_iconst (v := nI 1) hx hb dX7_city_58 (by decide) ?_
            refine q_wiV (As := [.int (nI 0), .int (nI 1)]) (rest := []) (wr := [(nw, .inl (cy 0, 29, .inl f)), (dr, .inl (cy 0, 29, .inl (fa_fill (fun _ => nI 0) gd z1))), (mt, .inl (cy 0, 100, .inl ft))]) ⟨hx, hb, hml, hown, hts⟩ (c_X7_takes_n l D cy m0 ml mm mit ms mt nw dr tr pa ig kx be tc st fk (-1) (nI (tkE tp tn 0)) (nI 0) (nI (tkK tp tn 0)) (tkV tp tn 0) tn ac td (nI 1)) (cwV 2 hts gX7_city_X7_takes rfl rfl rfl (by decide +kernel) ⟨Nat.le_of_ble_eq_true rfl, Nat.le_of_ble_eq_true rfl⟩) hP hD hS hA hK [2] [0, 1, 3] rfl rfl (by decide) rfl (by decide) (by decide) 2 rfl rfl rfl rfl hl.1 rfl (Nat.le_of_ble_eq_true rfl) dX7_city_59 ⟨Nat.zero_le _, Nat.zero_le _⟩ (fun r23 u24 H locs hr23 hP hD hS => ?_)
            obtain ⟨rfl, rfl⟩ := hr23
            have hP : va_P D vwCl [(nw, .inl (cy 0, 29, .inl f)), (dr, .inl (cy 0, 29, .inl (fa_fill (fun _ => nI 0) gd z1))), (mt, .inl (cy 0, 100, .inl ft)), (m0, .inr (7, [.ref ml, .ref mm, .ref mit, .ref ms, .int (st), .ref mt, .int (nI tn), .int (nI 1), .int (nI 0), .int (nI (tkE tp tn 0)), .int (nI 0), .int (nI (tkK tp tn 0)), .int (tkV tp tn 0), .ref nw, .ref dr, .ref tr, .ref pa, .int (nI ac), .ref ig, .ref kx, .ref be, .ref tc, .int (nI td)]))] H := hP
            have hD : va_D A [(nw, .inl (cy 0, 29, .inl f)), (dr, .inl (cy 0, 29, .inl (fa_fill (fun _ => nI 0) gd z1))), (mt, .inl (cy 0, 100, .inl ft)), (m0, .inr (7, [.ref ml, .ref mm, .ref mit, .ref ms, .int (st), .ref mt, .int (nI tn), .int (nI 1), .int (nI 0), .int (nI (tkE tp tn 0)), .int (nI 0), .int (nI (tkK tp tn 0)), .int (tkV tp tn 0), .ref nw, .ref dr, .ref tr, .ref pa, .int (nI ac), .ref ig, .ref kx, .ref be, .ref tc, .int (nI td)]))] := hD
            refine lv_pop hx hb dX7_city_62 rfl ?_
            refine lv_aload_n hx hb dX7_city_63 rfl (lv_at hl 0 rfl) ?_
            refine va_get (D := D) (ci := 7) (v := .ref dr) (C := RX7) (T := TX7) (N := 23) hx hb hts nX7_city_0 hown hK.1 hP 3 rfl rfl 14 (by decide) (hts _ mX7_city_4) (fun _ h9 => h9) rfl dX7_city_64 ?_
            refine lv_iconst (v := nI 0) hx hb dX7_city_67 (by decide) ?_
            refine lv_aload_n hx hb dX7_city_68 rfl (lv_at hl 0 rfl) ?_
            refine lv_iconst (v := nI 2) hx hb dX7_city_69 (by decide) ?_
            refine lv_bipush (v := nI 6) hx hb dX7_city_70 (by decide) ?_
            refine q_wiV (As := [.int (nI 2), .int (nI 6)]) (rest := [.int (nI 0), .ref dr]) (wr := [(nw, .inl (cy 0, 29, .inl f)), (dr, .inl (cy 0, 29, .inl (fa_fill (fun _ => nI 0) gd z1))), (mt, .inl (cy 0, 100, .inl ft))]) ⟨hx, hb, hml, hown, hts⟩ (c_X7_figure_e l D cy m0 ml mm mit ms mt nw dr tr pa ig kx be tc st (nI 1) (nI 0) (nI (tkE tp tn 0)) (nI 0) (nI (tkK tp tn 0)) (tkV tp tn 0) tn ac td 0 (by omega) (nI 2) (nI 6)) (cwV 2 hts gX7_city_X7_figure rfl rfl rfl (by decide +kernel) ⟨Nat.le_of_ble_eq_true rfl, Nat.le_of_ble_eq_true rfl⟩) hP hD hS hA hK [3] [0, 1, 2] rfl rfl (by decide) rfl (by decide) (by decide) 3 rfl rfl rfl rfl hl.1 rfl (Nat.le_of_ble_eq_true rfl) dX7_city_72 ⟨Nat.zero_le _, Nat.zero_le _⟩ (fun r25 u26 H locs hr25 hP hD hS => ?_)
            obtain ⟨rfl, rfl⟩ := hr25
            have hP : va_P D vwCl [(nw, .inl (cy 0, 29, .inl f)), (dr, .inl (cy 0, 29, .inl (fa_fill (fun _ => nI 0) gd z1))), (mt, .inl (cy 0, 100, .inl ft)), (m0, .inr (7, [.ref ml, .ref mm, .ref mit, .ref ms, .int (st), .ref mt, .int (nI tn), .int (nI 1), .int (nI 0), .int (nI (tkE tp tn 0)), .int (nI 0), .int (nI (tkK tp tn 0)), .int (tkV tp tn 0), .ref nw, .ref dr, .ref tr, .ref pa, .int (nI ac), .ref ig, .ref kx, .ref be, .ref tc, .int (nI td)]))] H := hP
            have hD : va_D A [(nw, .inl (cy 0, 29, .inl f)), (dr, .inl (cy 0, 29, .inl (fa_fill (fun _ => nI 0) gd z1))), (mt, .inl (cy 0, 100, .inl ft)), (m0, .inr (7, [.ref ml, .ref mm, .ref mit, .ref ms, .int (st), .ref mt, .int (nI tn), .int (nI 1), .int (nI 0), .int (nI (tkE tp tn 0)), .int (nI 0), .int (nI (tkK tp tn 0)), .int (tkV tp tn 0), .ref nw, .ref dr, .ref tr, .ref pa, .int (nI ac), .ref ig, .ref kx, .ref be, .ref tc, .int (nI td)]))] := hD
            refine q_iast (j := 0) hx hb hK hP hD hS 1 rfl (by omega) (by decide) dX7_city_75 (fun H locs hP hD hS => ?_)
            have hP : va_P D vwCl [(nw, .inl (cy 0, 29, .inl f)), (dr, .inl (cy 0, 29, .inl (upd (fa_fill (fun _ => nI 0) gd z1) 0 (nI 0)))), (mt, .inl (cy 0, 100, .inl ft)), (m0, .inr (7, [.ref ml, .ref mm, .ref mit, .ref ms, .int (st), .ref mt, .int (nI tn), .int (nI 1), .int (nI 0), .int (nI (tkE tp tn 0)), .int (nI 0), .int (nI (tkK tp tn 0)), .int (tkV tp tn 0), .ref nw, .ref dr, .ref tr, .ref pa, .int (nI ac), .ref ig, .ref kx, .ref be, .ref tc, .int (nI td)]))] H := hP
            have hD : va_D A [(nw, .inl (cy 0, 29, .inl f)), (dr, .inl (cy 0, 29, .inl (upd (fa_fill (fun _ => nI 0) gd z1) 0 (nI 0)))), (mt, .inl (cy 0, 100, .inl ft)), (m0, .inr (7, [.ref ml, .ref mm, .ref mit, .ref ms, .int (st), .ref mt, .int (nI tn), .int (nI 1), .int (nI 0), .int (nI (tkE tp tn 0)), .int (nI 0), .int (nI (tkK tp tn 0)), .int (tkV tp tn 0), .ref nw, .ref dr, .ref tr, .ref pa, .int (nI ac), .ref ig, .ref kx, .ref be, .ref tc, .int (nI td)]))] := hD
            refine lv_aload_n hx hb dX7_city_76 rfl (lv_at hl 0 rfl) ?_
            refine va_get (D := D) (ci := 7) (v := .ref dr) (C := RX7) (T := TX7) (N := 23) hx hb hts nX7_city_0 hown hK.1 hP 3 rfl rfl 14 (by decide) (hts _ mX7_city_4) (fun _ h9 => h9) rfl dX7_city_77 ?_
            refine lv_iconst (v := nI 1) hx hb dX7_city_80 (by decide) ?_
            refine lv_aload_n hx hb dX7_city_81 rfl (lv_at hl 0 rfl) ?_
            refine lv_iconst (v := nI 0) hx hb dX7_city_82 (by decide) ?_
            refine lv_bipush (v := nI 6) hx hb dX7_city_83 (by decide) ?_
            refine q_wiV (As := [.int (nI 0), .int (nI 6)]) (rest := [.int (nI 1), .ref dr]) (wr := [(nw, .inl (cy 0, 29, .inl f)), (dr, .inl (cy 0, 29, .inl (upd (fa_fill (fun _ => nI 0) gd z1) 0 (nI 0)))), (mt, .inl (cy 0, 100, .inl ft))]) ⟨hx, hb, hml, hown, hts⟩ (c_X7_next_e l D cy m0 ml mm mit ms mt nw dr tr pa ig kx be tc st (nI 1) (nI 0) (nI (tkE tp tn 0)) (nI 0) (nI (tkK tp tn 0)) (tkV tp tn 0) tn ac td 0 (by omega) (nI 0) (nI 6)) (cwV 2 hts gX7_city_X7_next rfl rfl rfl (by decide +kernel) ⟨Nat.le_of_ble_eq_true rfl, Nat.le_of_ble_eq_true rfl⟩) hP hD hS hA hK [3] [0, 1, 2] rfl rfl (by decide) rfl (by decide) (by decide) 3 rfl rfl rfl rfl hl.1 rfl (Nat.le_of_ble_eq_true rfl) dX7_city_85 ⟨Nat.zero_le _, Nat.zero_le _⟩ (fun r27 u28 H locs hr27 hP hD hS => ?_)
            obtain ⟨rfl, rfl⟩ := hr27
            have hP : va_P D vwCl [(nw, .inl (cy 0, 29, .inl f)), (dr, .inl (cy 0, 29, .inl (upd (fa_fill (fun _ => nI 0) gd z1) 0 (nI 0)))), (mt, .inl (cy 0, 100, .inl ft)), (m0, .inr (7, [.ref ml, .ref mm, .ref mit, .ref ms, .int (st), .ref mt, .int (nI tn), .int (nI 1), .int (nI 0), .int (nI (tkE tp tn 0)), .int (nI 0), .int (nI (tkK tp tn 0)), .int (tkV tp tn 0), .ref nw, .ref dr, .ref tr, .ref pa, .int (nI ac), .ref ig, .ref kx, .ref be, .ref tc, .int (nI td)]))] H := hP
            have hD : va_D A [(nw, .inl (cy 0, 29, .inl f)), (dr, .inl (cy 0, 29, .inl (upd (fa_fill (fun _ => nI 0) gd z1) 0 (nI 0)))), (mt, .inl (cy 0, 100, .inl ft)), (m0, .inr (7, [.ref ml, .ref mm, .ref mit, .ref ms, .int (st), .ref mt, .int (nI tn), .int (nI 1), .int (nI 0), .int (nI (tkE tp tn 0)), .int (nI 0), .int (nI (tkK tp tn 0)), .int (tkV tp tn 0), .ref nw, .ref dr, .ref tr, .ref pa, .int (nI ac), .ref ig, .ref kx, .ref be, .ref tc, .int (nI td)]))] := hD
            refine q_iast (j := 1) hx hb hK hP hD hS 1 rfl (by omega) (by decide) dX7_city_88 (fun H locs hP hD hS => ?_)
            have hP : va_P D vwCl [(nw, .inl (cy 0, 29, .inl f)), (dr, .inl (cy 0, 29, .inl (upd (upd (fa_fill (fun _ => nI 0) gd z1) 0 (nI 0)) 1 (nI 0)))), (mt, .inl (cy 0, 100, .inl ft)), (m0, .inr (7, [.ref ml, .ref mm, .ref mit, .ref ms, .int (st), .ref mt, .int (nI tn), .int (nI 1), .int (nI 0), .int (nI (tkE tp tn 0)), .int (nI 0), .int (nI (tkK tp tn 0)), .int (tkV tp tn 0), .ref nw, .ref dr, .ref tr, .ref pa, .int (nI ac), .ref ig, .ref kx, .ref be, .ref tc, .int (nI td)]))] H := hP
            have hD : va_D A [(nw, .inl (cy 0, 29, .inl f)), (dr, .inl (cy 0, 29, .inl (upd (upd (fa_fill (fun _ => nI 0) gd z1) 0 (nI 0)) 1 (nI 0)))), (mt, .inl (cy 0, 100, .inl ft)), (m0, .inr (7, [.ref ml, .ref mm, .ref mit, .ref ms, .int (st), .ref mt, .int (nI tn), .int (nI 1), .int (nI 0), .int (nI (tkE tp tn 0)), .int (nI 0), .int (nI (tkK tp tn 0)), .int (tkV tp tn 0), .ref nw, .ref dr, .ref tr, .ref pa, .int (nI ac), .ref ig, .ref kx, .ref be, .ref tc, .int (nI td)]))] := hD
            refine lv_aload_n hx hb dX7_city_89 rfl (lv_at hl 0 rfl) ?_
            refine lv_aload_n hx hb dX7_city_90 rfl (lv_at hl 0 rfl) ?_
            refine va_get (D := D) (ci := 7) (v := .int (nI (tkK tp tn 0))) (C := RX7) (T := TX7) (N := 23) hx hb hts nX7_city_0 hown hK.1 hP 3 rfl rfl 11 (by decide) (hts _ mX7_city_3) (fun _ h9 => h9) rfl dX7_city_91 ?_
            have hkl94 := tkK_le tp tn 0
            refine lv_iconst (v := nI 4) hx hb dX7_city_94 (by decide) ?_
            refine q_icmp_ne (tgt := 102) hx hb dX7_city_95 (by decide) (by omega) (by decide) (fun c29 => ?_) (fun c29 => ?_)
            · refine lv_iconst (v := nI 0) hx hb dX7_city_102 (by decide) ?_
              refine lv_iconst (v := nI 1) hx hb dX7_city_103 (by decide) ?_
              refine q_wiV (As := [.int (nI 0), .int (nI 1)]) (rest := []) (wr := [(nw, .inl (cy 0, 29, .inl f)), (dr, .inl (cy 0, 29, .inl (upd (upd (fa_fill (fun _ => nI 0) gd z1) 0 (nI 0)) 1 (nI 0)))), (mt, .inl (cy 0, 100, .inl ft))]) ⟨hx, hb, hml, hown, hts⟩ (c_X7_takes_e l D cy m0 ml mm mit ms mt nw dr tr pa ig kx be tc st (nI 1) (nI 0) (nI (tkE tp tn 0)) (nI 0) (nI (tkK tp tn 0)) (tkV tp tn 0) tn ac td 0 (by omega) (nI 0) (nI 1)) (cwV 2 hts gX7_city_X7_takes rfl rfl rfl (by decide +kernel) ⟨Nat.le_of_ble_eq_true rfl, Nat.le_of_ble_eq_true rfl⟩) hP hD hS hA hK [3] [0, 1, 2] rfl rfl (by decide) rfl (by decide) (by decide) 3 rfl rfl rfl rfl hl.1 rfl (Nat.le_of_ble_eq_true rfl) dX7_city_104 ⟨Nat.zero_le _, Nat.zero_le _⟩ (fun r30 u31 H locs hr30 hP hD hS => ?_)
              obtain ⟨rfl, rfl⟩ := hr30
              have hP : va_P D vwCl [(nw, .inl (cy 0, 29, .inl f)), (dr, .inl (cy 0, 29, .inl (upd (upd (fa_fill (fun _ => nI 0) gd z1) 0 (nI 0)) 1 (nI 0)))), (mt, .inl (cy 0, 100, .inl ft)), (m0, .inr (7, [.ref ml, .ref mm, .ref mit, .ref ms, .int (st), .ref mt, .int (nI tn), .int (nI 1), .int (nI 0), .int (nI (tkE tp tn 0)), .int (nI 0), .int (nI (tkK tp tn 0)), .int (tkV tp tn 0), .ref nw, .ref dr, .ref tr, .ref pa, .int (nI ac), .ref ig, .ref kx, .ref be, .ref tc, .int (nI td)]))] H := hP
              have hD : va_D A [(nw, .inl (cy 0, 29, .inl f)), (dr, .inl (cy 0, 29, .inl (upd (upd (fa_fill (fun _ => nI 0) gd z1) 0 (nI 0)) 1 (nI 0)))), (mt, .inl (cy 0, 100, .inl ft)), (m0, .inr (7, [.ref ml, .ref mm, .ref mit, .ref ms, .int (st), .ref mt, .int (nI tn), .int (nI 1), .int (nI 0), .int (nI (tkE tp tn 0)), .int (nI 0), .int (nI (tkK tp tn 0)), .int (tkV tp tn 0), .ref nw, .ref dr, .ref tr, .ref pa, .int (nI ac), .ref ig, .ref kx, .ref be, .ref tc, .int (nI td)]))] := hD
              refine lv_pop hx hb dX7_city_107 rfl ?_
              refine lv_aload_n hx hb dX7_city_108 rfl (lv_at hl 0 rfl) ?_
              refine q_rV (As := []) (rest := []) ⟨hx, hb, hml, hown, hts⟩ (c_X7_isWell_n l D cy m0 ml mm mit ms mt nw dr tr pa ig kx be tc st (nI 1) (nI 0) (nI (tkE tp tn 0)) (nI 0) (nI (tkK tp tn 0)) (tkV tp tn 0) tn ac td 0 (by omega)) (cwV 0 hts gX7_city_X7_isWell rfl rfl rfl (by decide +kernel) ⟨Nat.le_of_ble_eq_true rfl, Nat.le_of_ble_eq_true rfl⟩) hP hK [3] rfl 3 rfl rfl rfl rfl hl.1 rfl (Nat.le_of_ble_eq_true rfl) dX7_city_109 ⟨Nat.zero_le _, Nat.zero_le _⟩ (fun r32 hr32 => ?_)
              obtain rfl := hr32
              refine lv_if_eq (tgt := 140) hx hb dX7_city_112 (by decide) (fun _ => ?_) (fun c9 => absurd (by decide) c9)
              refine lv_aload_n hx hb dX7_city_140 rfl (lv_at hl 0 rfl) ?_
              refine q_rV (As := []) (rest := []) ⟨hx, hb, hml, hown, hts⟩ (c_X7_isWell_n l D cy m0 ml mm mit ms mt nw dr tr pa ig kx be tc st (nI 1) (nI 0) (nI (tkE tp tn 0)) (nI 0) (nI (tkK tp tn 0)) (tkV tp tn 0) tn ac td 0 (by omega)) (cwV 0 hts gX7_city_X7_isWell rfl rfl rfl (by decide +kernel) ⟨Nat.le_of_ble_eq_true rfl, Nat.le_of_ble_eq_true rfl⟩) hP hK [3] rfl 3 rfl rfl rfl rfl hl.1 rfl (Nat.le_of_ble_eq_true rfl) dX7_city_141 ⟨Nat.zero_le _, Nat.zero_le _⟩ (fun r33 hr33 => ?_)
              obtain rfl := hr33
              refine lv_if_eq (tgt := 161) hx hb dX7_city_144 (by decide) (fun _ => ?_) (fun c9 => absurd (by decide) c9)
              refine lv_aload_n hx hb dX7_city_161 rfl (lv_at hl 0 rfl) ?_
              refine lv_iconst (v := nI 0) hx hb dX7_city_162 (by decide) ?_
              refine va_put (D := D) (ci := 7) (v := .int (nI 0)) (ty := .int) (C := RX7) (T := TX7) (N := 23) hx hb hts nX7_city_0 tyX7 tyX7_ok nmX7 hown hK.1 hP hD hS 3 rfl rfl 6 (by decide) (hts _ mX7_city_5) (fun _ h9 => h9) rfl (by decide +kernel) rfl rfl (Nat.le_of_ble_eq_true rfl) dX7_city_163 (fun H locs hP hD hS => ?_)
              have hP : va_P D vwCl [(nw, .inl (cy 0, 29, .inl f)), (dr, .inl (cy 0, 29, .inl (upd (upd (fa_fill (fun _ => nI 0) gd z1) 0 (nI 0)) 1 (nI 0)))), (mt, .inl (cy 0, 100, .inl ft)), (m0, .inr (7, [.ref ml, .ref mm, .ref mit, .ref ms, .int (st), .ref mt, .int (nI 0), .int (nI 1), .int (nI 0), .int (nI (tkE tp tn 0)), .int (nI 0), .int (nI (tkK tp tn 0)), .int (tkV tp tn 0), .ref nw, .ref dr, .ref tr, .ref pa, .int (nI ac), .ref ig, .ref kx, .ref be, .ref tc, .int (nI td)]))] H := hP
              have hD : va_D A [(nw, .inl (cy 0, 29, .inl f)), (dr, .inl (cy 0, 29, .inl (upd (upd (fa_fill (fun _ => nI 0) gd z1) 0 (nI 0)) 1 (nI 0)))), (mt, .inl (cy 0, 100, .inl ft)), (m0, .inr (7, [.ref ml, .ref mm, .ref mit, .ref ms, .int (st), .ref mt, .int (nI 0), .int (nI 1), .int (nI 0), .int (nI (tkE tp tn 0)), .int (nI 0), .int (nI (tkK tp tn 0)), .int (tkV tp tn 0), .ref nw, .ref dr, .ref tr, .ref pa, .int (nI ac), .ref ig, .ref kx, .ref be, .ref tc, .int (nI td)]))] := hD
              refine lv_aload_n hx hb dX7_city_166 rfl (lv_at hl 0 rfl) ?_
              refine q_rV (As := []) (rest := []) ⟨hx, hb, hml, hown, hts⟩ (c_X7_isWell_n l D cy m0 ml mm mit ms mt nw dr tr pa ig kx be tc st (nI 1) (nI 0) (nI (tkE tp tn 0)) (nI 0) (nI (tkK tp tn 0)) (tkV tp tn 0) 0 ac td 0 (by omega)) (cwV 0 hts gX7_city_X7_isWell rfl rfl rfl (by decide +kernel) ⟨Nat.le_of_ble_eq_true rfl, Nat.le_of_ble_eq_true rfl⟩) hP hK [3] rfl 3 rfl rfl rfl rfl hl.1 rfl (Nat.le_of_ble_eq_true rfl) dX7_city_167 ⟨Nat.zero_le _, Nat.zero_le _⟩ (fun r34 hr34 => ?_)
              obtain rfl := hr34
              refine lv_if_ne (tgt := 181) hx hb dX7_city_170 (by decide) (fun c9 => absurd (by decide) c9) (fun _ => ?_)
              refine lv_ldc (v := (-1000100)) hx hb hown (hts _ mX7_city_6) dX7_city_173 ?_
              refine lv_aload_n hx hb dX7_city_175 rfl (lv_at hl 0 rfl) ?_
              refine va_get (D := D) (ci := 7) (v := .int (nI 0)) (C := RX7) (T := TX7) (N := 23) hx hb hts nX7_city_0 hown hK.1 hP 3 rfl rfl 8 (by decide) (hts _ mX7_city_2) (fun _ h9 => h9) rfl dX7_city_176 ?_
              refine lv_isub hx hb dX7_city_179 ?_
              refine q_top (y := (-1000100)) (by decide) ?_
              have hP9 := hP.sub (ws' := [(m0, .inr (7, [.ref ml, .ref mm, .ref mit, .ref ms, .int (st), .ref mt, .int (nI 0), .int (nI 1), .int (nI 0), .int (nI (tkE tp tn 0)), .int (nI 0), .int (nI (tkK tp tn 0)), .int (tkV tp tn 0), .ref nw, .ref dr, .ref tr, .ref pa, .int (nI ac), .ref ig, .ref kx, .ref be, .ref tc, .int (nI td)])), (mt, .inl (cy 0, 100, .inl ft)), (nw, .inl (cy 0, 29, .inl f)), (dr, .inl (cy 0, 29, .inl (upd (upd (fa_fill (fun _ => nI 0) gd z1) 0 (nI 0)) 1 (nI 0))))]) [3, 2, 0, 1] rfl
              have hD9 := hD.sub (ws' := [(m0, .inr (7, [.ref ml, .ref mm, .ref mit, .ref ms, .int (st), .ref mt, .int (nI 0), .int (nI 1), .int (nI 0), .int (nI (tkE tp tn 0)), .int (nI 0), .int (nI (tkK tp tn 0)), .int (tkV tp tn 0), .ref nw, .ref dr, .ref tr, .ref pa, .int (nI ac), .ref ig, .ref kx, .ref be, .ref tc, .int (nI td)])), (mt, .inl (cy 0, 100, .inl ft)), (nw, .inl (cy 0, 29, .inl f)), (dr, .inl (cy 0, 29, .inl (upd (upd (fa_fill (fun _ => nI 0) gd z1) 0 (nI 0)) 1 (nI 0))))]) [3, 2, 0, 1] (by decide) rfl
              exact q_wiret (v := (-1000100)) hx hb hr hlocks dX7_city_180 hP9 hD9 hS (Or.inr ⟨0, 1, _, _, _, _, _, by simp only [pCity, pLaw, htc, Except.bind], by omega, rfl, rfl⟩)
            · refine lv_iconst (v := nI 1) hx hb dX7_city_98 (by decide) ?_
              refine lv_goto (tgt := 103) hx hb dX7_city_99 (by decide) ?_
              refine lv_iconst (v := nI 1) hx hb dX7_city_103 (by decide) ?_
              refine q_wiV (As := [.int (nI 1), .int (nI 1)]) (rest := []) (wr := [(nw, .inl (cy 0, 29, .inl f)), (dr, .inl (cy 0, 29, .inl (upd (upd (fa_fill (fun _ => nI 0) gd z1) 0 (nI 0)) 1 (nI 0)))), (mt, .inl (cy 0, 100, .inl ft))]) ⟨hx, hb, hml, hown, hts⟩ (c_X7_takes_e l D cy m0 ml mm mit ms mt nw dr tr pa ig kx be tc st (nI 1) (nI 0) (nI (tkE tp tn 0)) (nI 0) (nI (tkK tp tn 0)) (tkV tp tn 0) tn ac td 0 (by omega) (nI 1) (nI 1)) (cwV 2 hts gX7_city_X7_takes rfl rfl rfl (by decide +kernel) ⟨Nat.le_of_ble_eq_true rfl, Nat.le_of_ble_eq_true rfl⟩) hP hD hS hA hK [3] [0, 1, 2] rfl rfl (by decide) rfl (by decide) (by decide) 3 rfl rfl rfl rfl hl.1 rfl (Nat.le_of_ble_eq_true rfl) dX7_city_104 ⟨Nat.zero_le _, Nat.zero_le _⟩ (fun r35 u36 H locs hr35 hP hD hS => ?_)
              obtain ⟨rfl, rfl⟩ := hr35
              have hP : va_P D vwCl [(nw, .inl (cy 0, 29, .inl f)), (dr, .inl (cy 0, 29, .inl (upd (upd (fa_fill (fun _ => nI 0) gd z1) 0 (nI 0)) 1 (nI 0)))), (mt, .inl (cy 0, 100, .inl ft)), (m0, .inr (7, [.ref ml, .ref mm, .ref mit, .ref ms, .int (st), .ref mt, .int (nI tn), .int (nI 1), .int (nI 0), .int (nI (tkE tp tn 0)), .int (nI 0), .int (nI (tkK tp tn 0)), .int (tkV tp tn 0), .ref nw, .ref dr, .ref tr, .ref pa, .int (nI ac), .ref ig, .ref kx, .ref be, .ref tc, .int (nI td)]))] H := hP
              have hD : va_D A [(nw, .inl (cy 0, 29, .inl f)), (dr, .inl (cy 0, 29, .inl (upd (upd (fa_fill (fun _ => nI 0) gd z1) 0 (nI 0)) 1 (nI 0)))), (mt, .inl (cy 0, 100, .inl ft)), (m0, .inr (7, [.ref ml, .ref mm, .ref mit, .ref ms, .int (st), .ref mt, .int (nI tn), .int (nI 1), .int (nI 0), .int (nI (tkE tp tn 0)), .int (nI 0), .int (nI (tkK tp tn 0)), .int (tkV tp tn 0), .ref nw, .ref dr, .ref tr, .ref pa, .int (nI ac), .ref ig, .ref kx, .ref be, .ref tc, .int (nI td)]))] := hD
              refine lv_pop hx hb dX7_city_107 rfl ?_
              refine lv_aload_n hx hb dX7_city_108 rfl (lv_at hl 0 rfl) ?_
              refine q_rV (As := []) (rest := []) ⟨hx, hb, hml, hown, hts⟩ (c_X7_isWell_n l D cy m0 ml mm mit ms mt nw dr tr pa ig kx be tc st (nI 1) (nI 0) (nI (tkE tp tn 0)) (nI 0) (nI (tkK tp tn 0)) (tkV tp tn 0) tn ac td 0 (by omega)) (cwV 0 hts gX7_city_X7_isWell rfl rfl rfl (by decide +kernel) ⟨Nat.le_of_ble_eq_true rfl, Nat.le_of_ble_eq_true rfl⟩) hP hK [3] rfl 3 rfl rfl rfl rfl hl.1 rfl (Nat.le_of_ble_eq_true rfl) dX7_city_109 ⟨Nat.zero_le _, Nat.zero_le _⟩ (fun r37 hr37 => ?_)
              obtain rfl := hr37
              refine lv_if_eq (tgt := 140) hx hb dX7_city_112 (by decide) (fun _ => ?_) (fun c9 => absurd (by decide) c9)
              refine lv_aload_n hx hb dX7_city_140 rfl (lv_at hl 0 rfl) ?_
              refine q_rV (As := []) (rest := []) ⟨hx, hb, hml, hown, hts⟩ (c_X7_isWell_n l D cy m0 ml mm mit ms mt nw dr tr pa ig kx be tc st (nI 1) (nI 0) (nI (tkE tp tn 0)) (nI 0) (nI (tkK tp tn 0)) (tkV tp tn 0) tn ac td 0 (by omega)) (cwV 0 hts gX7_city_X7_isWell rfl rfl rfl (by decide +kernel) ⟨Nat.le_of_ble_eq_true rfl, Nat.le_of_ble_eq_true rfl⟩) hP hK [3] rfl 3 rfl rfl rfl rfl hl.1 rfl (Nat.le_of_ble_eq_true rfl) dX7_city_141 ⟨Nat.zero_le _, Nat.zero_le _⟩ (fun r38 hr38 => ?_)
              obtain rfl := hr38
              refine lv_if_eq (tgt := 161) hx hb dX7_city_144 (by decide) (fun _ => ?_) (fun c9 => absurd (by decide) c9)
              refine lv_aload_n hx hb dX7_city_161 rfl (lv_at hl 0 rfl) ?_
              refine lv_iconst (v := nI 0) hx hb dX7_city_162 (by decide) ?_
              refine va_put (D := D) (ci := 7) (v := .int (nI 0)) (ty := .int) (C := RX7) (T := TX7) (N := 23) hx hb hts nX7_city_0 tyX7 tyX7_ok nmX7 hown hK.1 hP hD hS 3 rfl rfl 6 (by decide) (hts _ mX7_city_5) (fun _ h9 => h9) rfl (by decide +kernel) rfl rfl (Nat.le_of_ble_eq_true rfl) dX7_city_163 (fun H locs hP hD hS => ?_)
              have hP : va_P D vwCl [(nw, .inl (cy 0, 29, .inl f)), (dr, .inl (cy 0, 29, .inl (upd (upd (fa_fill (fun _ => nI 0) gd z1) 0 (nI 0)) 1 (nI 0)))), (mt, .inl (cy 0, 100, .inl ft)), (m0, .inr (7, [.ref ml, .ref mm, .ref mit, .ref ms, .int (st), .ref mt, .int (nI 0), .int (nI 1), .int (nI 0), .int (nI (tkE tp tn 0)), .int (nI 0), .int (nI (tkK tp tn 0)), .int (tkV tp tn 0), .ref nw, .ref dr, .ref tr, .ref pa, .int (nI ac), .ref ig, .ref kx, .ref be, .ref tc, .int (nI td)]))] H := hP
              have hD : va_D A [(nw, .inl (cy 0, 29, .inl f)), (dr, .inl (cy 0, 29, .inl (upd (upd (fa_fill (fun _ => nI 0) gd z1) 0 (nI 0)) 1 (nI 0)))), (mt, .inl (cy 0, 100, .inl ft)), (m0, .inr (7, [.ref ml, .ref mm, .ref mit, .ref ms, .int (st), .ref mt, .int (nI 0), .int (nI 1), .int (nI 0), .int (nI (tkE tp tn 0)), .int (nI 0), .int (nI (tkK tp tn 0)), .int (tkV tp tn 0), .ref nw, .ref dr, .ref tr, .ref pa, .int (nI ac), .ref ig, .ref kx, .ref be, .ref tc, .int (nI td)]))] := hD
              refine lv_aload_n hx hb dX7_city_166 rfl (lv_at hl 0 rfl) ?_
              refine q_rV (As := []) (rest := []) ⟨hx, hb, hml, hown, hts⟩ (c_X7_isWell_n l D cy m0 ml mm mit ms mt nw dr tr pa ig kx be tc st (nI 1) (nI 0) (nI (tkE tp tn 0)) (nI 0) (nI (tkK tp tn 0)) (tkV tp tn 0) 0 ac td 0 (by omega)) (cwV 0 hts gX7_city_X7_isWell rfl rfl rfl (by decide +kernel) ⟨Nat.le_of_ble_eq_true rfl, Nat.le_of_ble_eq_true rfl⟩) hP hK [3] rfl 3 rfl rfl rfl rfl hl.1 rfl (Nat.le_of_ble_eq_true rfl) dX7_city_167 ⟨Nat.zero_le _, Nat.zero_le _⟩ (fun r39 hr39 => ?_)
              obtain rfl := hr39
              refine lv_if_ne (tgt := 181) hx hb dX7_city_170 (by decide) (fun c9 => absurd (by decide) c9) (fun _ => ?_)
              refine lv_ldc (v := (-1000100)) hx hb hown (hts _ mX7_city_6) dX7_city_173 ?_
              refine lv_aload_n hx hb dX7_city_175 rfl (lv_at hl 0 rfl) ?_
              refine va_get (D := D) (ci := 7) (v := .int (nI 0)) (C := RX7) (T := TX7) (N := 23) hx hb hts nX7_city_0 hown hK.1 hP 3 rfl rfl 8 (by decide) (hts _ mX7_city_2) (fun _ h9 => h9) rfl dX7_city_176 ?_
              refine lv_isub hx hb dX7_city_179 ?_
              refine q_top (y := (-1000100)) (by decide) ?_
              have hP9 := hP.sub (ws' := [(m0, .inr (7, [.ref ml, .ref mm, .ref mit, .ref ms, .int (st), .ref mt, .int (nI 0), .int (nI 1), .int (nI 0), .int (nI (tkE tp tn 0)), .int (nI 0), .int (nI (tkK tp tn 0)), .int (tkV tp tn 0), .ref nw, .ref dr, .ref tr, .ref pa, .int (nI ac), .ref ig, .ref kx, .ref be, .ref tc, .int (nI td)])), (mt, .inl (cy 0, 100, .inl ft)), (nw, .inl (cy 0, 29, .inl f)), (dr, .inl (cy 0, 29, .inl (upd (upd (fa_fill (fun _ => nI 0) gd z1) 0 (nI 0)) 1 (nI 0))))]) [3, 2, 0, 1] rfl
              have hD9 := hD.sub (ws' := [(m0, .inr (7, [.ref ml, .ref mm, .ref mit, .ref ms, .int (st), .ref mt, .int (nI 0), .int (nI 1), .int (nI 0), .int (nI (tkE tp tn 0)), .int (nI 0), .int (nI (tkK tp tn 0)), .int (tkV tp tn 0), .ref nw, .ref dr, .ref tr, .ref pa, .int (nI ac), .ref ig, .ref kx, .ref be, .ref tc, .int (nI td)])), (mt, .inl (cy 0, 100, .inl ft)), (nw, .inl (cy 0, 29, .inl f)), (dr, .inl (cy 0, 29, .inl (upd (upd (fa_fill (fun _ => nI 0) gd z1) 0 (nI 0)) 1 (nI 0))))]) [3, 2, 0, 1] (by decide) rfl
              exact q_wiret (v := (-1000100)) hx hb hr hlocks dX7_city_180 hP9 hD9 hS (Or.inr ⟨0, 1, _, _, _, _, _, by simp only [pCity, pLaw, htc, Except.bind], by omega, rfl, rfl⟩)
          · have htc : pTake tp tn 99 0 = .ok 1 := if_pos ⟨hk1l.1, c22⟩
            have htce : tkE tp tn 0 = 1 := tkL_e hk1e
            refine lv_iconst (v := nI 1) hx hb dX7_city_53 (by decide) ?_
            refine lv_goto (tgt := 58) hx hb dX7_city_54 (by decide) ?_
            refine lv_iconst (v := nI 1) hx hb dX7_city_58 (by decide) ?_
            refine q_wiV (As := [.int (nI 1), .int (nI 1)]) (rest := []) (wr := [(nw, .inl (cy 0, 29, .inl f)), (dr, .inl (cy 0, 29, .inl (fa_fill (fun _ => nI 0) gd z1)))]) ⟨hx, hb, hml, hown, hts⟩ (c_X7_takes_y l D cy m0 ml mm mit ms mt nw dr tr pa ig kx be tc st fk (-1) (nI (tkE tp tn 0)) (nI 0) (nI (tkK tp tn 0)) (tkV tp tn 0) tn ac td ft tp htn htp (tkE tp tn 0) (by omega) (nI 1)) (cwV 2 hts gX7_city_X7_takes rfl rfl rfl (by decide +kernel) ⟨Nat.le_of_ble_eq_true rfl, Nat.le_of_ble_eq_true rfl⟩) hP hD hS hA hK [2, 3] [0, 1] rfl rfl (by decide) rfl (by decide) (by decide) 2 rfl rfl rfl rfl hl.1 rfl (Nat.le_of_ble_eq_true rfl) dX7_city_59 ⟨Nat.zero_le _, Nat.zero_le _⟩ (fun r40 u41 H locs hr40 hP hD hS => ?_)
            obtain ⟨rfl, rfl⟩ := hr40
            have hP : va_P D vwCl [(nw, .inl (cy 0, 29, .inl f)), (dr, .inl (cy 0, 29, .inl (fa_fill (fun _ => nI 0) gd z1))), (m0, .inr (7, [.ref ml, .ref mm, .ref mit, .ref ms, .int (st), .ref mt, .int (nI tn), .int (fk), .int ((-1)), .int (nI (tkE tp tn (tkE tp tn 0))), .int (nI (tkE tp tn 0)), .int (nI (tkK tp tn (tkE tp tn 0))), .int (tkV tp tn (tkE tp tn 0)), .ref nw, .ref dr, .ref tr, .ref pa, .int (nI ac), .ref ig, .ref kx, .ref be, .ref tc, .int (nI td)])), (mt, .inl (cy 0, 100, .inl ft))] H := hP
            have hD : va_D A [(nw, .inl (cy 0, 29, .inl f)), (dr, .inl (cy 0, 29, .inl (fa_fill (fun _ => nI 0) gd z1))), (m0, .inr (7, [.ref ml, .ref mm, .ref mit, .ref ms, .int (st), .ref mt, .int (nI tn), .int (fk), .int ((-1)), .int (nI (tkE tp tn (tkE tp tn 0))), .int (nI (tkE tp tn 0)), .int (nI (tkK tp tn (tkE tp tn 0))), .int (tkV tp tn (tkE tp tn 0)), .ref nw, .ref dr, .ref tr, .ref pa, .int (nI ac), .ref ig, .ref kx, .ref be, .ref tc, .int (nI td)])), (mt, .inl (cy 0, 100, .inl ft))] := hD
            refine lv_pop hx hb dX7_city_62 rfl ?_
            refine lv_aload_n hx hb dX7_city_63 rfl (lv_at hl 0 rfl) ?_
            refine va_get (D := D) (ci := 7) (v := .ref dr) (C := RX7) (T := TX7) (N := 23) hx hb hts nX7_city_0 hown hK.1 hP 2 rfl rfl 14 (by decide) (hts _ mX7_city_4) (fun _ h9 => h9) rfl dX7_city_64 ?_
            refine lv_iconst (v := nI 0) hx hb dX7_city_67 (by decide) ?_
            refine lv_aload_n hx hb dX7_city_68 rfl (lv_at hl 0 rfl) ?_
            refine lv_iconst (v := nI 2) hx hb dX7_city_69 (by decide) ?_
            refine lv_bipush (v := nI 6) hx hb dX7_city_70 (by decide) ?_
            refine q_wiV (As := [.int (nI 2), .int (nI 6)]) (rest := [.int (nI 0), .ref dr]) (wr := [(nw, .inl (cy 0, 29, .inl f)), (dr, .inl (cy 0, 29, .inl (fa_fill (fun _ => nI 0) gd z1)))]) ⟨hx, hb, hml, hown, hts⟩ (c_X7_figure_k l D cy m0 ml mm mit ms mt nw dr tr pa ig kx be tc st fk (-1) (nI (tkE tp tn (tkE tp tn 0))) (nI (tkE tp tn 0)) (nI (tkK tp tn (tkE tp tn 0))) (tkV tp tn (tkE tp tn 0)) tn ac td ft tp htn htp (tkE tp tn 0) (by omega) 2 6 (by omega) (by omega)) (cwV 2 hts gX7_city_X7_figure rfl rfl rfl (by decide +kernel) ⟨Nat.le_of_ble_eq_true rfl, Nat.le_of_ble_eq_true rfl⟩) hP hD hS hA hK [2, 3] [0, 1] rfl rfl (by decide) rfl (by decide) (by decide) 2 rfl rfl rfl rfl hl.1 rfl (Nat.le_of_ble_eq_true rfl) dX7_city_72 ⟨Nat.zero_le _, Nat.zero_le _⟩ (fun r42 u43 H locs hr42 hP hD hS => ?_)
            rcases hr42 with ⟨q1, v1, hn1, hq1a, hq1b, hv1a, hv1b, rfl, rfl⟩ | ⟨k1, hn1, rfl, rfl⟩
            · rw [htce] at hn1
              have hP : va_P D vwCl [(nw, .inl (cy 0, 29, .inl f)), (dr, .inl (cy 0, 29, .inl (fa_fill (fun _ => nI 0) gd z1))), (m0, .inr (7, [.ref ml, .ref mm, .ref mit, .ref ms, .int (st), .ref mt, .int (nI tn), .int (fk), .int ((-1)), .int (nI (tkE tp tn q1)), .int (nI q1), .int (nI (tkK tp tn q1)), .int (tkV tp tn q1), .ref nw, .ref dr, .ref tr, .ref pa, .int (nI ac), .ref ig, .ref kx, .ref be, .ref tc, .int (nI td)])), (mt, .inl (cy 0, 100, .inl ft))] H := hP
              have hD : va_D A [(nw, .inl (cy 0, 29, .inl f)), (dr, .inl (cy 0, 29, .inl (fa_fill (fun _ => nI 0) gd z1))), (m0, .inr (7, [.ref ml, .ref mm, .ref mit, .ref ms, .int (st), .ref mt, .int (nI tn), .int (fk), .int ((-1)), .int (nI (tkE tp tn q1)), .int (nI q1), .int (nI (tkK tp tn q1)), .int (tkV tp tn q1), .ref nw, .ref dr, .ref tr, .ref pa, .int (nI ac), .ref ig, .ref kx, .ref be, .ref tc, .int (nI td)])), (mt, .inl (cy 0, 100, .inl ft))] := hD
              have hpe1 := tkE_le (tp := tp) hq1b
              refine q_iast (j := 0) hx hb hK hP hD hS 1 rfl (by omega) (by decide) dX7_city_75 (fun H locs hP hD hS => ?_)
              have hP : va_P D vwCl [(nw, .inl (cy 0, 29, .inl f)), (dr, .inl (cy 0, 29, .inl (upd (fa_fill (fun _ => nI 0) gd z1) 0 (nI v1)))), (m0, .inr (7, [.ref ml, .ref mm, .ref mit, .ref ms, .int (st), .ref mt, .int (nI tn), .int (fk), .int ((-1)), .int (nI (tkE tp tn q1)), .int (nI q1), .int (nI (tkK tp tn q1)), .int (tkV tp tn q1), .ref nw, .ref dr, .ref tr, .ref pa, .int (nI ac), .ref ig, .ref kx, .ref be, .ref tc, .int (nI td)])), (mt, .inl (cy 0, 100, .inl ft))] H := hP
              have hD : va_D A [(nw, .inl (cy 0, 29, .inl f)), (dr, .inl (cy 0, 29, .inl (upd (fa_fill (fun _ => nI 0) gd z1) 0 (nI v1)))), (m0, .inr (7, [.ref ml, .ref mm, .ref mit, .ref ms, .int (st), .ref mt, .int (nI tn), .int (fk), .int ((-1)), .int (nI (tkE tp tn q1)), .int (nI q1), .int (nI (tkK tp tn q1)), .int (tkV tp tn q1), .ref nw, .ref dr, .ref tr, .ref pa, .int (nI ac), .ref ig, .ref kx, .ref be, .ref tc, .int (nI td)])), (mt, .inl (cy 0, 100, .inl ft))] := hD
              refine lv_aload_n hx hb dX7_city_76 rfl (lv_at hl 0 rfl) ?_
              refine va_get (D := D) (ci := 7) (v := .ref dr) (C := RX7) (T := TX7) (N := 23) hx hb hts nX7_city_0 hown hK.1 hP 2 rfl rfl 14 (by decide) (hts _ mX7_city_4) (fun _ h9 => h9) rfl dX7_city_77 ?_
              refine lv_iconst (v := nI 1) hx hb dX7_city_80 (by decide) ?_
              refine lv_aload_n hx hb dX7_city_81 rfl (lv_at hl 0 rfl) ?_
              refine lv_iconst (v := nI 0) hx hb dX7_city_82 (by decide) ?_
              refine lv_bipush (v := nI 6) hx hb dX7_city_83 (by decide) ?_
              refine q_wiV (As := [.int (nI 0), .int (nI 6)]) (rest := [.int (nI 1), .ref dr]) (wr := [(nw, .inl (cy 0, 29, .inl f)), (dr, .inl (cy 0, 29, .inl (upd (fa_fill (fun _ => nI 0) gd z1) 0 (nI v1))))]) ⟨hx, hb, hml, hown, hts⟩ (c_X7_next_k l D cy m0 ml mm mit ms mt nw dr tr pa ig kx be tc st fk (-1) (nI (tkE tp tn q1)) (nI q1) (nI (tkK tp tn q1)) (tkV tp tn q1) tn ac td ft tp htn htp q1 (by omega) 0 6 (by omega) (by omega)) (cwV 2 hts gX7_city_X7_next rfl rfl rfl (by decide +kernel) ⟨Nat.le_of_ble_eq_true rfl, Nat.le_of_ble_eq_true rfl⟩) hP hD hS hA hK [2, 3] [0, 1] rfl rfl (by decide) rfl (by decide) (by decide) 2 rfl rfl rfl rfl hl.1 rfl (Nat.le_of_ble_eq_true rfl) dX7_city_85 ⟨Nat.zero_le _, Nat.zero_le _⟩ (fun r44 u45 H locs hr44 hP hD hS => ?_)
              rcases hr44 with ⟨z2, q2, v2, ht2, hn2, hq2a, hq2b, hv2a, hv2b, rfl, rfl⟩ | ⟨q2, k2, e21, e22, e23, e24, hnt2 | ⟨z2, ht2, hn2⟩, hq2b, rfl, rfl⟩
              · have hP : va_P D vwCl [(nw, .inl (cy 0, 29, .inl f)), (dr, .inl (cy 0, 29, .inl (upd (fa_fill (fun _ => nI 0) gd z1) 0 (nI v1)))), (m0, .inr (7, [.ref ml, .ref mm, .ref mit, .ref ms, .int (st), .ref mt, .int (nI tn), .int (fk), .int ((-1)), .int (nI (tkE tp tn q2)), .int (nI q2), .int (nI (tkK tp tn q2)), .int (tkV tp tn q2), .ref nw, .ref dr, .ref tr, .ref pa, .int (nI ac), .ref ig, .ref kx, .ref be, .ref tc, .int (nI td)])), (mt, .inl (cy 0, 100, .inl ft))] H := hP
                have hD : va_D A [(nw, .inl (cy 0, 29, .inl f)), (dr, .inl (cy 0, 29, .inl (upd (fa_fill (fun _ => nI 0) gd z1) 0 (nI v1)))), (m0, .inr (7, [.ref ml, .ref mm, .ref mit, .ref ms, .int (st), .ref mt, .int (nI tn), .int (fk), .int ((-1)), .int (nI (tkE tp tn q2)), .int (nI q2), .int (nI (tkK tp tn q2)), .int (tkV tp tn q2), .ref nw, .ref dr, .ref tr, .ref pa, .int (nI ac), .ref ig, .ref kx, .ref be, .ref tc, .int (nI td)])), (mt, .inl (cy 0, 100, .inl ft))] := hD
                have hpe2 := tkE_le (tp := tp) hq2b
                refine q_iast (j := 1) hx hb hK hP hD hS 1 rfl (by omega) (by decide) dX7_city_88 (fun H locs hP hD hS => ?_)
                have hP : va_P D vwCl [(nw, .inl (cy 0, 29, .inl f)), (dr, .inl (cy 0, 29, .inl (upd (upd (fa_fill (fun _ => nI 0) gd z1) 0 (nI v1)) 1 (nI v2)))), (m0, .inr (7, [.ref ml, .ref mm, .ref mit, .ref ms, .int (st), .ref mt, .int (nI tn), .int (fk), .int ((-1)), .int (nI (tkE tp tn q2)), .int (nI q2), .int (nI (tkK tp tn q2)), .int (tkV tp tn q2), .ref nw, .ref dr, .ref tr, .ref pa, .int (nI ac), .ref ig, .ref kx, .ref be, .ref tc, .int (nI td)])), (mt, .inl (cy 0, 100, .inl ft))] H := hP
                have hD : va_D A [(nw, .inl (cy 0, 29, .inl f)), (dr, .inl (cy 0, 29, .inl (upd (upd (fa_fill (fun _ => nI 0) gd z1) 0 (nI v1)) 1 (nI v2)))), (m0, .inr (7, [.ref ml, .ref mm, .ref mit, .ref ms, .int (st), .ref mt, .int (nI tn), .int (fk), .int ((-1)), .int (nI (tkE tp tn q2)), .int (nI q2), .int (nI (tkK tp tn q2)), .int (tkV tp tn q2), .ref nw, .ref dr, .ref tr, .ref pa, .int (nI ac), .ref ig, .ref kx, .ref be, .ref tc, .int (nI td)])), (mt, .inl (cy 0, 100, .inl ft))] := hD
                refine lv_aload_n hx hb dX7_city_89 rfl (lv_at hl 0 rfl) ?_
                refine lv_aload_n hx hb dX7_city_90 rfl (lv_at hl 0 rfl) ?_
                refine va_get (D := D) (ci := 7) (v := .int (nI (tkK tp tn q2))) (C := RX7) (T := TX7) (N := 23) hx hb hts nX7_city_0 hown hK.1 hP 2 rfl rfl 11 (by decide) (hts _ mX7_city_3) (fun _ h9 => h9) rfl dX7_city_91 ?_
                have hkl94 := tkK_le tp tn q2
                refine lv_iconst (v := nI 4) hx hb dX7_city_94 (by decide) ?_
                refine q_icmp_ne (tgt := 102) hx hb dX7_city_95 (by decide) (by omega) (by decide) (fun c46 => ?_) (fun c46 => ?_)
                · have hts4 := tkK_n4 c46
                  refine lv_iconst (v := nI 0) hx hb dX7_city_102 (by decide) ?_
                  refine lv_iconst (v := nI 1) hx hb dX7_city_103 (by decide) ?_
                  refine q_wiV (As := [.int (nI 0), .int (nI 1)]) (rest := []) (wr := [(nw, .inl (cy 0, 29, .inl f)), (dr, .inl (cy 0, 29, .inl (upd (upd (fa_fill (fun _ => nI 0) gd z1) 0 (nI v1)) 1 (nI v2)))), (mt, .inl (cy 0, 100, .inl ft))]) ⟨hx, hb, hml, hown, hts⟩ (c_X7_takes_n l D cy m0 ml mm mit ms mt nw dr tr pa ig kx be tc st fk (-1) (nI (tkE tp tn q2)) (nI q2) (nI (tkK tp tn q2)) (tkV tp tn q2) tn ac td (nI 1)) (cwV 2 hts gX7_city_X7_takes rfl rfl rfl (by decide +kernel) ⟨Nat.le_of_ble_eq_true rfl, Nat.le_of_ble_eq_true rfl⟩) hP hD hS hA hK [2] [0, 1, 3] rfl rfl (by decide) rfl (by decide) (by decide) 2 rfl rfl rfl rfl hl.1 rfl (Nat.le_of_ble_eq_true rfl) dX7_city_104 ⟨Nat.zero_le _, Nat.zero_le _⟩ (fun r47 u48 H locs hr47 hP hD hS => ?_)
                  obtain ⟨rfl, rfl⟩ := hr47
                  have hP : va_P D vwCl [(nw, .inl (cy 0, 29, .inl f)), (dr, .inl (cy 0, 29, .inl (upd (upd (fa_fill (fun _ => nI 0) gd z1) 0 (nI v1)) 1 (nI v2)))), (mt, .inl (cy 0, 100, .inl ft)), (m0, .inr (7, [.ref ml, .ref mm, .ref mit, .ref ms, .int (st), .ref mt, .int (nI tn), .int (nI 1), .int (nI q2), .int (nI (tkE tp tn q2)), .int (nI q2), .int (nI (tkK tp tn q2)), .int (tkV tp tn q2), .ref nw, .ref dr, .ref tr, .ref pa, .int (nI ac), .ref ig, .ref kx, .ref be, .ref tc, .int (nI td)]))] H := hP
                  have hD : va_D A [(nw, .inl (cy 0, 29, .inl f)), (dr, .inl (cy 0, 29, .inl (upd (upd (fa_fill (fun _ => nI 0) gd z1) 0 (nI v1)) 1 (nI v2)))), (mt, .inl (cy 0, 100, .inl ft)), (m0, .inr (7, [.ref ml, .ref mm, .ref mit, .ref ms, .int (st), .ref mt, .int (nI tn), .int (nI 1), .int (nI q2), .int (nI (tkE tp tn q2)), .int (nI q2), .int (nI (tkK tp tn q2)), .int (tkV tp tn q2), .ref nw, .ref dr, .ref tr, .ref pa, .int (nI ac), .ref ig, .ref kx, .ref be, .ref tc, .int (nI td)]))] := hD
                  refine lv_pop hx hb dX7_city_107 rfl ?_
                  refine lv_aload_n hx hb dX7_city_108 rfl (lv_at hl 0 rfl) ?_
                  refine q_rV (As := []) (rest := []) ⟨hx, hb, hml, hown, hts⟩ (c_X7_isWell_n l D cy m0 ml mm mit ms mt nw dr tr pa ig kx be tc st (nI 1) (nI q2) (nI (tkE tp tn q2)) (nI q2) (nI (tkK tp tn q2)) (tkV tp tn q2) tn ac td q2 (by omega)) (cwV 0 hts gX7_city_X7_isWell rfl rfl rfl (by decide +kernel) ⟨Nat.le_of_ble_eq_true rfl, Nat.le_of_ble_eq_true rfl⟩) hP hK [3] rfl 3 rfl rfl rfl rfl hl.1 rfl (Nat.le_of_ble_eq_true rfl) dX7_city_109 ⟨Nat.zero_le _, Nat.zero_le _⟩ (fun r49 hr49 => ?_)
                  obtain rfl := hr49
                  refine lv_if_eq (tgt := 140) hx hb dX7_city_112 (by decide) (fun _ => ?_) (fun c9 => absurd (by decide) c9)
                  refine lv_aload_n hx hb dX7_city_140 rfl (lv_at hl 0 rfl) ?_
                  refine q_rV (As := []) (rest := []) ⟨hx, hb, hml, hown, hts⟩ (c_X7_isWell_n l D cy m0 ml mm mit ms mt nw dr tr pa ig kx be tc st (nI 1) (nI q2) (nI (tkE tp tn q2)) (nI q2) (nI (tkK tp tn q2)) (tkV tp tn q2) tn ac td q2 (by omega)) (cwV 0 hts gX7_city_X7_isWell rfl rfl rfl (by decide +kernel) ⟨Nat.le_of_ble_eq_true rfl, Nat.le_of_ble_eq_true rfl⟩) hP hK [3] rfl 3 rfl rfl rfl rfl hl.1 rfl (Nat.le_of_ble_eq_true rfl) dX7_city_141 ⟨Nat.zero_le _, Nat.zero_le _⟩ (fun r50 hr50 => ?_)
                  obtain rfl := hr50
                  refine lv_if_eq (tgt := 161) hx hb dX7_city_144 (by decide) (fun _ => ?_) (fun c9 => absurd (by decide) c9)
                  refine lv_aload_n hx hb dX7_city_161 rfl (lv_at hl 0 rfl) ?_
                  refine lv_iconst (v := nI 0) hx hb dX7_city_162 (by decide) ?_
                  refine va_put (D := D) (ci := 7) (v := .int (nI 0)) (ty := .int) (C := RX7) (T := TX7) (N := 23) hx hb hts nX7_city_0 tyX7 tyX7_ok nmX7 hown hK.1 hP hD hS 3 rfl rfl 6 (by decide) (hts _ mX7_city_5) (fun _ h9 => h9) rfl (by decide +kernel) rfl rfl (Nat.le_of_ble_eq_true rfl) dX7_city_163 (fun H locs hP hD hS => ?_)
                  have hP : va_P D vwCl [(nw, .inl (cy 0, 29, .inl f)), (dr, .inl (cy 0, 29, .inl (upd (upd (fa_fill (fun _ => nI 0) gd z1) 0 (nI v1)) 1 (nI v2)))), (mt, .inl (cy 0, 100, .inl ft)), (m0, .inr (7, [.ref ml, .ref mm, .ref mit, .ref ms, .int (st), .ref mt, .int (nI 0), .int (nI 1), .int (nI q2), .int (nI (tkE tp tn q2)), .int (nI q2), .int (nI (tkK tp tn q2)), .int (tkV tp tn q2), .ref nw, .ref dr, .ref tr, .ref pa, .int (nI ac), .ref ig, .ref kx, .ref be, .ref tc, .int (nI td)]))] H := hP
                  have hD : va_D A [(nw, .inl (cy 0, 29, .inl f)), (dr, .inl (cy 0, 29, .inl (upd (upd (fa_fill (fun _ => nI 0) gd z1) 0 (nI v1)) 1 (nI v2)))), (mt, .inl (cy 0, 100, .inl ft)), (m0, .inr (7, [.ref ml, .ref mm, .ref mit, .ref ms, .int (st), .ref mt, .int (nI 0), .int (nI 1), .int (nI q2), .int (nI (tkE tp tn q2)), .int (nI q2), .int (nI (tkK tp tn q2)), .int (tkV tp tn q2), .ref nw, .ref dr, .ref tr, .ref pa, .int (nI ac), .ref ig, .ref kx, .ref be, .ref tc, .int (nI td)]))] := hD
                  refine lv_aload_n hx hb dX7_city_166 rfl (lv_at hl 0 rfl) ?_
                  refine q_rV (As := []) (rest := []) ⟨hx, hb, hml, hown, hts⟩ (c_X7_isWell_n l D cy m0 ml mm mit ms mt nw dr tr pa ig kx be tc st (nI 1) (nI q2) (nI (tkE tp tn q2)) (nI q2) (nI (tkK tp tn q2)) (tkV tp tn q2) 0 ac td q2 (by omega)) (cwV 0 hts gX7_city_X7_isWell rfl rfl rfl (by decide +kernel) ⟨Nat.le_of_ble_eq_true rfl, Nat.le_of_ble_eq_true rfl⟩) hP hK [3] rfl 3 rfl rfl rfl rfl hl.1 rfl (Nat.le_of_ble_eq_true rfl) dX7_city_167 ⟨Nat.zero_le _, Nat.zero_le _⟩ (fun r51 hr51 => ?_)
                  obtain rfl := hr51
                  refine lv_if_ne (tgt := 181) hx hb dX7_city_170 (by decide) (fun c9 => absurd (by decide) c9) (fun _ => ?_)
                  refine lv_ldc (v := (-1000100)) hx hb hown (hts _ mX7_city_6) dX7_city_173 ?_
                  refine lv_aload_n hx hb dX7_city_175 rfl (lv_at hl 0 rfl) ?_
                  refine va_get (D := D) (ci := 7) (v := .int (nI q2)) (C := RX7) (T := TX7) (N := 23) hx hb hts nX7_city_0 hown hK.1 hP 3 rfl rfl 8 (by decide) (hts _ mX7_city_2) (fun _ h9 => h9) rfl dX7_city_176 ?_
                  refine lv_isub hx hb dX7_city_179 ?_
                  have hP9 := hP.sub (ws' := [(m0, .inr (7, [.ref ml, .ref mm, .ref mit, .ref ms, .int (st), .ref mt, .int (nI 0), .int (nI 1), .int (nI q2), .int (nI (tkE tp tn q2)), .int (nI q2), .int (nI (tkK tp tn q2)), .int (tkV tp tn q2), .ref nw, .ref dr, .ref tr, .ref pa, .int (nI ac), .ref ig, .ref kx, .ref be, .ref tc, .int (nI td)])), (mt, .inl (cy 0, 100, .inl ft)), (nw, .inl (cy 0, 29, .inl f)), (dr, .inl (cy 0, 29, .inl (upd (upd (fa_fill (fun _ => nI 0) gd z1) 0 (nI v1)) 1 (nI v2))))]) [3, 2, 0, 1] rfl
                  have hD9 := hD.sub (ws' := [(m0, .inr (7, [.ref ml, .ref mm, .ref mit, .ref ms, .int (st), .ref mt, .int (nI 0), .int (nI 1), .int (nI q2), .int (nI (tkE tp tn q2)), .int (nI q2), .int (nI (tkK tp tn q2)), .int (tkV tp tn q2), .ref nw, .ref dr, .ref tr, .ref pa, .int (nI ac), .ref ig, .ref kx, .ref be, .ref tc, .int (nI td)])), (mt, .inl (cy 0, 100, .inl ft)), (nw, .inl (cy 0, 29, .inl f)), (dr, .inl (cy 0, 29, .inl (upd (upd (fa_fill (fun _ => nI 0) gd z1) 0 (nI v1)) 1 (nI v2))))]) [3, 2, 0, 1] (by decide) rfl
                  exact q_wiret (v := (-1000100) - (nI q2)) hx hb hr hlocks dX7_city_180 hP9 hD9 hS (Or.inr ⟨q2, 1, _, _, _, _, _, by simp only [pCity, pLaw, htc, hn1, ht2, hn2, hts4, Except.bind], by omega, rfl, rfl⟩)
                · have hts4 := tkK_4 c46
                  have hts5 := hts4.2
                  refine lv_iconst (v := nI 1) hx hb dX7_city_98 (by decide) ?_
                  refine lv_goto (tgt := 103) hx hb dX7_city_99 (by decide) ?_
                  refine lv_iconst (v := nI 1) hx hb dX7_city_103 (by decide) ?_
                  refine q_wiV (As := [.int (nI 1), .int (nI 1)]) (rest := []) (wr := [(nw, .inl (cy 0, 29, .inl f)), (dr, .inl (cy 0, 29, .inl (upd (upd (fa_fill (fun _ => nI 0) gd z1) 0 (nI v1)) 1 (nI v2))))]) ⟨hx, hb, hml, hown, hts⟩ (c_X7_takes_y l D cy m0 ml mm mit ms mt nw dr tr pa ig kx be tc st fk (-1) (nI (tkE tp tn q2)) (nI q2) (nI (tkK tp tn q2)) (tkV tp tn q2) tn ac td ft tp htn htp (tkE tp tn q2) (by omega) (nI 1)) (cwV 2 hts gX7_city_X7_takes rfl rfl rfl (by decide +kernel) ⟨Nat.le_of_ble_eq_true rfl, Nat.le_of_ble_eq_true rfl⟩) hP hD hS hA hK [2, 3] [0, 1] rfl rfl (by decide) rfl (by decide) (by decide) 2 rfl rfl rfl rfl hl.1 rfl (Nat.le_of_ble_eq_true rfl) dX7_city_104 ⟨Nat.zero_le _, Nat.zero_le _⟩ (fun r52 u53 H locs hr52 hP hD hS => ?_)
                  obtain ⟨rfl, rfl⟩ := hr52
                  have hP : va_P D vwCl [(nw, .inl (cy 0, 29, .inl f)), (dr, .inl (cy 0, 29, .inl (upd (upd (fa_fill (fun _ => nI 0) gd z1) 0 (nI v1)) 1 (nI v2)))), (m0, .inr (7, [.ref ml, .ref mm, .ref mit, .ref ms, .int (st), .ref mt, .int (nI tn), .int (fk), .int ((-1)), .int (nI (tkE tp tn (tkE tp tn q2))), .int (nI (tkE tp tn q2)), .int (nI (tkK tp tn (tkE tp tn q2))), .int (tkV tp tn (tkE tp tn q2)), .ref nw, .ref dr, .ref tr, .ref pa, .int (nI ac), .ref ig, .ref kx, .ref be, .ref tc, .int (nI td)])), (mt, .inl (cy 0, 100, .inl ft))] H := hP
                  have hD : va_D A [(nw, .inl (cy 0, 29, .inl f)), (dr, .inl (cy 0, 29, .inl (upd (upd (fa_fill (fun _ => nI 0) gd z1) 0 (nI v1)) 1 (nI v2)))), (m0, .inr (7, [.ref ml, .ref mm, .ref mit, .ref ms, .int (st), .ref mt, .int (nI tn), .int (fk), .int ((-1)), .int (nI (tkE tp tn (tkE tp tn q2))), .int (nI (tkE tp tn q2)), .int (nI (tkK tp tn (tkE tp tn q2))), .int (tkV tp tn (tkE tp tn q2)), .ref nw, .ref dr, .ref tr, .ref pa, .int (nI ac), .ref ig, .ref kx, .ref be, .ref tc, .int (nI td)])), (mt, .inl (cy 0, 100, .inl ft))] := hD
                  refine lv_pop hx hb dX7_city_107 rfl ?_
                  have hmd0 := mwIs_law (gd := gd) (su := v1) (sn := v2) (by omega : z1 = 29)
                  have hlaw : pLaw tp tn = .ok (tkE tp tn q2, v1, v2) := by simp only [pLaw, htc, hn1, ht2, hn2, hts4.1, Except.bind]
                  have _ := hts5
                  have hq21 : q2 + 1 ≤ tn := by have := tkE_le (tp := tp) hq2b; omega
                  have L108_345 : ∀ (fu i : Nat), i ≤ 7 → 7 < i + fu → ∀ (pp : Nat), ∀ (w9 : Nat → Nat), ∀ (g9 : Nat → Int32), pp ≤ tn → mwIs w9 g9 → ctOk w9 → 2 ≤ w9 0 → w9 4 = i → pClues tp tn (7 - i) pp w9 = pClues tp tn 7 (tkE tp tn q2) (ctLaw v1 v2) → ∀ (H : Heap) (locs : List Loc), va_P D vwCl [(m0, .inr (7, [.ref ml, .ref mm, .ref mit, .ref ms, .int (st), .ref mt, .int (nI tn), .int (fk), .int ((-1)), .int (nI (tkE tp tn pp)), .int (nI pp), .int (nI (tkK tp tn pp)), .int (tkV tp tn pp), .ref nw, .ref dr, .ref tr, .ref pa, .int (nI ac), .ref ig, .ref kx, .ref be, .ref tc, .int (nI td)])), (mt, .inl (cy 0, 100, .inl ft)), (nw, .inl (cy 0, 29, .inl f)), (dr, .inl (cy 0, 29, .inl g9))] H → va_D A [(m0, .inr (7, [.ref ml, .ref mm, .ref mit, .ref ms, .int (st), .ref mt, .int (nI tn), .int (fk), .int ((-1)), .int (nI (tkE tp tn pp)), .int (nI pp), .int (nI (tkK tp tn pp)), .int (tkV tp tn pp), .ref nw, .ref dr, .ref tr, .ref pa, .int (nI ac), .ref ig, .ref kx, .ref be, .ref tc, .int (nI td)])), (mt, .inl (cy 0, 100, .inl ft)), (nw, .inl (cy 0, 29, .inl f)), (dr, .inl (cy 0, 29, .inl g9))] → va_S A s.heap H locs → ∀ ls : Array Slot, lv_has ls 2 [(0, .ref m0), (1, .int (nI z1))] → W pg l en (q_rm 7) s mi args below meth cd H locs 0 0 (MQ below (va_Qi (fun r u => (∃ (w2 : Nat → Nat) (f2 gd2 : Nat → Int32) (a1 a2 a3 a4 : Int32), pCity tp tn = .ok w2 ∧ ctOk w2 ∧ mwIs w2 f2 ∧ r = nI (w2 4) ∧ u = [(m0, .inr (7, [.ref ml, .ref mm, .ref mit, .ref ms, .int (st), .ref mt, .int (nI 0), .int (fk), .int ((-1)), .int (a1), .int (a2), .int (a3), .int (a4), .ref nw, .ref dr, .ref tr, .ref pa, .int (nI 0), .ref ig, .ref kx, .ref be, .ref tc, .int (nI td)])), (mt, .inl (cy 0, 100, .inl ft)), (nw, .inl (cy 0, 29, .inl f2)), (dr, .inl (cy 0, 29, .inl gd2))]) ∨ (∃ (q k : Nat) (gd2 : Nat → Int32) (a1 a2 a3 a4 : Int32), pCity tp tn = .error (q, k) ∧ q ≤ tn ∧ r = (-1000100) - nI q ∧ u = [(m0, .inr (7, [.ref ml, .ref mm, .ref mit, .ref ms, .int (st), .ref mt, .int (nI 0), .int (nI k), .int (nI q), .int (a1), .int (a2), .int (a3), .int (a4), .ref nw, .ref dr, .ref tr, .ref pa, .int (nI ac), .ref ig, .ref kx, .ref be, .ref tc, .int (nI td)])), (mt, .inl (cy 0, 100, .inl ft)), (nw, .inl (cy 0, 29, .inl f)), (dr, .inl (cy 0, 29, .inl gd2))])) (fun (u : va_W) t => va_P D vwCl u t.heap ∧ va_D A u) A) args s 0 0 A) (F0 mi 108 ls []) := by
                    intro fu
                    induction fu with
                    | zero =>
                      intro i h1 h2
                      exact absurd h2 (by omega)
                    | succ fu ih108 =>
                      intro i h1_108 h2_108 pp w9 g9 hf108_0 hf108_1 hf108_2 hf108_3 hf108_4 hf108_5 H locs hP hD hS ls hl
                      have hkl := tkK_le tp tn pp; have hw46 := hf108_2.2.2.2.2.1; have hpe9 := tkE_le (tp := tp) hf108_0
                      refine lv_aload_n hx hb dX7_city_108 rfl (lv_at hl 0 rfl) ?_
                      refine q_rV (As := []) (rest := []) ⟨hx, hb, hml, hown, hts⟩ (c_X7_isWell_y l D cy m0 ml mm mit ms mt nw dr tr pa ig kx be tc st fk (-1) (nI (tkE tp tn pp)) (nI pp) (nI (tkK tp tn pp)) (tkV tp tn pp) tn ac td) (cwV 0 hts gX7_city_X7_isWell rfl rfl rfl (by decide +kernel) ⟨Nat.le_of_ble_eq_true rfl, Nat.le_of_ble_eq_true rfl⟩) hP hK [0] rfl 0 rfl rfl rfl rfl hl.1 rfl (Nat.le_of_ble_eq_true rfl) dX7_city_109 ⟨Nat.zero_le _, Nat.zero_le _⟩ (fun r54 hr54 => ?_)
                      obtain rfl := hr54
                      refine lv_if_eq (tgt := 140) hx hb dX7_city_112 (by decide) (fun c9 => absurd c9 (by decide)) (fun _ => ?_)
                      refine lv_aload_n hx hb dX7_city_115 rfl (lv_at hl 0 rfl) ?_
                      refine va_get (D := D) (ci := 7) (v := .int (nI (tkK tp tn pp))) (C := RX7) (T := TX7) (N := 23) hx hb hts nX7_city_0 hown hK.1 hP 0 rfl rfl 11 (by decide) (hts _ mX7_city_3) (fun _ h9 => h9) rfl dX7_city_116 ?_
                      refine lv_iconst (v := nI 1) hx hb dX7_city_119 (by decide) ?_
                      refine q_icmp_ne (tgt := 140) hx hb dX7_city_120 (by decide) (by omega) (by decide) (fun c55 => ?_) (fun c55 => ?_)
                      · refine lv_aload_n hx hb dX7_city_140 rfl (lv_at hl 0 rfl) ?_
                        refine q_rV (As := []) (rest := []) ⟨hx, hb, hml, hown, hts⟩ (c_X7_isWell_y l D cy m0 ml mm mit ms mt nw dr tr pa ig kx be tc st fk (-1) (nI (tkE tp tn pp)) (nI pp) (nI (tkK tp tn pp)) (tkV tp tn pp) tn ac td) (cwV 0 hts gX7_city_X7_isWell rfl rfl rfl (by decide +kernel) ⟨Nat.le_of_ble_eq_true rfl, Nat.le_of_ble_eq_true rfl⟩) hP hK [0] rfl 0 rfl rfl rfl rfl hl.1 rfl (Nat.le_of_ble_eq_true rfl) dX7_city_141 ⟨Nat.zero_le _, Nat.zero_le _⟩ (fun r56 hr56 => ?_)
                        obtain rfl := hr56
                        refine lv_if_eq (tgt := 161) hx hb dX7_city_144 (by decide) (fun c9 => absurd c9 (by decide)) (fun _ => ?_)
                        refine lv_aload_n hx hb dX7_city_147 rfl (lv_at hl 0 rfl) ?_
                        refine va_get (D := D) (ci := 7) (v := .int (nI (tkK tp tn pp))) (C := RX7) (T := TX7) (N := 23) hx hb hts nX7_city_0 hown hK.1 hP 0 rfl rfl 11 (by decide) (hts _ mX7_city_3) (fun _ h9 => h9) rfl dX7_city_148 ?_
                        refine q_if_eq (tgt := 161) hx hb dX7_city_151 (by decide) (by omega) (fun c57 => ?_) (fun c57 => ?_)
                        · refine lv_aload_n hx hb dX7_city_161 rfl (lv_at hl 0 rfl) ?_
                          refine lv_iconst (v := nI 0) hx hb dX7_city_162 (by decide) ?_
                          refine va_put (D := D) (ci := 7) (v := .int (nI 0)) (ty := .int) (C := RX7) (T := TX7) (N := 23) hx hb hts nX7_city_0 tyX7 tyX7_ok nmX7 hown hK.1 hP hD hS 0 rfl rfl 6 (by decide) (hts _ mX7_city_5) (fun _ h9 => h9) rfl (by decide +kernel) rfl rfl (Nat.le_of_ble_eq_true rfl) dX7_city_163 (fun H locs hP hD hS => ?_)
                          have hP : va_P D vwCl [(m0, .inr (7, [.ref ml, .ref mm, .ref mit, .ref ms, .int (st), .ref mt, .int (nI 0), .int (fk), .int ((-1)), .int (nI (tkE tp tn pp)), .int (nI pp), .int (nI (tkK tp tn pp)), .int (tkV tp tn pp), .ref nw, .ref dr, .ref tr, .ref pa, .int (nI ac), .ref ig, .ref kx, .ref be, .ref tc, .int (nI td)])), (mt, .inl (cy 0, 100, .inl ft)), (nw, .inl (cy 0, 29, .inl f)), (dr, .inl (cy 0, 29, .inl g9))] H := hP
                          have hD : va_D A [(m0, .inr (7, [.ref ml, .ref mm, .ref mit, .ref ms, .int (st), .ref mt, .int (nI 0), .int (fk), .int ((-1)), .int (nI (tkE tp tn pp)), .int (nI pp), .int (nI (tkK tp tn pp)), .int (tkV tp tn pp), .ref nw, .ref dr, .ref tr, .ref pa, .int (nI ac), .ref ig, .ref kx, .ref be, .ref tc, .int (nI td)])), (mt, .inl (cy 0, 100, .inl ft)), (nw, .inl (cy 0, 29, .inl f)), (dr, .inl (cy 0, 29, .inl g9))] := hD
                          refine lv_aload_n hx hb dX7_city_166 rfl (lv_at hl 0 rfl) ?_
                          refine q_rV (As := []) (rest := []) ⟨hx, hb, hml, hown, hts⟩ (c_X7_isWell_y l D cy m0 ml mm mit ms mt nw dr tr pa ig kx be tc st fk (-1) (nI (tkE tp tn pp)) (nI pp) (nI (tkK tp tn pp)) (tkV tp tn pp) 0 ac td) (cwV 0 hts gX7_city_X7_isWell rfl rfl rfl (by decide +kernel) ⟨Nat.le_of_ble_eq_true rfl, Nat.le_of_ble_eq_true rfl⟩) hP hK [0] rfl 0 rfl rfl rfl rfl hl.1 rfl (Nat.le_of_ble_eq_true rfl) dX7_city_167 ⟨Nat.zero_le _, Nat.zero_le _⟩ (fun r58 hr58 => ?_)
                          obtain rfl := hr58
                          refine lv_if_ne (tgt := 181) hx hb dX7_city_170 (by decide) (fun _ => ?_) (fun c9 => absurd c9 (by decide))
                          refine lv_aload_n hx hb dX7_city_181 rfl (lv_at hl 0 rfl) ?_
                          refine va_get (D := D) (ci := 7) (v := .ref dr) (C := RX7) (T := TX7) (N := 23) hx hb hts nX7_city_0 hown hK.1 hP 0 rfl rfl 14 (by decide) (hts _ mX7_city_4) (fun _ h9 => h9) rfl dX7_city_182 ?_
                          refine lv_iconst (v := nI 0) hx hb dX7_city_185 (by decide) ?_
                          refine lv_aload_n hx hb dX7_city_186 rfl (lv_at hl 0 rfl) ?_
                          refine va_get (D := D) (ci := 7) (v := .ref nw) (C := RX7) (T := TX7) (N := 23) hx hb hts nX7_city_0 hown hK.1 hP 0 rfl rfl 13 (by decide) (hts _ mX7_city_8) (fun _ h9 => h9) rfl dX7_city_187 ?_
                          refine lv_iconst (v := nI 0) hx hb dX7_city_190 (by decide) ?_
                          refine q_wvS (As := [.ref dr, .int (nI 0), .ref nw, .int (nI 0)]) (rest := []) (wr := [(m0, .inr (7, [.ref ml, .ref mm, .ref mit, .ref ms, .int (st), .ref mt, .int (nI 0), .int (fk), .int ((-1)), .int (nI (tkE tp tn pp)), .int (nI pp), .int (nI (tkK tp tn pp)), .int (tkV tp tn pp), .ref nw, .ref dr, .ref tr, .ref pa, .int (nI ac), .ref ig, .ref kx, .ref be, .ref tc, .int (nI td)])), (mt, .inl (cy 0, 100, .inl ft))]) ⟨hx, hb, hml, hown, hts⟩ (c_X7_copies l D cy dr nw 29 29 (by decide) (by decide) g9 f 0 0 (by omega) (by omega)) (va_cwS 4 hts gX7_city_X7_copies rfl rfl rfl (by decide +kernel) ⟨Nat.le_of_ble_eq_true rfl, Nat.le_of_ble_eq_true rfl⟩) hP hD hS hA hK [3, 2] [0, 1] rfl rfl (by decide) rfl (by decide) (by decide) rfl hl.1 rfl (Nat.le_of_ble_eq_true rfl) dX7_city_191 ⟨Nat.zero_le _, Nat.zero_le _⟩ (fun u60 H locs hr59 hP hD hS => ?_)
                          obtain rfl := hr59
                          have hP : va_P D vwCl [(m0, .inr (7, [.ref ml, .ref mm, .ref mit, .ref ms, .int (st), .ref mt, .int (nI 0), .int (fk), .int ((-1)), .int (nI (tkE tp tn pp)), .int (nI pp), .int (nI (tkK tp tn pp)), .int (tkV tp tn pp), .ref nw, .ref dr, .ref tr, .ref pa, .int (nI ac), .ref ig, .ref kx, .ref be, .ref tc, .int (nI td)])), (mt, .inl (cy 0, 100, .inl ft)), (dr, .inl (cy 0, 29, .inl g9)), (nw, .inl (cy 0, 29, .inl (va_cpy g9 f 0 0 29)))] H := hP
                          have hD : va_D A [(m0, .inr (7, [.ref ml, .ref mm, .ref mit, .ref ms, .int (st), .ref mt, .int (nI 0), .int (fk), .int ((-1)), .int (nI (tkE tp tn pp)), .int (nI pp), .int (nI (tkK tp tn pp)), .int (tkV tp tn pp), .ref nw, .ref dr, .ref tr, .ref pa, .int (nI ac), .ref ig, .ref kx, .ref be, .ref tc, .int (nI td)])), (mt, .inl (cy 0, 100, .inl ft)), (dr, .inl (cy 0, 29, .inl g9)), (nw, .inl (cy 0, 29, .inl (va_cpy g9 f 0 0 29)))] := hD
                          refine lv_aload_n hx hb dX7_city_194 rfl (lv_at hl 0 rfl) ?_
                          refine lv_iconst (v := nI 0) hx hb dX7_city_195 (by decide) ?_
                          refine va_put (D := D) (ci := 7) (v := .int (nI 0)) (ty := .int) (C := RX7) (T := TX7) (N := 23) hx hb hts nX7_city_0 tyX7 tyX7_ok nmX7 hown hK.1 hP hD hS 0 rfl rfl 17 (by decide) (hts _ mX7_city_9) (fun _ h9 => h9) rfl (by decide +kernel) rfl rfl (Nat.le_of_ble_eq_true rfl) dX7_city_196 (fun H locs hP hD hS => ?_)
                          have hP : va_P D vwCl [(m0, .inr (7, [.ref ml, .ref mm, .ref mit, .ref ms, .int (st), .ref mt, .int (nI 0), .int (fk), .int ((-1)), .int (nI (tkE tp tn pp)), .int (nI pp), .int (nI (tkK tp tn pp)), .int (tkV tp tn pp), .ref nw, .ref dr, .ref tr, .ref pa, .int (nI 0), .ref ig, .ref kx, .ref be, .ref tc, .int (nI td)])), (mt, .inl (cy 0, 100, .inl ft)), (dr, .inl (cy 0, 29, .inl g9)), (nw, .inl (cy 0, 29, .inl (va_cpy g9 f 0 0 29)))] H := hP
                          have hD : va_D A [(m0, .inr (7, [.ref ml, .ref mm, .ref mit, .ref ms, .int (st), .ref mt, .int (nI 0), .int (fk), .int ((-1)), .int (nI (tkE tp tn pp)), .int (nI pp), .int (nI (tkK tp tn pp)), .int (tkV tp tn pp), .ref nw, .ref dr, .ref tr, .ref pa, .int (nI 0), .ref ig, .ref kx, .ref be, .ref tc, .int (nI td)])), (mt, .inl (cy 0, 100, .inl ft)), (dr, .inl (cy 0, 29, .inl g9)), (nw, .inl (cy 0, 29, .inl (va_cpy g9 f 0 0 29)))] := hD
                          refine lv_aload_n hx hb dX7_city_199 rfl (lv_at hl 0 rfl) ?_
                          refine va_get (D := D) (ci := 7) (v := .ref nw) (C := RX7) (T := TX7) (N := 23) hx hb hts nX7_city_0 hown hK.1 hP 0 rfl rfl 13 (by decide) (hts _ mX7_city_8) (fun _ h9 => h9) rfl dX7_city_200 ?_
                          refine lv_iconst (v := nI 4) hx hb dX7_city_203 (by decide) ?_
                          refine q_iald (j := 4) (v := (va_cpy g9 f 0 0 29) 4) hx hb hK hP 3 rfl (by omega) (by decide) (rfl) dX7_city_204 ?_
                          refine q_top (y := nI (w9 4)) (mwIs_cpy hf108_1 4 (by decide)) ?_
                          have hP9 := hP.sub (ws' := [(m0, .inr (7, [.ref ml, .ref mm, .ref mit, .ref ms, .int (st), .ref mt, .int (nI 0), .int (fk), .int ((-1)), .int (nI (tkE tp tn pp)), .int (nI pp), .int (nI (tkK tp tn pp)), .int (tkV tp tn pp), .ref nw, .ref dr, .ref tr, .ref pa, .int (nI 0), .ref ig, .ref kx, .ref be, .ref tc, .int (nI td)])), (mt, .inl (cy 0, 100, .inl ft)), (nw, .inl (cy 0, 29, .inl (va_cpy g9 f 0 0 29))), (dr, .inl (cy 0, 29, .inl g9))]) [0, 1, 3, 2] rfl
                          have hD9 := hD.sub (ws' := [(m0, .inr (7, [.ref ml, .ref mm, .ref mit, .ref ms, .int (st), .ref mt, .int (nI 0), .int (fk), .int ((-1)), .int (nI (tkE tp tn pp)), .int (nI pp), .int (nI (tkK tp tn pp)), .int (tkV tp tn pp), .ref nw, .ref dr, .ref tr, .ref pa, .int (nI 0), .ref ig, .ref kx, .ref be, .ref tc, .int (nI td)])), (mt, .inl (cy 0, 100, .inl ft)), (nw, .inl (cy 0, 29, .inl (va_cpy g9 f 0 0 29))), (dr, .inl (cy 0, 29, .inl g9))]) [0, 1, 3, 2] (by decide) rfl
                          exact q_wiret (v := nI (w9 4)) hx hb hr hlocks dX7_city_205 hP9 hD9 hS (Or.inl ⟨_, _, _, _, _, _, _, pCity_k hlaw hf108_5 (pClues_n (tkK_z c57)), hf108_2, mwIs_cpy hf108_1, rfl, rfl⟩)
                        · refine lv_aload_n hx hb dX7_city_154 rfl (lv_at hl 0 rfl) ?_
                          refine lv_iconst (v := nI 0) hx hb dX7_city_155 (by decide) ?_
                          refine lv_iconst (v := nI 1) hx hb dX7_city_156 (by decide) ?_
                          refine q_wiV (As := [.int (nI 0), .int (nI 1)]) (rest := []) (wr := [(mt, .inl (cy 0, 100, .inl ft)), (nw, .inl (cy 0, 29, .inl f)), (dr, .inl (cy 0, 29, .inl g9))]) ⟨hx, hb, hml, hown, hts⟩ (c_X7_takes_n l D cy m0 ml mm mit ms mt nw dr tr pa ig kx be tc st fk (-1) (nI (tkE tp tn pp)) (nI pp) (nI (tkK tp tn pp)) (tkV tp tn pp) tn ac td (nI 1)) (cwV 2 hts gX7_city_X7_takes rfl rfl rfl (by decide +kernel) ⟨Nat.le_of_ble_eq_true rfl, Nat.le_of_ble_eq_true rfl⟩) hP hD hS hA hK [0] [1, 2, 3] rfl rfl (by decide) rfl (by decide) (by decide) 0 rfl rfl rfl rfl hl.1 rfl (Nat.le_of_ble_eq_true rfl) dX7_city_157 ⟨Nat.zero_le _, Nat.zero_le _⟩ (fun r61 u62 H locs hr61 hP hD hS => ?_)
                          obtain ⟨rfl, rfl⟩ := hr61
                          have hP : va_P D vwCl [(mt, .inl (cy 0, 100, .inl ft)), (nw, .inl (cy 0, 29, .inl f)), (dr, .inl (cy 0, 29, .inl g9)), (m0, .inr (7, [.ref ml, .ref mm, .ref mit, .ref ms, .int (st), .ref mt, .int (nI tn), .int (nI 1), .int (nI pp), .int (nI (tkE tp tn pp)), .int (nI pp), .int (nI (tkK tp tn pp)), .int (tkV tp tn pp), .ref nw, .ref dr, .ref tr, .ref pa, .int (nI ac), .ref ig, .ref kx, .ref be, .ref tc, .int (nI td)]))] H := hP
                          have hD : va_D A [(mt, .inl (cy 0, 100, .inl ft)), (nw, .inl (cy 0, 29, .inl f)), (dr, .inl (cy 0, 29, .inl g9)), (m0, .inr (7, [.ref ml, .ref mm, .ref mit, .ref ms, .int (st), .ref mt, .int (nI tn), .int (nI 1), .int (nI pp), .int (nI (tkE tp tn pp)), .int (nI pp), .int (nI (tkK tp tn pp)), .int (tkV tp tn pp), .ref nw, .ref dr, .ref tr, .ref pa, .int (nI ac), .ref ig, .ref kx, .ref be, .ref tc, .int (nI td)]))] := hD
                          refine lv_pop hx hb dX7_city_160 rfl ?_
                          refine lv_aload_n hx hb dX7_city_161 rfl (lv_at hl 0 rfl) ?_
                          refine lv_iconst (v := nI 0) hx hb dX7_city_162 (by decide) ?_
                          refine va_put (D := D) (ci := 7) (v := .int (nI 0)) (ty := .int) (C := RX7) (T := TX7) (N := 23) hx hb hts nX7_city_0 tyX7 tyX7_ok nmX7 hown hK.1 hP hD hS 3 rfl rfl 6 (by decide) (hts _ mX7_city_5) (fun _ h9 => h9) rfl (by decide +kernel) rfl rfl (Nat.le_of_ble_eq_true rfl) dX7_city_163 (fun H locs hP hD hS => ?_)
                          have hP : va_P D vwCl [(mt, .inl (cy 0, 100, .inl ft)), (nw, .inl (cy 0, 29, .inl f)), (dr, .inl (cy 0, 29, .inl g9)), (m0, .inr (7, [.ref ml, .ref mm, .ref mit, .ref ms, .int (st), .ref mt, .int (nI 0), .int (nI 1), .int (nI pp), .int (nI (tkE tp tn pp)), .int (nI pp), .int (nI (tkK tp tn pp)), .int (tkV tp tn pp), .ref nw, .ref dr, .ref tr, .ref pa, .int (nI ac), .ref ig, .ref kx, .ref be, .ref tc, .int (nI td)]))] H := hP
                          have hD : va_D A [(mt, .inl (cy 0, 100, .inl ft)), (nw, .inl (cy 0, 29, .inl f)), (dr, .inl (cy 0, 29, .inl g9)), (m0, .inr (7, [.ref ml, .ref mm, .ref mit, .ref ms, .int (st), .ref mt, .int (nI 0), .int (nI 1), .int (nI pp), .int (nI (tkE tp tn pp)), .int (nI pp), .int (nI (tkK tp tn pp)), .int (tkV tp tn pp), .ref nw, .ref dr, .ref tr, .ref pa, .int (nI ac), .ref ig, .ref kx, .ref be, .ref tc, .int (nI td)]))] := hD
                          refine lv_aload_n hx hb dX7_city_166 rfl (lv_at hl 0 rfl) ?_
                          refine q_rV (As := []) (rest := []) ⟨hx, hb, hml, hown, hts⟩ (c_X7_isWell_n l D cy m0 ml mm mit ms mt nw dr tr pa ig kx be tc st (nI 1) (nI pp) (nI (tkE tp tn pp)) (nI pp) (nI (tkK tp tn pp)) (tkV tp tn pp) 0 ac td pp (by omega)) (cwV 0 hts gX7_city_X7_isWell rfl rfl rfl (by decide +kernel) ⟨Nat.le_of_ble_eq_true rfl, Nat.le_of_ble_eq_true rfl⟩) hP hK [3] rfl 3 rfl rfl rfl rfl hl.1 rfl (Nat.le_of_ble_eq_true rfl) dX7_city_167 ⟨Nat.zero_le _, Nat.zero_le _⟩ (fun r63 hr63 => ?_)
                          obtain rfl := hr63
                          refine lv_if_ne (tgt := 181) hx hb dX7_city_170 (by decide) (fun c9 => absurd (by decide) c9) (fun _ => ?_)
                          refine lv_ldc (v := (-1000100)) hx hb hown (hts _ mX7_city_6) dX7_city_173 ?_
                          refine lv_aload_n hx hb dX7_city_175 rfl (lv_at hl 0 rfl) ?_
                          refine va_get (D := D) (ci := 7) (v := .int (nI pp)) (C := RX7) (T := TX7) (N := 23) hx hb hts nX7_city_0 hown hK.1 hP 3 rfl rfl 8 (by decide) (hts _ mX7_city_2) (fun _ h9 => h9) rfl dX7_city_176 ?_
                          refine lv_isub hx hb dX7_city_179 ?_
                          have hP9 := hP.sub (ws' := [(m0, .inr (7, [.ref ml, .ref mm, .ref mit, .ref ms, .int (st), .ref mt, .int (nI 0), .int (nI 1), .int (nI pp), .int (nI (tkE tp tn pp)), .int (nI pp), .int (nI (tkK tp tn pp)), .int (tkV tp tn pp), .ref nw, .ref dr, .ref tr, .ref pa, .int (nI ac), .ref ig, .ref kx, .ref be, .ref tc, .int (nI td)])), (mt, .inl (cy 0, 100, .inl ft)), (nw, .inl (cy 0, 29, .inl f)), (dr, .inl (cy 0, 29, .inl g9))]) [3, 0, 1, 2] rfl
                          have hD9 := hD.sub (ws' := [(m0, .inr (7, [.ref ml, .ref mm, .ref mit, .ref ms, .int (st), .ref mt, .int (nI 0), .int (nI 1), .int (nI pp), .int (nI (tkE tp tn pp)), .int (nI pp), .int (nI (tkK tp tn pp)), .int (tkV tp tn pp), .ref nw, .ref dr, .ref tr, .ref pa, .int (nI ac), .ref ig, .ref kx, .ref be, .ref tc, .int (nI td)])), (mt, .inl (cy 0, 100, .inl ft)), (nw, .inl (cy 0, 29, .inl f)), (dr, .inl (cy 0, 29, .inl g9))]) [3, 0, 1, 2] (by decide) rfl
                          exact q_wiret (v := (-1000100) - (nI pp)) hx hb hr hlocks dX7_city_180 hP9 hD9 hS (Or.inr ⟨pp, 1, _, _, _, _, _, pCity_k hlaw hf108_5 (pCl_e (n := tn) (f := 7 - i) (p := pp) (w := w9) (by omega) (tkK_pos c57) (pClue_0 (p := pp) (tkK_nk (tkK_pos c57) c55))), by omega, rfl, rfl⟩)
                      · have hk1x := tkK_1 c55
                        have hpt := hk1x.1
                        have hbp := (htp pp hpt).2
                        have hkt := c55
                        refine lv_aload_n hx hb dX7_city_123 rfl (lv_at hl 0 rfl) ?_
                        refine va_get (D := D) (ci := 7) (v := .int (tkV tp tn pp)) (C := RX7) (T := TX7) (N := 23) hx hb hts nX7_city_0 hown hK.1 hP 0 rfl rfl 12 (by decide) (hts _ mX7_city_7) (fun _ h9 => h9) rfl dX7_city_124 ?_
                        refine q_top (y := nI (tp pp)) (hk1x.2.2) ?_
                        refine q_rS (As := [.int (nI (tp pp))]) (rest := []) ⟨hx, hb, hml, hown, hts⟩ (c_X7_kindOf l D cy (tp pp) (by omega)) (va_cwS 1 hts gX7_city_X7_kindOf rfl rfl rfl (by decide +kernel) ⟨Nat.le_of_ble_eq_true rfl, Nat.le_of_ble_eq_true rfl⟩) hP hK [] rfl rfl hl.1 rfl (Nat.le_of_ble_eq_true rfl) dX7_city_127 ⟨Nat.zero_le _, Nat.zero_le _⟩ (fun r64 hr64 => ?_)
                        obtain rfl := hr64
                        have hpl := pKind_le (tp pp)
                        refine q_if_le (tgt := 140) hx hb dX7_city_130 (by decide) (by omega) (fun c65 => ?_) (fun c65 => ?_)
                        · refine lv_aload_n hx hb dX7_city_140 rfl (lv_at hl 0 rfl) ?_
                          refine q_rV (As := []) (rest := []) ⟨hx, hb, hml, hown, hts⟩ (c_X7_isWell_y l D cy m0 ml mm mit ms mt nw dr tr pa ig kx be tc st fk (-1) (nI (tkE tp tn pp)) (nI pp) (nI (tkK tp tn pp)) (tkV tp tn pp) tn ac td) (cwV 0 hts gX7_city_X7_isWell rfl rfl rfl (by decide +kernel) ⟨Nat.le_of_ble_eq_true rfl, Nat.le_of_ble_eq_true rfl⟩) hP hK [0] rfl 0 rfl rfl rfl rfl hl.1 rfl (Nat.le_of_ble_eq_true rfl) dX7_city_141 ⟨Nat.zero_le _, Nat.zero_le _⟩ (fun r66 hr66 => ?_)
                          obtain rfl := hr66
                          refine lv_if_eq (tgt := 161) hx hb dX7_city_144 (by decide) (fun c9 => absurd c9 (by decide)) (fun _ => ?_)
                          refine lv_aload_n hx hb dX7_city_147 rfl (lv_at hl 0 rfl) ?_
                          refine va_get (D := D) (ci := 7) (v := .int (nI (tkK tp tn pp))) (C := RX7) (T := TX7) (N := 23) hx hb hts nX7_city_0 hown hK.1 hP 0 rfl rfl 11 (by decide) (hts _ mX7_city_3) (fun _ h9 => h9) rfl dX7_city_148 ?_
                          refine q_if_eq (tgt := 161) hx hb dX7_city_151 (by decide) (by omega) (fun c67 => absurd c67 (by omega)) (fun c67 => ?_)
                          refine lv_aload_n hx hb dX7_city_154 rfl (lv_at hl 0 rfl) ?_
                          refine lv_iconst (v := nI 0) hx hb dX7_city_155 (by decide) ?_
                          refine lv_iconst (v := nI 1) hx hb dX7_city_156 (by decide) ?_
                          refine q_wiV (As := [.int (nI 0), .int (nI 1)]) (rest := []) (wr := [(mt, .inl (cy 0, 100, .inl ft)), (nw, .inl (cy 0, 29, .inl f)), (dr, .inl (cy 0, 29, .inl g9))]) ⟨hx, hb, hml, hown, hts⟩ (c_X7_takes_n l D cy m0 ml mm mit ms mt nw dr tr pa ig kx be tc st fk (-1) (nI (tkE tp tn pp)) (nI pp) (nI (tkK tp tn pp)) (tkV tp tn pp) tn ac td (nI 1)) (cwV 2 hts gX7_city_X7_takes rfl rfl rfl (by decide +kernel) ⟨Nat.le_of_ble_eq_true rfl, Nat.le_of_ble_eq_true rfl⟩) hP hD hS hA hK [0] [1, 2, 3] rfl rfl (by decide) rfl (by decide) (by decide) 0 rfl rfl rfl rfl hl.1 rfl (Nat.le_of_ble_eq_true rfl) dX7_city_157 ⟨Nat.zero_le _, Nat.zero_le _⟩ (fun r68 u69 H locs hr68 hP hD hS => ?_)
                          obtain ⟨rfl, rfl⟩ := hr68
                          have hP : va_P D vwCl [(mt, .inl (cy 0, 100, .inl ft)), (nw, .inl (cy 0, 29, .inl f)), (dr, .inl (cy 0, 29, .inl g9)), (m0, .inr (7, [.ref ml, .ref mm, .ref mit, .ref ms, .int (st), .ref mt, .int (nI tn), .int (nI 1), .int (nI pp), .int (nI (tkE tp tn pp)), .int (nI pp), .int (nI (tkK tp tn pp)), .int (tkV tp tn pp), .ref nw, .ref dr, .ref tr, .ref pa, .int (nI ac), .ref ig, .ref kx, .ref be, .ref tc, .int (nI td)]))] H := hP
                          have hD : va_D A [(mt, .inl (cy 0, 100, .inl ft)), (nw, .inl (cy 0, 29, .inl f)), (dr, .inl (cy 0, 29, .inl g9)), (m0, .inr (7, [.ref ml, .ref mm, .ref mit, .ref ms, .int (st), .ref mt, .int (nI tn), .int (nI 1), .int (nI pp), .int (nI (tkE tp tn pp)), .int (nI pp), .int (nI (tkK tp tn pp)), .int (tkV tp tn pp), .ref nw, .ref dr, .ref tr, .ref pa, .int (nI ac), .ref ig, .ref kx, .ref be, .ref tc, .int (nI td)]))] := hD
                          refine lv_pop hx hb dX7_city_160 rfl ?_
                          refine lv_aload_n hx hb dX7_city_161 rfl (lv_at hl 0 rfl) ?_
                          refine lv_iconst (v := nI 0) hx hb dX7_city_162 (by decide) ?_
                          refine va_put (D := D) (ci := 7) (v := .int (nI 0)) (ty := .int) (C := RX7) (T := TX7) (N := 23) hx hb hts nX7_city_0 tyX7 tyX7_ok nmX7 hown hK.1 hP hD hS 3 rfl rfl 6 (by decide) (hts _ mX7_city_5) (fun _ h9 => h9) rfl (by decide +kernel) rfl rfl (Nat.le_of_ble_eq_true rfl) dX7_city_163 (fun H locs hP hD hS => ?_)
                          have hP : va_P D vwCl [(mt, .inl (cy 0, 100, .inl ft)), (nw, .inl (cy 0, 29, .inl f)), (dr, .inl (cy 0, 29, .inl g9)), (m0, .inr (7, [.ref ml, .ref mm, .ref mit, .ref ms, .int (st), .ref mt, .int (nI 0), .int (nI 1), .int (nI pp), .int (nI (tkE tp tn pp)), .int (nI pp), .int (nI (tkK tp tn pp)), .int (tkV tp tn pp), .ref nw, .ref dr, .ref tr, .ref pa, .int (nI ac), .ref ig, .ref kx, .ref be, .ref tc, .int (nI td)]))] H := hP
                          have hD : va_D A [(mt, .inl (cy 0, 100, .inl ft)), (nw, .inl (cy 0, 29, .inl f)), (dr, .inl (cy 0, 29, .inl g9)), (m0, .inr (7, [.ref ml, .ref mm, .ref mit, .ref ms, .int (st), .ref mt, .int (nI 0), .int (nI 1), .int (nI pp), .int (nI (tkE tp tn pp)), .int (nI pp), .int (nI (tkK tp tn pp)), .int (tkV tp tn pp), .ref nw, .ref dr, .ref tr, .ref pa, .int (nI ac), .ref ig, .ref kx, .ref be, .ref tc, .int (nI td)]))] := hD
                          refine lv_aload_n hx hb dX7_city_166 rfl (lv_at hl 0 rfl) ?_
                          refine q_rV (As := []) (rest := []) ⟨hx, hb, hml, hown, hts⟩ (c_X7_isWell_n l D cy m0 ml mm mit ms mt nw dr tr pa ig kx be tc st (nI 1) (nI pp) (nI (tkE tp tn pp)) (nI pp) (nI (tkK tp tn pp)) (tkV tp tn pp) 0 ac td pp (by omega)) (cwV 0 hts gX7_city_X7_isWell rfl rfl rfl (by decide +kernel) ⟨Nat.le_of_ble_eq_true rfl, Nat.le_of_ble_eq_true rfl⟩) hP hK [3] rfl 3 rfl rfl rfl rfl hl.1 rfl (Nat.le_of_ble_eq_true rfl) dX7_city_167 ⟨Nat.zero_le _, Nat.zero_le _⟩ (fun r70 hr70 => ?_)
                          obtain rfl := hr70
                          refine lv_if_ne (tgt := 181) hx hb dX7_city_170 (by decide) (fun c9 => absurd (by decide) c9) (fun _ => ?_)
                          refine lv_ldc (v := (-1000100)) hx hb hown (hts _ mX7_city_6) dX7_city_173 ?_
                          refine lv_aload_n hx hb dX7_city_175 rfl (lv_at hl 0 rfl) ?_
                          refine va_get (D := D) (ci := 7) (v := .int (nI pp)) (C := RX7) (T := TX7) (N := 23) hx hb hts nX7_city_0 hown hK.1 hP 3 rfl rfl 8 (by decide) (hts _ mX7_city_2) (fun _ h9 => h9) rfl dX7_city_176 ?_
                          refine lv_isub hx hb dX7_city_179 ?_
                          have hP9 := hP.sub (ws' := [(m0, .inr (7, [.ref ml, .ref mm, .ref mit, .ref ms, .int (st), .ref mt, .int (nI 0), .int (nI 1), .int (nI pp), .int (nI (tkE tp tn pp)), .int (nI pp), .int (nI (tkK tp tn pp)), .int (tkV tp tn pp), .ref nw, .ref dr, .ref tr, .ref pa, .int (nI ac), .ref ig, .ref kx, .ref be, .ref tc, .int (nI td)])), (mt, .inl (cy 0, 100, .inl ft)), (nw, .inl (cy 0, 29, .inl f)), (dr, .inl (cy 0, 29, .inl g9))]) [3, 0, 1, 2] rfl
                          have hD9 := hD.sub (ws' := [(m0, .inr (7, [.ref ml, .ref mm, .ref mit, .ref ms, .int (st), .ref mt, .int (nI 0), .int (nI 1), .int (nI pp), .int (nI (tkE tp tn pp)), .int (nI pp), .int (nI (tkK tp tn pp)), .int (tkV tp tn pp), .ref nw, .ref dr, .ref tr, .ref pa, .int (nI ac), .ref ig, .ref kx, .ref be, .ref tc, .int (nI td)])), (mt, .inl (cy 0, 100, .inl ft)), (nw, .inl (cy 0, 29, .inl f)), (dr, .inl (cy 0, 29, .inl g9))]) [3, 0, 1, 2] (by decide) rfl
                          exact q_wiret (v := (-1000100) - (nI pp)) hx hb hr hlocks dX7_city_180 hP9 hD9 hS (Or.inr ⟨pp, 1, _, _, _, _, _, pCity_k hlaw hf108_5 (pCl_e (n := tn) (f := 7 - i) (p := pp) (w := w9) (by omega) hpt (pClue_0 (p := pp) (by omega))), by omega, rfl, rfl⟩)
                        · refine lv_aload_n hx hb dX7_city_133 rfl (lv_at hl 0 rfl) ?_
                          refine q_wvV (As := []) (rest := []) (wr := [(nw, .inl (cy 0, 29, .inl f))]) ⟨hx, hb, hml, hown, hts⟩ (c_X7_readsClue l D cy m0 ml mm mit ms mt nw dr tr pa ig kx be tc st fk (-1) (nI (tkE tp tn pp)) (nI pp) (nI (tkK tp tn pp)) (tkV tp tn pp) tn ac td ft tp htn htp pp (by omega) g9 w9 hf108_1 hf108_2 hf108_3 c65) (cwV 0 hts gX7_city_X7_readsClue rfl rfl rfl (by decide +kernel) ⟨Nat.le_of_ble_eq_true rfl, Nat.le_of_ble_eq_true rfl⟩) hP hD hS hA hK [0, 1, 3] [2] rfl rfl (by decide) rfl (by decide) (by decide) 0 rfl rfl rfl rfl hl.1 rfl (Nat.le_of_ble_eq_true rfl) dX7_city_134 ⟨Nat.zero_le _, Nat.zero_le _⟩ (fun u72 H locs hr71 hP hD hS => ?_)
                          rcases hr71 with ⟨q9, K9, T9, E9, O9, hc9, hq9a, hq9, hw49, hK1, hK5, hT1, hT2, hE2, hE4, hO1, gd9, hmd9, rfl⟩ | ⟨q9, k9, e1, e2, e3, e4, hc9, hq9, rfl⟩
                          · have hP : va_P D vwCl [(nw, .inl (cy 0, 29, .inl f)), (m0, .inr (7, [.ref ml, .ref mm, .ref mit, .ref ms, .int (st), .ref mt, .int (nI tn), .int (fk), .int ((-1)), .int (nI (tkE tp tn q9)), .int (nI q9), .int (nI (tkK tp tn q9)), .int (tkV tp tn q9), .ref nw, .ref dr, .ref tr, .ref pa, .int (nI ac), .ref ig, .ref kx, .ref be, .ref tc, .int (nI td)])), (mt, .inl (cy 0, 100, .inl ft)), (dr, .inl (cy 0, 29, .inl gd9))] H := hP
                            have hD : va_D A [(nw, .inl (cy 0, 29, .inl f)), (m0, .inr (7, [.ref ml, .ref mm, .ref mit, .ref ms, .int (st), .ref mt, .int (nI tn), .int (fk), .int ((-1)), .int (nI (tkE tp tn q9)), .int (nI q9), .int (nI (tkK tp tn q9)), .int (tkV tp tn q9), .ref nw, .ref dr, .ref tr, .ref pa, .int (nI ac), .ref ig, .ref kx, .ref be, .ref tc, .int (nI td)])), (mt, .inl (cy 0, 100, .inl ft)), (dr, .inl (cy 0, 29, .inl gd9))] := hD
                            refine lv_goto (tgt := 108) hx hb dX7_city_137 (by decide) ?_
                            have hP := hP.sub (ws' := [(m0, .inr (7, [.ref ml, .ref mm, .ref mit, .ref ms, .int (st), .ref mt, .int (nI tn), .int (fk), .int ((-1)), .int (nI (tkE tp tn q9)), .int (nI q9), .int (nI (tkK tp tn q9)), .int (tkV tp tn q9), .ref nw, .ref dr, .ref tr, .ref pa, .int (nI ac), .ref ig, .ref kx, .ref be, .ref tc, .int (nI td)])), (mt, .inl (cy 0, 100, .inl ft)), (nw, .inl (cy 0, 29, .inl f)), (dr, .inl (cy 0, 29, .inl gd9))]) [1, 2, 0, 3] rfl
                            have hD := hD.sub (ws' := [(m0, .inr (7, [.ref ml, .ref mm, .ref mit, .ref ms, .int (st), .ref mt, .int (nI tn), .int (fk), .int ((-1)), .int (nI (tkE tp tn q9)), .int (nI q9), .int (nI (tkK tp tn q9)), .int (tkV tp tn q9), .ref nw, .ref dr, .ref tr, .ref pa, .int (nI ac), .ref ig, .ref kx, .ref be, .ref tc, .int (nI td)])), (mt, .inl (cy 0, 100, .inl ft)), (nw, .inl (cy 0, 29, .inl f)), (dr, .inl (cy 0, 29, .inl gd9))]) [1, 2, 0, 3] (by decide) rfl
                            exact ih108 (i + 1) (by omega) (by omega) q9 (ctAdd w9 K9 T9 E9 O9) gd9 hq9 hmd9 (ctOk_add hf108_2 hw49 hK1 hK5 hT1 (by have := ctAll_lt hf108_2.1; omega) hE2 hE4 hO1) (show 2 ≤ w9 0 from hf108_3) (show w9 4 + 1 = _ by rw [hf108_4]) ((pCl_s (by omega) hpt hc9).symm.trans hf108_5) H locs hP hD hS ls (lv_sub (l' := [(0, .ref m0), (1, .int (nI z1))]) hl [0, 1] rfl)
                          · have hP : va_P D vwCl [(nw, .inl (cy 0, 29, .inl f)), (m0, .inr (7, [.ref ml, .ref mm, .ref mit, .ref ms, .int (st), .ref mt, .int (nI tn), .int (nI k9), .int (nI q9), .int (e1), .int (e2), .int (e3), .int (e4), .ref nw, .ref dr, .ref tr, .ref pa, .int (nI ac), .ref ig, .ref kx, .ref be, .ref tc, .int (nI td)])), (mt, .inl (cy 0, 100, .inl ft)), (dr, .inl (cy 0, 29, .inl g9))] H := hP
                            have hD : va_D A [(nw, .inl (cy 0, 29, .inl f)), (m0, .inr (7, [.ref ml, .ref mm, .ref mit, .ref ms, .int (st), .ref mt, .int (nI tn), .int (nI k9), .int (nI q9), .int (e1), .int (e2), .int (e3), .int (e4), .ref nw, .ref dr, .ref tr, .ref pa, .int (nI ac), .ref ig, .ref kx, .ref be, .ref tc, .int (nI td)])), (mt, .inl (cy 0, 100, .inl ft)), (dr, .inl (cy 0, 29, .inl g9))] := hD
                            refine lv_goto (tgt := 108) hx hb dX7_city_137 (by decide) ?_
                            refine lv_aload_n hx hb dX7_city_108 rfl (lv_at hl 0 rfl) ?_
                            refine q_rV (As := []) (rest := []) ⟨hx, hb, hml, hown, hts⟩ (c_X7_isWell_n l D cy m0 ml mm mit ms mt nw dr tr pa ig kx be tc st (nI k9) (nI q9) e1 e2 e3 e4 tn ac td q9 (by omega)) (cwV 0 hts gX7_city_X7_isWell rfl rfl rfl (by decide +kernel) ⟨Nat.le_of_ble_eq_true rfl, Nat.le_of_ble_eq_true rfl⟩) hP hK [1] rfl 1 rfl rfl rfl rfl hl.1 rfl (Nat.le_of_ble_eq_true rfl) dX7_city_109 ⟨Nat.zero_le _, Nat.zero_le _⟩ (fun r73 hr73 => ?_)
                            obtain rfl := hr73
                            refine lv_if_eq (tgt := 140) hx hb dX7_city_112 (by decide) (fun _ => ?_) (fun c9 => absurd (by decide) c9)
                            refine lv_aload_n hx hb dX7_city_140 rfl (lv_at hl 0 rfl) ?_
                            refine q_rV (As := []) (rest := []) ⟨hx, hb, hml, hown, hts⟩ (c_X7_isWell_n l D cy m0 ml mm mit ms mt nw dr tr pa ig kx be tc st (nI k9) (nI q9) e1 e2 e3 e4 tn ac td q9 (by omega)) (cwV 0 hts gX7_city_X7_isWell rfl rfl rfl (by decide +kernel) ⟨Nat.le_of_ble_eq_true rfl, Nat.le_of_ble_eq_true rfl⟩) hP hK [1] rfl 1 rfl rfl rfl rfl hl.1 rfl (Nat.le_of_ble_eq_true rfl) dX7_city_141 ⟨Nat.zero_le _, Nat.zero_le _⟩ (fun r74 hr74 => ?_)
                            obtain rfl := hr74
                            refine lv_if_eq (tgt := 161) hx hb dX7_city_144 (by decide) (fun _ => ?_) (fun c9 => absurd (by decide) c9)
                            refine lv_aload_n hx hb dX7_city_161 rfl (lv_at hl 0 rfl) ?_
                            refine lv_iconst (v := nI 0) hx hb dX7_city_162 (by decide) ?_
                            refine va_put (D := D) (ci := 7) (v := .int (nI 0)) (ty := .int) (C := RX7) (T := TX7) (N := 23) hx hb hts nX7_city_0 tyX7 tyX7_ok nmX7 hown hK.1 hP hD hS 1 rfl rfl 6 (by decide) (hts _ mX7_city_5) (fun _ h9 => h9) rfl (by decide +kernel) rfl rfl (Nat.le_of_ble_eq_true rfl) dX7_city_163 (fun H locs hP hD hS => ?_)
                            have hP : va_P D vwCl [(nw, .inl (cy 0, 29, .inl f)), (m0, .inr (7, [.ref ml, .ref mm, .ref mit, .ref ms, .int (st), .ref mt, .int (nI 0), .int (nI k9), .int (nI q9), .int (e1), .int (e2), .int (e3), .int (e4), .ref nw, .ref dr, .ref tr, .ref pa, .int (nI ac), .ref ig, .ref kx, .ref be, .ref tc, .int (nI td)])), (mt, .inl (cy 0, 100, .inl ft)), (dr, .inl (cy 0, 29, .inl g9))] H := hP
                            have hD : va_D A [(nw, .inl (cy 0, 29, .inl f)), (m0, .inr (7, [.ref ml, .ref mm, .ref mit, .ref ms, .int (st), .ref mt, .int (nI 0), .int (nI k9), .int (nI q9), .int (e1), .int (e2), .int (e3), .int (e4), .ref nw, .ref dr, .ref tr, .ref pa, .int (nI ac), .ref ig, .ref kx, .ref be, .ref tc, .int (nI td)])), (mt, .inl (cy 0, 100, .inl ft)), (dr, .inl (cy 0, 29, .inl g9))] := hD
                            refine lv_aload_n hx hb dX7_city_166 rfl (lv_at hl 0 rfl) ?_
                            refine q_rV (As := []) (rest := []) ⟨hx, hb, hml, hown, hts⟩ (c_X7_isWell_n l D cy m0 ml mm mit ms mt nw dr tr pa ig kx be tc st (nI k9) (nI q9) e1 e2 e3 e4 0 ac td q9 (by omega)) (cwV 0 hts gX7_city_X7_isWell rfl rfl rfl (by decide +kernel) ⟨Nat.le_of_ble_eq_true rfl, Nat.le_of_ble_eq_true rfl⟩) hP hK [1] rfl 1 rfl rfl rfl rfl hl.1 rfl (Nat.le_of_ble_eq_true rfl) dX7_city_167 ⟨Nat.zero_le _, Nat.zero_le _⟩ (fun r75 hr75 => ?_)
                            obtain rfl := hr75
                            refine lv_if_ne (tgt := 181) hx hb dX7_city_170 (by decide) (fun c9 => absurd (by decide) c9) (fun _ => ?_)
                            refine lv_ldc (v := (-1000100)) hx hb hown (hts _ mX7_city_6) dX7_city_173 ?_
                            refine lv_aload_n hx hb dX7_city_175 rfl (lv_at hl 0 rfl) ?_
                            refine va_get (D := D) (ci := 7) (v := .int (nI q9)) (C := RX7) (T := TX7) (N := 23) hx hb hts nX7_city_0 hown hK.1 hP 1 rfl rfl 8 (by decide) (hts _ mX7_city_2) (fun _ h9 => h9) rfl dX7_city_176 ?_
                            refine lv_isub hx hb dX7_city_179 ?_
                            have hP9 := hP.sub (ws' := [(m0, .inr (7, [.ref ml, .ref mm, .ref mit, .ref ms, .int (st), .ref mt, .int (nI 0), .int (nI k9), .int (nI q9), .int (e1), .int (e2), .int (e3), .int (e4), .ref nw, .ref dr, .ref tr, .ref pa, .int (nI ac), .ref ig, .ref kx, .ref be, .ref tc, .int (nI td)])), (mt, .inl (cy 0, 100, .inl ft)), (nw, .inl (cy 0, 29, .inl f)), (dr, .inl (cy 0, 29, .inl g9))]) [1, 2, 0, 3] rfl
                            have hD9 := hD.sub (ws' := [(m0, .inr (7, [.ref ml, .ref mm, .ref mit, .ref ms, .int (st), .ref mt, .int (nI 0), .int (nI k9), .int (nI q9), .int (e1), .int (e2), .int (e3), .int (e4), .ref nw, .ref dr, .ref tr, .ref pa, .int (nI ac), .ref ig, .ref kx, .ref be, .ref tc, .int (nI td)])), (mt, .inl (cy 0, 100, .inl ft)), (nw, .inl (cy 0, 29, .inl f)), (dr, .inl (cy 0, 29, .inl g9))]) [1, 2, 0, 3] (by decide) rfl
                            exact q_wiret (v := (-1000100) - (nI q9)) hx hb hr hlocks dX7_city_180 hP9 hD9 hS (Or.inr ⟨q9, k9, _, _, _, _, _, pCity_k hlaw hf108_5 (pCl_e (n := tn) (f := 7 - i) (p := pp) (w := w9) (by omega) hpt hc9), by omega, rfl, rfl⟩)
                  have hP := hP.sub (ws' := [(m0, .inr (7, [.ref ml, .ref mm, .ref mit, .ref ms, .int (st), .ref mt, .int (nI tn), .int (fk), .int ((-1)), .int (nI (tkE tp tn (tkE tp tn q2))), .int (nI (tkE tp tn q2)), .int (nI (tkK tp tn (tkE tp tn q2))), .int (tkV tp tn (tkE tp tn q2)), .ref nw, .ref dr, .ref tr, .ref pa, .int (nI ac), .ref ig, .ref kx, .ref be, .ref tc, .int (nI td)])), (mt, .inl (cy 0, 100, .inl ft)), (nw, .inl (cy 0, 29, .inl f)), (dr, .inl (cy 0, 29, .inl (upd (upd (fa_fill (fun _ => nI 0) gd z1) 0 (nI v1)) 1 (nI v2))))]) [2, 3, 0, 1] rfl
                  have hD := hD.sub (ws' := [(m0, .inr (7, [.ref ml, .ref mm, .ref mit, .ref ms, .int (st), .ref mt, .int (nI tn), .int (fk), .int ((-1)), .int (nI (tkE tp tn (tkE tp tn q2))), .int (nI (tkE tp tn q2)), .int (nI (tkK tp tn (tkE tp tn q2))), .int (tkV tp tn (tkE tp tn q2)), .ref nw, .ref dr, .ref tr, .ref pa, .int (nI ac), .ref ig, .ref kx, .ref be, .ref tc, .int (nI td)])), (mt, .inl (cy 0, 100, .inl ft)), (nw, .inl (cy 0, 29, .inl f)), (dr, .inl (cy 0, 29, .inl (upd (upd (fa_fill (fun _ => nI 0) gd z1) 0 (nI v1)) 1 (nI v2))))]) [2, 3, 0, 1] (by decide) rfl
                  exact L108_345 (7 + 1) 0 (by omega) (by omega) (tkE tp tn q2) (ctLaw v1 v2) (upd (upd (fa_fill (fun _ => nI 0) gd z1) 0 (nI v1)) 1 (nI v2)) (by omega) hmd0 (ctOk_law (by omega) (by omega)) (show 2 ≤ v1 by omega) rfl rfl H locs hP hD hS ls (lv_sub (l' := [(0, .ref m0), (1, .int (nI z1))]) hl [0, 1] rfl)
              · have hP : va_P D vwCl [(nw, .inl (cy 0, 29, .inl f)), (dr, .inl (cy 0, 29, .inl (upd (fa_fill (fun _ => nI 0) gd z1) 0 (nI v1)))), (m0, .inr (7, [.ref ml, .ref mm, .ref mit, .ref ms, .int (st), .ref mt, .int (nI tn), .int (nI k2), .int (nI q2), .int (e21), .int (e22), .int (e23), .int (e24), .ref nw, .ref dr, .ref tr, .ref pa, .int (nI ac), .ref ig, .ref kx, .ref be, .ref tc, .int (nI td)])), (mt, .inl (cy 0, 100, .inl ft))] H := hP
                have hD : va_D A [(nw, .inl (cy 0, 29, .inl f)), (dr, .inl (cy 0, 29, .inl (upd (fa_fill (fun _ => nI 0) gd z1) 0 (nI v1)))), (m0, .inr (7, [.ref ml, .ref mm, .ref mit, .ref ms, .int (st), .ref mt, .int (nI tn), .int (nI k2), .int (nI q2), .int (e21), .int (e22), .int (e23), .int (e24), .ref nw, .ref dr, .ref tr, .ref pa, .int (nI ac), .ref ig, .ref kx, .ref be, .ref tc, .int (nI td)])), (mt, .inl (cy 0, 100, .inl ft))] := hD
                refine q_iast (j := 1) hx hb hK hP hD hS 1 rfl (by omega) (by decide) dX7_city_88 (fun H locs hP hD hS => ?_)
                have hP : va_P D vwCl [(nw, .inl (cy 0, 29, .inl f)), (dr, .inl (cy 0, 29, .inl (upd (upd (fa_fill (fun _ => nI 0) gd z1) 0 (nI v1)) 1 (nI 0)))), (m0, .inr (7, [.ref ml, .ref mm, .ref mit, .ref ms, .int (st), .ref mt, .int (nI tn), .int (nI k2), .int (nI q2), .int (e21), .int (e22), .int (e23), .int (e24), .ref nw, .ref dr, .ref tr, .ref pa, .int (nI ac), .ref ig, .ref kx, .ref be, .ref tc, .int (nI td)])), (mt, .inl (cy 0, 100, .inl ft))] H := hP
                have hD : va_D A [(nw, .inl (cy 0, 29, .inl f)), (dr, .inl (cy 0, 29, .inl (upd (upd (fa_fill (fun _ => nI 0) gd z1) 0 (nI v1)) 1 (nI 0)))), (m0, .inr (7, [.ref ml, .ref mm, .ref mit, .ref ms, .int (st), .ref mt, .int (nI tn), .int (nI k2), .int (nI q2), .int (e21), .int (e22), .int (e23), .int (e24), .ref nw, .ref dr, .ref tr, .ref pa, .int (nI ac), .ref ig, .ref kx, .ref be, .ref tc, .int (nI td)])), (mt, .inl (cy 0, 100, .inl ft))] := hD
                refine lv_aload_n hx hb dX7_city_89 rfl (lv_at hl 0 rfl) ?_
                refine lv_aload_n hx hb dX7_city_90 rfl (lv_at hl 0 rfl) ?_
                refine va_get (D := D) (ci := 7) (v := .int (e23)) (C := RX7) (T := TX7) (N := 23) hx hb hts nX7_city_0 hown hK.1 hP 2 rfl rfl 11 (by decide) (hts _ mX7_city_3) (fun _ h9 => h9) rfl dX7_city_91 ?_
                refine lv_iconst (v := nI 4) hx hb dX7_city_94 (by decide) ?_
                refine lv_icmp_ne (tgt := 102) hx hb dX7_city_95 (by decide) (fun c76 => ?_) (fun c76 => ?_)
                · refine lv_iconst (v := nI 0) hx hb dX7_city_102 (by decide) ?_
                  refine lv_iconst (v := nI 1) hx hb dX7_city_103 (by decide) ?_
                  refine q_wiV (As := [.int (nI 0), .int (nI 1)]) (rest := []) (wr := [(nw, .inl (cy 0, 29, .inl f)), (dr, .inl (cy 0, 29, .inl (upd (upd (fa_fill (fun _ => nI 0) gd z1) 0 (nI v1)) 1 (nI 0)))), (mt, .inl (cy 0, 100, .inl ft))]) ⟨hx, hb, hml, hown, hts⟩ (c_X7_takes_e l D cy m0 ml mm mit ms mt nw dr tr pa ig kx be tc st (nI k2) (nI q2) e21 e22 e23 e24 tn ac td q2 (by omega) (nI 0) (nI 1)) (cwV 2 hts gX7_city_X7_takes rfl rfl rfl (by decide +kernel) ⟨Nat.le_of_ble_eq_true rfl, Nat.le_of_ble_eq_true rfl⟩) hP hD hS hA hK [2] [0, 1, 3] rfl rfl (by decide) rfl (by decide) (by decide) 2 rfl rfl rfl rfl hl.1 rfl (Nat.le_of_ble_eq_true rfl) dX7_city_104 ⟨Nat.zero_le _, Nat.zero_le _⟩ (fun r77 u78 H locs hr77 hP hD hS => ?_)
                  obtain ⟨rfl, rfl⟩ := hr77
                  have hP : va_P D vwCl [(nw, .inl (cy 0, 29, .inl f)), (dr, .inl (cy 0, 29, .inl (upd (upd (fa_fill (fun _ => nI 0) gd z1) 0 (nI v1)) 1 (nI 0)))), (mt, .inl (cy 0, 100, .inl ft)), (m0, .inr (7, [.ref ml, .ref mm, .ref mit, .ref ms, .int (st), .ref mt, .int (nI tn), .int (nI k2), .int (nI q2), .int (e21), .int (e22), .int (e23), .int (e24), .ref nw, .ref dr, .ref tr, .ref pa, .int (nI ac), .ref ig, .ref kx, .ref be, .ref tc, .int (nI td)]))] H := hP
                  have hD : va_D A [(nw, .inl (cy 0, 29, .inl f)), (dr, .inl (cy 0, 29, .inl (upd (upd (fa_fill (fun _ => nI 0) gd z1) 0 (nI v1)) 1 (nI 0)))), (mt, .inl (cy 0, 100, .inl ft)), (m0, .inr (7, [.ref ml, .ref mm, .ref mit, .ref ms, .int (st), .ref mt, .int (nI tn), .int (nI k2), .int (nI q2), .int (e21), .int (e22), .int (e23), .int (e24), .ref nw, .ref dr, .ref tr, .ref pa, .int (nI ac), .ref ig, .ref kx, .ref be, .ref tc, .int (nI td)]))] := hD
                  refine lv_pop hx hb dX7_city_107 rfl ?_
                  refine lv_aload_n hx hb dX7_city_108 rfl (lv_at hl 0 rfl) ?_
                  refine q_rV (As := []) (rest := []) ⟨hx, hb, hml, hown, hts⟩ (c_X7_isWell_n l D cy m0 ml mm mit ms mt nw dr tr pa ig kx be tc st (nI k2) (nI q2) e21 e22 e23 e24 tn ac td q2 (by omega)) (cwV 0 hts gX7_city_X7_isWell rfl rfl rfl (by decide +kernel) ⟨Nat.le_of_ble_eq_true rfl, Nat.le_of_ble_eq_true rfl⟩) hP hK [3] rfl 3 rfl rfl rfl rfl hl.1 rfl (Nat.le_of_ble_eq_true rfl) dX7_city_109 ⟨Nat.zero_le _, Nat.zero_le _⟩ (fun r79 hr79 => ?_)
                  obtain rfl := hr79
                  refine lv_if_eq (tgt := 140) hx hb dX7_city_112 (by decide) (fun _ => ?_) (fun c9 => absurd (by decide) c9)
                  refine lv_aload_n hx hb dX7_city_140 rfl (lv_at hl 0 rfl) ?_
                  refine q_rV (As := []) (rest := []) ⟨hx, hb, hml, hown, hts⟩ (c_X7_isWell_n l D cy m0 ml mm mit ms mt nw dr tr pa ig kx be tc st (nI k2) (nI q2) e21 e22 e23 e24 tn ac td q2 (by omega)) (cwV 0 hts gX7_city_X7_isWell rfl rfl rfl (by decide +kernel) ⟨Nat.le_of_ble_eq_true rfl, Nat.le_of_ble_eq_true rfl⟩) hP hK [3] rfl 3 rfl rfl rfl rfl hl.1 rfl (Nat.le_of_ble_eq_true rfl) dX7_city_141 ⟨Nat.zero_le _, Nat.zero_le _⟩ (fun r80 hr80 => ?_)
                  obtain rfl := hr80
                  refine lv_if_eq (tgt := 161) hx hb dX7_city_144 (by decide) (fun _ => ?_) (fun c9 => absurd (by decide) c9)
                  refine lv_aload_n hx hb dX7_city_161 rfl (lv_at hl 0 rfl) ?_
                  refine lv_iconst (v := nI 0) hx hb dX7_city_162 (by decide) ?_
                  refine va_put (D := D) (ci := 7) (v := .int (nI 0)) (ty := .int) (C := RX7) (T := TX7) (N := 23) hx hb hts nX7_city_0 tyX7 tyX7_ok nmX7 hown hK.1 hP hD hS 3 rfl rfl 6 (by decide) (hts _ mX7_city_5) (fun _ h9 => h9) rfl (by decide +kernel) rfl rfl (Nat.le_of_ble_eq_true rfl) dX7_city_163 (fun H locs hP hD hS => ?_)
                  have hP : va_P D vwCl [(nw, .inl (cy 0, 29, .inl f)), (dr, .inl (cy 0, 29, .inl (upd (upd (fa_fill (fun _ => nI 0) gd z1) 0 (nI v1)) 1 (nI 0)))), (mt, .inl (cy 0, 100, .inl ft)), (m0, .inr (7, [.ref ml, .ref mm, .ref mit, .ref ms, .int (st), .ref mt, .int (nI 0), .int (nI k2), .int (nI q2), .int (e21), .int (e22), .int (e23), .int (e24), .ref nw, .ref dr, .ref tr, .ref pa, .int (nI ac), .ref ig, .ref kx, .ref be, .ref tc, .int (nI td)]))] H := hP
                  have hD : va_D A [(nw, .inl (cy 0, 29, .inl f)), (dr, .inl (cy 0, 29, .inl (upd (upd (fa_fill (fun _ => nI 0) gd z1) 0 (nI v1)) 1 (nI 0)))), (mt, .inl (cy 0, 100, .inl ft)), (m0, .inr (7, [.ref ml, .ref mm, .ref mit, .ref ms, .int (st), .ref mt, .int (nI 0), .int (nI k2), .int (nI q2), .int (e21), .int (e22), .int (e23), .int (e24), .ref nw, .ref dr, .ref tr, .ref pa, .int (nI ac), .ref ig, .ref kx, .ref be, .ref tc, .int (nI td)]))] := hD
                  refine lv_aload_n hx hb dX7_city_166 rfl (lv_at hl 0 rfl) ?_
                  refine q_rV (As := []) (rest := []) ⟨hx, hb, hml, hown, hts⟩ (c_X7_isWell_n l D cy m0 ml mm mit ms mt nw dr tr pa ig kx be tc st (nI k2) (nI q2) e21 e22 e23 e24 0 ac td q2 (by omega)) (cwV 0 hts gX7_city_X7_isWell rfl rfl rfl (by decide +kernel) ⟨Nat.le_of_ble_eq_true rfl, Nat.le_of_ble_eq_true rfl⟩) hP hK [3] rfl 3 rfl rfl rfl rfl hl.1 rfl (Nat.le_of_ble_eq_true rfl) dX7_city_167 ⟨Nat.zero_le _, Nat.zero_le _⟩ (fun r81 hr81 => ?_)
                  obtain rfl := hr81
                  refine lv_if_ne (tgt := 181) hx hb dX7_city_170 (by decide) (fun c9 => absurd (by decide) c9) (fun _ => ?_)
                  refine lv_ldc (v := (-1000100)) hx hb hown (hts _ mX7_city_6) dX7_city_173 ?_
                  refine lv_aload_n hx hb dX7_city_175 rfl (lv_at hl 0 rfl) ?_
                  refine va_get (D := D) (ci := 7) (v := .int (nI q2)) (C := RX7) (T := TX7) (N := 23) hx hb hts nX7_city_0 hown hK.1 hP 3 rfl rfl 8 (by decide) (hts _ mX7_city_2) (fun _ h9 => h9) rfl dX7_city_176 ?_
                  refine lv_isub hx hb dX7_city_179 ?_
                  have hP9 := hP.sub (ws' := [(m0, .inr (7, [.ref ml, .ref mm, .ref mit, .ref ms, .int (st), .ref mt, .int (nI 0), .int (nI k2), .int (nI q2), .int (e21), .int (e22), .int (e23), .int (e24), .ref nw, .ref dr, .ref tr, .ref pa, .int (nI ac), .ref ig, .ref kx, .ref be, .ref tc, .int (nI td)])), (mt, .inl (cy 0, 100, .inl ft)), (nw, .inl (cy 0, 29, .inl f)), (dr, .inl (cy 0, 29, .inl (upd (upd (fa_fill (fun _ => nI 0) gd z1) 0 (nI v1)) 1 (nI 0))))]) [3, 2, 0, 1] rfl
                  have hD9 := hD.sub (ws' := [(m0, .inr (7, [.ref ml, .ref mm, .ref mit, .ref ms, .int (st), .ref mt, .int (nI 0), .int (nI k2), .int (nI q2), .int (e21), .int (e22), .int (e23), .int (e24), .ref nw, .ref dr, .ref tr, .ref pa, .int (nI ac), .ref ig, .ref kx, .ref be, .ref tc, .int (nI td)])), (mt, .inl (cy 0, 100, .inl ft)), (nw, .inl (cy 0, 29, .inl f)), (dr, .inl (cy 0, 29, .inl (upd (upd (fa_fill (fun _ => nI 0) gd z1) 0 (nI v1)) 1 (nI 0))))]) [3, 2, 0, 1] (by decide) rfl
                  exact q_wiret (v := (-1000100) - (nI q2)) hx hb hr hlocks dX7_city_180 hP9 hD9 hS (Or.inr ⟨q2, k2, _, _, _, _, _, by simp only [pCity, pLaw, htc, hn1, hnt2, Except.bind], by omega, rfl, rfl⟩)
                · refine lv_iconst (v := nI 1) hx hb dX7_city_98 (by decide) ?_
                  refine lv_goto (tgt := 103) hx hb dX7_city_99 (by decide) ?_
                  refine lv_iconst (v := nI 1) hx hb dX7_city_103 (by decide) ?_
                  refine q_wiV (As := [.int (nI 1), .int (nI 1)]) (rest := []) (wr := [(nw, .inl (cy 0, 29, .inl f)), (dr, .inl (cy 0, 29, .inl (upd (upd (fa_fill (fun _ => nI 0) gd z1) 0 (nI v1)) 1 (nI 0)))), (mt, .inl (cy 0, 100, .inl ft))]) ⟨hx, hb, hml, hown, hts⟩ (c_X7_takes_e l D cy m0 ml mm mit ms mt nw dr tr pa ig kx be tc st (nI k2) (nI q2) e21 e22 e23 e24 tn ac td q2 (by omega) (nI 1) (nI 1)) (cwV 2 hts gX7_city_X7_takes rfl rfl rfl (by decide +kernel) ⟨Nat.le_of_ble_eq_true rfl, Nat.le_of_ble_eq_true rfl⟩) hP hD hS hA hK [2] [0, 1, 3] rfl rfl (by decide) rfl (by decide) (by decide) 2 rfl rfl rfl rfl hl.1 rfl (Nat.le_of_ble_eq_true rfl) dX7_city_104 ⟨Nat.zero_le _, Nat.zero_le _⟩ (fun r82 u83 H locs hr82 hP hD hS => ?_)
                  obtain ⟨rfl, rfl⟩ := hr82
                  have hP : va_P D vwCl [(nw, .inl (cy 0, 29, .inl f)), (dr, .inl (cy 0, 29, .inl (upd (upd (fa_fill (fun _ => nI 0) gd z1) 0 (nI v1)) 1 (nI 0)))), (mt, .inl (cy 0, 100, .inl ft)), (m0, .inr (7, [.ref ml, .ref mm, .ref mit, .ref ms, .int (st), .ref mt, .int (nI tn), .int (nI k2), .int (nI q2), .int (e21), .int (e22), .int (e23), .int (e24), .ref nw, .ref dr, .ref tr, .ref pa, .int (nI ac), .ref ig, .ref kx, .ref be, .ref tc, .int (nI td)]))] H := hP
                  have hD : va_D A [(nw, .inl (cy 0, 29, .inl f)), (dr, .inl (cy 0, 29, .inl (upd (upd (fa_fill (fun _ => nI 0) gd z1) 0 (nI v1)) 1 (nI 0)))), (mt, .inl (cy 0, 100, .inl ft)), (m0, .inr (7, [.ref ml, .ref mm, .ref mit, .ref ms, .int (st), .ref mt, .int (nI tn), .int (nI k2), .int (nI q2), .int (e21), .int (e22), .int (e23), .int (e24), .ref nw, .ref dr, .ref tr, .ref pa, .int (nI ac), .ref ig, .ref kx, .ref be, .ref tc, .int (nI td)]))] := hD
                  refine lv_pop hx hb dX7_city_107 rfl ?_
                  refine lv_aload_n hx hb dX7_city_108 rfl (lv_at hl 0 rfl) ?_
                  refine q_rV (As := []) (rest := []) ⟨hx, hb, hml, hown, hts⟩ (c_X7_isWell_n l D cy m0 ml mm mit ms mt nw dr tr pa ig kx be tc st (nI k2) (nI q2) e21 e22 e23 e24 tn ac td q2 (by omega)) (cwV 0 hts gX7_city_X7_isWell rfl rfl rfl (by decide +kernel) ⟨Nat.le_of_ble_eq_true rfl, Nat.le_of_ble_eq_true rfl⟩) hP hK [3] rfl 3 rfl rfl rfl rfl hl.1 rfl (Nat.le_of_ble_eq_true rfl) dX7_city_109 ⟨Nat.zero_le _, Nat.zero_le _⟩ (fun r84 hr84 => ?_)
                  obtain rfl := hr84
                  refine lv_if_eq (tgt := 140) hx hb dX7_city_112 (by decide) (fun _ => ?_) (fun c9 => absurd (by decide) c9)
                  refine lv_aload_n hx hb dX7_city_140 rfl (lv_at hl 0 rfl) ?_
                  refine q_rV (As := []) (rest := []) ⟨hx, hb, hml, hown, hts⟩ (c_X7_isWell_n l D cy m0 ml mm mit ms mt nw dr tr pa ig kx be tc st (nI k2) (nI q2) e21 e22 e23 e24 tn ac td q2 (by omega)) (cwV 0 hts gX7_city_X7_isWell rfl rfl rfl (by decide +kernel) ⟨Nat.le_of_ble_eq_true rfl, Nat.le_of_ble_eq_true rfl⟩) hP hK [3] rfl 3 rfl rfl rfl rfl hl.1 rfl (Nat.le_of_ble_eq_true rfl) dX7_city_141 ⟨Nat.zero_le _, Nat.zero_le _⟩ (fun r85 hr85 => ?_)
                  obtain rfl := hr85
                  refine lv_if_eq (tgt := 161) hx hb dX7_city_144 (by decide) (fun _ => ?_) (fun c9 => absurd (by decide) c9)
                  refine lv_aload_n hx hb dX7_city_161 rfl (lv_at hl 0 rfl) ?_
                  refine lv_iconst (v := nI 0) hx hb dX7_city_162 (by decide) ?_
                  refine va_put (D := D) (ci := 7) (v := .int (nI 0)) (ty := .int) (C := RX7) (T := TX7) (N := 23) hx hb hts nX7_city_0 tyX7 tyX7_ok nmX7 hown hK.1 hP hD hS 3 rfl rfl 6 (by decide) (hts _ mX7_city_5) (fun _ h9 => h9) rfl (by decide +kernel) rfl rfl (Nat.le_of_ble_eq_true rfl) dX7_city_163 (fun H locs hP hD hS => ?_)
                  have hP : va_P D vwCl [(nw, .inl (cy 0, 29, .inl f)), (dr, .inl (cy 0, 29, .inl (upd (upd (fa_fill (fun _ => nI 0) gd z1) 0 (nI v1)) 1 (nI 0)))), (mt, .inl (cy 0, 100, .inl ft)), (m0, .inr (7, [.ref ml, .ref mm, .ref mit, .ref ms, .int (st), .ref mt, .int (nI 0), .int (nI k2), .int (nI q2), .int (e21), .int (e22), .int (e23), .int (e24), .ref nw, .ref dr, .ref tr, .ref pa, .int (nI ac), .ref ig, .ref kx, .ref be, .ref tc, .int (nI td)]))] H := hP
                  have hD : va_D A [(nw, .inl (cy 0, 29, .inl f)), (dr, .inl (cy 0, 29, .inl (upd (upd (fa_fill (fun _ => nI 0) gd z1) 0 (nI v1)) 1 (nI 0)))), (mt, .inl (cy 0, 100, .inl ft)), (m0, .inr (7, [.ref ml, .ref mm, .ref mit, .ref ms, .int (st), .ref mt, .int (nI 0), .int (nI k2), .int (nI q2), .int (e21), .int (e22), .int (e23), .int (e24), .ref nw, .ref dr, .ref tr, .ref pa, .int (nI ac), .ref ig, .ref kx, .ref be, .ref tc, .int (nI td)]))] := hD
                  refine lv_aload_n hx hb dX7_city_166 rfl (lv_at hl 0 rfl) ?_
                  refine q_rV (As := []) (rest := []) ⟨hx, hb, hml, hown, hts⟩ (c_X7_isWell_n l D cy m0 ml mm mit ms mt nw dr tr pa ig kx be tc st (nI k2) (nI q2) e21 e22 e23 e24 0 ac td q2 (by omega)) (cwV 0 hts gX7_city_X7_isWell rfl rfl rfl (by decide +kernel) ⟨Nat.le_of_ble_eq_true rfl, Nat.le_of_ble_eq_true rfl⟩) hP hK [3] rfl 3 rfl rfl rfl rfl hl.1 rfl (Nat.le_of_ble_eq_true rfl) dX7_city_167 ⟨Nat.zero_le _, Nat.zero_le _⟩ (fun r86 hr86 => ?_)
                  obtain rfl := hr86
                  refine lv_if_ne (tgt := 181) hx hb dX7_city_170 (by decide) (fun c9 => absurd (by decide) c9) (fun _ => ?_)
                  refine lv_ldc (v := (-1000100)) hx hb hown (hts _ mX7_city_6) dX7_city_173 ?_
                  refine lv_aload_n hx hb dX7_city_175 rfl (lv_at hl 0 rfl) ?_
                  refine va_get (D := D) (ci := 7) (v := .int (nI q2)) (C := RX7) (T := TX7) (N := 23) hx hb hts nX7_city_0 hown hK.1 hP 3 rfl rfl 8 (by decide) (hts _ mX7_city_2) (fun _ h9 => h9) rfl dX7_city_176 ?_
                  refine lv_isub hx hb dX7_city_179 ?_
                  have hP9 := hP.sub (ws' := [(m0, .inr (7, [.ref ml, .ref mm, .ref mit, .ref ms, .int (st), .ref mt, .int (nI 0), .int (nI k2), .int (nI q2), .int (e21), .int (e22), .int (e23), .int (e24), .ref nw, .ref dr, .ref tr, .ref pa, .int (nI ac), .ref ig, .ref kx, .ref be, .ref tc, .int (nI td)])), (mt, .inl (cy 0, 100, .inl ft)), (nw, .inl (cy 0, 29, .inl f)), (dr, .inl (cy 0, 29, .inl (upd (upd (fa_fill (fun _ => nI 0) gd z1) 0 (nI v1)) 1 (nI 0))))]) [3, 2, 0, 1] rfl
                  have hD9 := hD.sub (ws' := [(m0, .inr (7, [.ref ml, .ref mm, .ref mit, .ref ms, .int (st), .ref mt, .int (nI 0), .int (nI k2), .int (nI q2), .int (e21), .int (e22), .int (e23), .int (e24), .ref nw, .ref dr, .ref tr, .ref pa, .int (nI ac), .ref ig, .ref kx, .ref be, .ref tc, .int (nI td)])), (mt, .inl (cy 0, 100, .inl ft)), (nw, .inl (cy 0, 29, .inl f)), (dr, .inl (cy 0, 29, .inl (upd (upd (fa_fill (fun _ => nI 0) gd z1) 0 (nI v1)) 1 (nI 0))))]) [3, 2, 0, 1] (by decide) rfl
                  exact q_wiret (v := (-1000100) - (nI q2)) hx hb hr hlocks dX7_city_180 hP9 hD9 hS (Or.inr ⟨q2, k2, _, _, _, _, _, by simp only [pCity, pLaw, htc, hn1, hnt2, Except.bind], by omega, rfl, rfl⟩)
              · have hP : va_P D vwCl [(nw, .inl (cy 0, 29, .inl f)), (dr, .inl (cy 0, 29, .inl (upd (fa_fill (fun _ => nI 0) gd z1) 0 (nI v1)))), (m0, .inr (7, [.ref ml, .ref mm, .ref mit, .ref ms, .int (st), .ref mt, .int (nI tn), .int (nI k2), .int (nI q2), .int (e21), .int (e22), .int (e23), .int (e24), .ref nw, .ref dr, .ref tr, .ref pa, .int (nI ac), .ref ig, .ref kx, .ref be, .ref tc, .int (nI td)])), (mt, .inl (cy 0, 100, .inl ft))] H := hP
                have hD : va_D A [(nw, .inl (cy 0, 29, .inl f)), (dr, .inl (cy 0, 29, .inl (upd (fa_fill (fun _ => nI 0) gd z1) 0 (nI v1)))), (m0, .inr (7, [.ref ml, .ref mm, .ref mit, .ref ms, .int (st), .ref mt, .int (nI tn), .int (nI k2), .int (nI q2), .int (e21), .int (e22), .int (e23), .int (e24), .ref nw, .ref dr, .ref tr, .ref pa, .int (nI ac), .ref ig, .ref kx, .ref be, .ref tc, .int (nI td)])), (mt, .inl (cy 0, 100, .inl ft))] := hD
                refine q_iast (j := 1) hx hb hK hP hD hS 1 rfl (by omega) (by decide) dX7_city_88 (fun H locs hP hD hS => ?_)
                have hP : va_P D vwCl [(nw, .inl (cy 0, 29, .inl f)), (dr, .inl (cy 0, 29, .inl (upd (upd (fa_fill (fun _ => nI 0) gd z1) 0 (nI v1)) 1 (nI 0)))), (m0, .inr (7, [.ref ml, .ref mm, .ref mit, .ref ms, .int (st), .ref mt, .int (nI tn), .int (nI k2), .int (nI q2), .int (e21), .int (e22), .int (e23), .int (e24), .ref nw, .ref dr, .ref tr, .ref pa, .int (nI ac), .ref ig, .ref kx, .ref be, .ref tc, .int (nI td)])), (mt, .inl (cy 0, 100, .inl ft))] H := hP
                have hD : va_D A [(nw, .inl (cy 0, 29, .inl f)), (dr, .inl (cy 0, 29, .inl (upd (upd (fa_fill (fun _ => nI 0) gd z1) 0 (nI v1)) 1 (nI 0)))), (m0, .inr (7, [.ref ml, .ref mm, .ref mit, .ref ms, .int (st), .ref mt, .int (nI tn), .int (nI k2), .int (nI q2), .int (e21), .int (e22), .int (e23), .int (e24), .ref nw, .ref dr, .ref tr, .ref pa, .int (nI ac), .ref ig, .ref kx, .ref be, .ref tc, .int (nI td)])), (mt, .inl (cy 0, 100, .inl ft))] := hD
                refine lv_aload_n hx hb dX7_city_89 rfl (lv_at hl 0 rfl) ?_
                refine lv_aload_n hx hb dX7_city_90 rfl (lv_at hl 0 rfl) ?_
                refine va_get (D := D) (ci := 7) (v := .int (e23)) (C := RX7) (T := TX7) (N := 23) hx hb hts nX7_city_0 hown hK.1 hP 2 rfl rfl 11 (by decide) (hts _ mX7_city_3) (fun _ h9 => h9) rfl dX7_city_91 ?_
                refine lv_iconst (v := nI 4) hx hb dX7_city_94 (by decide) ?_
                refine lv_icmp_ne (tgt := 102) hx hb dX7_city_95 (by decide) (fun c87 => ?_) (fun c87 => ?_)
                · refine lv_iconst (v := nI 0) hx hb dX7_city_102 (by decide) ?_
                  refine lv_iconst (v := nI 1) hx hb dX7_city_103 (by decide) ?_
                  refine q_wiV (As := [.int (nI 0), .int (nI 1)]) (rest := []) (wr := [(nw, .inl (cy 0, 29, .inl f)), (dr, .inl (cy 0, 29, .inl (upd (upd (fa_fill (fun _ => nI 0) gd z1) 0 (nI v1)) 1 (nI 0)))), (mt, .inl (cy 0, 100, .inl ft))]) ⟨hx, hb, hml, hown, hts⟩ (c_X7_takes_e l D cy m0 ml mm mit ms mt nw dr tr pa ig kx be tc st (nI k2) (nI q2) e21 e22 e23 e24 tn ac td q2 (by omega) (nI 0) (nI 1)) (cwV 2 hts gX7_city_X7_takes rfl rfl rfl (by decide +kernel) ⟨Nat.le_of_ble_eq_true rfl, Nat.le_of_ble_eq_true rfl⟩) hP hD hS hA hK [2] [0, 1, 3] rfl rfl (by decide) rfl (by decide) (by decide) 2 rfl rfl rfl rfl hl.1 rfl (Nat.le_of_ble_eq_true rfl) dX7_city_104 ⟨Nat.zero_le _, Nat.zero_le _⟩ (fun r88 u89 H locs hr88 hP hD hS => ?_)
                  obtain ⟨rfl, rfl⟩ := hr88
                  have hP : va_P D vwCl [(nw, .inl (cy 0, 29, .inl f)), (dr, .inl (cy 0, 29, .inl (upd (upd (fa_fill (fun _ => nI 0) gd z1) 0 (nI v1)) 1 (nI 0)))), (mt, .inl (cy 0, 100, .inl ft)), (m0, .inr (7, [.ref ml, .ref mm, .ref mit, .ref ms, .int (st), .ref mt, .int (nI tn), .int (nI k2), .int (nI q2), .int (e21), .int (e22), .int (e23), .int (e24), .ref nw, .ref dr, .ref tr, .ref pa, .int (nI ac), .ref ig, .ref kx, .ref be, .ref tc, .int (nI td)]))] H := hP
                  have hD : va_D A [(nw, .inl (cy 0, 29, .inl f)), (dr, .inl (cy 0, 29, .inl (upd (upd (fa_fill (fun _ => nI 0) gd z1) 0 (nI v1)) 1 (nI 0)))), (mt, .inl (cy 0, 100, .inl ft)), (m0, .inr (7, [.ref ml, .ref mm, .ref mit, .ref ms, .int (st), .ref mt, .int (nI tn), .int (nI k2), .int (nI q2), .int (e21), .int (e22), .int (e23), .int (e24), .ref nw, .ref dr, .ref tr, .ref pa, .int (nI ac), .ref ig, .ref kx, .ref be, .ref tc, .int (nI td)]))] := hD
                  refine lv_pop hx hb dX7_city_107 rfl ?_
                  refine lv_aload_n hx hb dX7_city_108 rfl (lv_at hl 0 rfl) ?_
                  refine q_rV (As := []) (rest := []) ⟨hx, hb, hml, hown, hts⟩ (c_X7_isWell_n l D cy m0 ml mm mit ms mt nw dr tr pa ig kx be tc st (nI k2) (nI q2) e21 e22 e23 e24 tn ac td q2 (by omega)) (cwV 0 hts gX7_city_X7_isWell rfl rfl rfl (by decide +kernel) ⟨Nat.le_of_ble_eq_true rfl, Nat.le_of_ble_eq_true rfl⟩) hP hK [3] rfl 3 rfl rfl rfl rfl hl.1 rfl (Nat.le_of_ble_eq_true rfl) dX7_city_109 ⟨Nat.zero_le _, Nat.zero_le _⟩ (fun r90 hr90 => ?_)
                  obtain rfl := hr90
                  refine lv_if_eq (tgt := 140) hx hb dX7_city_112 (by decide) (fun _ => ?_) (fun c9 => absurd (by decide) c9)
                  refine lv_aload_n hx hb dX7_city_140 rfl (lv_at hl 0 rfl) ?_
                  refine q_rV (As := []) (rest := []) ⟨hx, hb, hml, hown, hts⟩ (c_X7_isWell_n l D cy m0 ml mm mit ms mt nw dr tr pa ig kx be tc st (nI k2) (nI q2) e21 e22 e23 e24 tn ac td q2 (by omega)) (cwV 0 hts gX7_city_X7_isWell rfl rfl rfl (by decide +kernel) ⟨Nat.le_of_ble_eq_true rfl, Nat.le_of_ble_eq_true rfl⟩) hP hK [3] rfl 3 rfl rfl rfl rfl hl.1 rfl (Nat.le_of_ble_eq_true rfl) dX7_city_141 ⟨Nat.zero_le _, Nat.zero_le _⟩ (fun r91 hr91 => ?_)
                  obtain rfl := hr91
                  refine lv_if_eq (tgt := 161) hx hb dX7_city_144 (by decide) (fun _ => ?_) (fun c9 => absurd (by decide) c9)
                  refine lv_aload_n hx hb dX7_city_161 rfl (lv_at hl 0 rfl) ?_
                  refine lv_iconst (v := nI 0) hx hb dX7_city_162 (by decide) ?_
                  refine va_put (D := D) (ci := 7) (v := .int (nI 0)) (ty := .int) (C := RX7) (T := TX7) (N := 23) hx hb hts nX7_city_0 tyX7 tyX7_ok nmX7 hown hK.1 hP hD hS 3 rfl rfl 6 (by decide) (hts _ mX7_city_5) (fun _ h9 => h9) rfl (by decide +kernel) rfl rfl (Nat.le_of_ble_eq_true rfl) dX7_city_163 (fun H locs hP hD hS => ?_)
                  have hP : va_P D vwCl [(nw, .inl (cy 0, 29, .inl f)), (dr, .inl (cy 0, 29, .inl (upd (upd (fa_fill (fun _ => nI 0) gd z1) 0 (nI v1)) 1 (nI 0)))), (mt, .inl (cy 0, 100, .inl ft)), (m0, .inr (7, [.ref ml, .ref mm, .ref mit, .ref ms, .int (st), .ref mt, .int (nI 0), .int (nI k2), .int (nI q2), .int (e21), .int (e22), .int (e23), .int (e24), .ref nw, .ref dr, .ref tr, .ref pa, .int (nI ac), .ref ig, .ref kx, .ref be, .ref tc, .int (nI td)]))] H := hP
                  have hD : va_D A [(nw, .inl (cy 0, 29, .inl f)), (dr, .inl (cy 0, 29, .inl (upd (upd (fa_fill (fun _ => nI 0) gd z1) 0 (nI v1)) 1 (nI 0)))), (mt, .inl (cy 0, 100, .inl ft)), (m0, .inr (7, [.ref ml, .ref mm, .ref mit, .ref ms, .int (st), .ref mt, .int (nI 0), .int (nI k2), .int (nI q2), .int (e21), .int (e22), .int (e23), .int (e24), .ref nw, .ref dr, .ref tr, .ref pa, .int (nI ac), .ref ig, .ref kx, .ref be, .ref tc, .int (nI td)]))] := hD
                  refine lv_aload_n hx hb dX7_city_166 rfl (lv_at hl 0 rfl) ?_
                  refine q_rV (As := []) (rest := []) ⟨hx, hb, hml, hown, hts⟩ (c_X7_isWell_n l D cy m0 ml mm mit ms mt nw dr tr pa ig kx be tc st (nI k2) (nI q2) e21 e22 e23 e24 0 ac td q2 (by omega)) (cwV 0 hts gX7_city_X7_isWell rfl rfl rfl (by decide +kernel) ⟨Nat.le_of_ble_eq_true rfl, Nat.le_of_ble_eq_true rfl⟩) hP hK [3] rfl 3 rfl rfl rfl rfl hl.1 rfl (Nat.le_of_ble_eq_true rfl) dX7_city_167 ⟨Nat.zero_le _, Nat.zero_le _⟩ (fun r92 hr92 => ?_)
                  obtain rfl := hr92
                  refine lv_if_ne (tgt := 181) hx hb dX7_city_170 (by decide) (fun c9 => absurd (by decide) c9) (fun _ => ?_)
                  refine lv_ldc (v := (-1000100)) hx hb hown (hts _ mX7_city_6) dX7_city_173 ?_
                  refine lv_aload_n hx hb dX7_city_175 rfl (lv_at hl 0 rfl) ?_
                  refine va_get (D := D) (ci := 7) (v := .int (nI q2)) (C := RX7) (T := TX7) (N := 23) hx hb hts nX7_city_0 hown hK.1 hP 3 rfl rfl 8 (by decide) (hts _ mX7_city_2) (fun _ h9 => h9) rfl dX7_city_176 ?_
                  refine lv_isub hx hb dX7_city_179 ?_
                  have hP9 := hP.sub (ws' := [(m0, .inr (7, [.ref ml, .ref mm, .ref mit, .ref ms, .int (st), .ref mt, .int (nI 0), .int (nI k2), .int (nI q2), .int (e21), .int (e22), .int (e23), .int (e24), .ref nw, .ref dr, .ref tr, .ref pa, .int (nI ac), .ref ig, .ref kx, .ref be, .ref tc, .int (nI td)])), (mt, .inl (cy 0, 100, .inl ft)), (nw, .inl (cy 0, 29, .inl f)), (dr, .inl (cy 0, 29, .inl (upd (upd (fa_fill (fun _ => nI 0) gd z1) 0 (nI v1)) 1 (nI 0))))]) [3, 2, 0, 1] rfl
                  have hD9 := hD.sub (ws' := [(m0, .inr (7, [.ref ml, .ref mm, .ref mit, .ref ms, .int (st), .ref mt, .int (nI 0), .int (nI k2), .int (nI q2), .int (e21), .int (e22), .int (e23), .int (e24), .ref nw, .ref dr, .ref tr, .ref pa, .int (nI ac), .ref ig, .ref kx, .ref be, .ref tc, .int (nI td)])), (mt, .inl (cy 0, 100, .inl ft)), (nw, .inl (cy 0, 29, .inl f)), (dr, .inl (cy 0, 29, .inl (upd (upd (fa_fill (fun _ => nI 0) gd z1) 0 (nI v1)) 1 (nI 0))))]) [3, 2, 0, 1] (by decide) rfl
                  exact q_wiret (v := (-1000100) - (nI q2)) hx hb hr hlocks dX7_city_180 hP9 hD9 hS (Or.inr ⟨q2, k2, _, _, _, _, _, by simp only [pCity, pLaw, htc, hn1, ht2, hn2, Except.bind], by omega, rfl, rfl⟩)
                · refine lv_iconst (v := nI 1) hx hb dX7_city_98 (by decide) ?_
                  refine lv_goto (tgt := 103) hx hb dX7_city_99 (by decide) ?_
                  refine lv_iconst (v := nI 1) hx hb dX7_city_103 (by decide) ?_
                  refine q_wiV (As := [.int (nI 1), .int (nI 1)]) (rest := []) (wr := [(nw, .inl (cy 0, 29, .inl f)), (dr, .inl (cy 0, 29, .inl (upd (upd (fa_fill (fun _ => nI 0) gd z1) 0 (nI v1)) 1 (nI 0)))), (mt, .inl (cy 0, 100, .inl ft))]) ⟨hx, hb, hml, hown, hts⟩ (c_X7_takes_e l D cy m0 ml mm mit ms mt nw dr tr pa ig kx be tc st (nI k2) (nI q2) e21 e22 e23 e24 tn ac td q2 (by omega) (nI 1) (nI 1)) (cwV 2 hts gX7_city_X7_takes rfl rfl rfl (by decide +kernel) ⟨Nat.le_of_ble_eq_true rfl, Nat.le_of_ble_eq_true rfl⟩) hP hD hS hA hK [2] [0, 1, 3] rfl rfl (by decide) rfl (by decide) (by decide) 2 rfl rfl rfl rfl hl.1 rfl (Nat.le_of_ble_eq_true rfl) dX7_city_104 ⟨Nat.zero_le _, Nat.zero_le _⟩ (fun r93 u94 H locs hr93 hP hD hS => ?_)
                  obtain ⟨rfl, rfl⟩ := hr93
                  have hP : va_P D vwCl [(nw, .inl (cy 0, 29, .inl f)), (dr, .inl (cy 0, 29, .inl (upd (upd (fa_fill (fun _ => nI 0) gd z1) 0 (nI v1)) 1 (nI 0)))), (mt, .inl (cy 0, 100, .inl ft)), (m0, .inr (7, [.ref ml, .ref mm, .ref mit, .ref ms, .int (st), .ref mt, .int (nI tn), .int (nI k2), .int (nI q2), .int (e21), .int (e22), .int (e23), .int (e24), .ref nw, .ref dr, .ref tr, .ref pa, .int (nI ac), .ref ig, .ref kx, .ref be, .ref tc, .int (nI td)]))] H := hP
                  have hD : va_D A [(nw, .inl (cy 0, 29, .inl f)), (dr, .inl (cy 0, 29, .inl (upd (upd (fa_fill (fun _ => nI 0) gd z1) 0 (nI v1)) 1 (nI 0)))), (mt, .inl (cy 0, 100, .inl ft)), (m0, .inr (7, [.ref ml, .ref mm, .ref mit, .ref ms, .int (st), .ref mt, .int (nI tn), .int (nI k2), .int (nI q2), .int (e21), .int (e22), .int (e23), .int (e24), .ref nw, .ref dr, .ref tr, .ref pa, .int (nI ac), .ref ig, .ref kx, .ref be, .ref tc, .int (nI td)]))] := hD
                  refine lv_pop hx hb dX7_city_107 rfl ?_
                  refine lv_aload_n hx hb dX7_city_108 rfl (lv_at hl 0 rfl) ?_
                  refine q_rV (As := []) (rest := []) ⟨hx, hb, hml, hown, hts⟩ (c_X7_isWell_n l D cy m0 ml mm mit ms mt nw dr tr pa ig kx be tc st (nI k2) (nI q2) e21 e22 e23 e24 tn ac td q2 (by omega)) (cwV 0 hts gX7_city_X7_isWell rfl rfl rfl (by decide +kernel) ⟨Nat.le_of_ble_eq_true rfl, Nat.le_of_ble_eq_true rfl⟩) hP hK [3] rfl 3 rfl rfl rfl rfl hl.1 rfl (Nat.le_of_ble_eq_true rfl) dX7_city_109 ⟨Nat.zero_le _, Nat.zero_le _⟩ (fun r95 hr95 => ?_)
                  obtain rfl := hr95
                  refine lv_if_eq (tgt := 140) hx hb dX7_city_112 (by decide) (fun _ => ?_) (fun c9 => absurd (by decide) c9)
                  refine lv_aload_n hx hb dX7_city_140 rfl (lv_at hl 0 rfl) ?_
                  refine q_rV (As := []) (rest := []) ⟨hx, hb, hml, hown, hts⟩ (c_X7_isWell_n l D cy m0 ml mm mit ms mt nw dr tr pa ig kx be tc st (nI k2) (nI q2) e21 e22 e23 e24 tn ac td q2 (by omega)) (cwV 0 hts gX7_city_X7_isWell rfl rfl rfl (by decide +kernel) ⟨Nat.le_of_ble_eq_true rfl, Nat.le_of_ble_eq_true rfl⟩) hP hK [3] rfl 3 rfl rfl rfl rfl hl.1 rfl (Nat.le_of_ble_eq_true rfl) dX7_city_141 ⟨Nat.zero_le _, Nat.zero_le _⟩ (fun r96 hr96 => ?_)
                  obtain rfl := hr96
                  refine lv_if_eq (tgt := 161) hx hb dX7_city_144 (by decide) (fun _ => ?_) (fun c9 => absurd (by decide) c9)
                  refine lv_aload_n hx hb dX7_city_161 rfl (lv_at hl 0 rfl) ?_
                  refine lv_iconst (v := nI 0) hx hb dX7_city_162 (by decide) ?_
                  refine va_put (D := D) (ci := 7) (v := .int (nI 0)) (ty := .int) (C := RX7) (T := TX7) (N := 23) hx hb hts nX7_city_0 tyX7 tyX7_ok nmX7 hown hK.1 hP hD hS 3 rfl rfl 6 (by decide) (hts _ mX7_city_5) (fun _ h9 => h9) rfl (by decide +kernel) rfl rfl (Nat.le_of_ble_eq_true rfl) dX7_city_163 (fun H locs hP hD hS => ?_)
                  have hP : va_P D vwCl [(nw, .inl (cy 0, 29, .inl f)), (dr, .inl (cy 0, 29, .inl (upd (upd (fa_fill (fun _ => nI 0) gd z1) 0 (nI v1)) 1 (nI 0)))), (mt, .inl (cy 0, 100, .inl ft)), (m0, .inr (7, [.ref ml, .ref mm, .ref mit, .ref ms, .int (st), .ref mt, .int (nI 0), .int (nI k2), .int (nI q2), .int (e21), .int (e22), .int (e23), .int (e24), .ref nw, .ref dr, .ref tr, .ref pa, .int (nI ac), .ref ig, .ref kx, .ref be, .ref tc, .int (nI td)]))] H := hP
                  have hD : va_D A [(nw, .inl (cy 0, 29, .inl f)), (dr, .inl (cy 0, 29, .inl (upd (upd (fa_fill (fun _ => nI 0) gd z1) 0 (nI v1)) 1 (nI 0)))), (mt, .inl (cy 0, 100, .inl ft)), (m0, .inr (7, [.ref ml, .ref mm, .ref mit, .ref ms, .int (st), .ref mt, .int (nI 0), .int (nI k2), .int (nI q2), .int (e21), .int (e22), .int (e23), .int (e24), .ref nw, .ref dr, .ref tr, .ref pa, .int (nI ac), .ref ig, .ref kx, .ref be, .ref tc, .int (nI td)]))] := hD
                  refine lv_aload_n hx hb dX7_city_166 rfl (lv_at hl 0 rfl) ?_
                  refine q_rV (As := []) (rest := []) ⟨hx, hb, hml, hown, hts⟩ (c_X7_isWell_n l D cy m0 ml mm mit ms mt nw dr tr pa ig kx be tc st (nI k2) (nI q2) e21 e22 e23 e24 0 ac td q2 (by omega)) (cwV 0 hts gX7_city_X7_isWell rfl rfl rfl (by decide +kernel) ⟨Nat.le_of_ble_eq_true rfl, Nat.le_of_ble_eq_true rfl⟩) hP hK [3] rfl 3 rfl rfl rfl rfl hl.1 rfl (Nat.le_of_ble_eq_true rfl) dX7_city_167 ⟨Nat.zero_le _, Nat.zero_le _⟩ (fun r97 hr97 => ?_)
                  obtain rfl := hr97
                  refine lv_if_ne (tgt := 181) hx hb dX7_city_170 (by decide) (fun c9 => absurd (by decide) c9) (fun _ => ?_)
                  refine lv_ldc (v := (-1000100)) hx hb hown (hts _ mX7_city_6) dX7_city_173 ?_
                  refine lv_aload_n hx hb dX7_city_175 rfl (lv_at hl 0 rfl) ?_
                  refine va_get (D := D) (ci := 7) (v := .int (nI q2)) (C := RX7) (T := TX7) (N := 23) hx hb hts nX7_city_0 hown hK.1 hP 3 rfl rfl 8 (by decide) (hts _ mX7_city_2) (fun _ h9 => h9) rfl dX7_city_176 ?_
                  refine lv_isub hx hb dX7_city_179 ?_
                  have hP9 := hP.sub (ws' := [(m0, .inr (7, [.ref ml, .ref mm, .ref mit, .ref ms, .int (st), .ref mt, .int (nI 0), .int (nI k2), .int (nI q2), .int (e21), .int (e22), .int (e23), .int (e24), .ref nw, .ref dr, .ref tr, .ref pa, .int (nI ac), .ref ig, .ref kx, .ref be, .ref tc, .int (nI td)])), (mt, .inl (cy 0, 100, .inl ft)), (nw, .inl (cy 0, 29, .inl f)), (dr, .inl (cy 0, 29, .inl (upd (upd (fa_fill (fun _ => nI 0) gd z1) 0 (nI v1)) 1 (nI 0))))]) [3, 2, 0, 1] rfl
                  have hD9 := hD.sub (ws' := [(m0, .inr (7, [.ref ml, .ref mm, .ref mit, .ref ms, .int (st), .ref mt, .int (nI 0), .int (nI k2), .int (nI q2), .int (e21), .int (e22), .int (e23), .int (e24), .ref nw, .ref dr, .ref tr, .ref pa, .int (nI ac), .ref ig, .ref kx, .ref be, .ref tc, .int (nI td)])), (mt, .inl (cy 0, 100, .inl ft)), (nw, .inl (cy 0, 29, .inl f)), (dr, .inl (cy 0, 29, .inl (upd (upd (fa_fill (fun _ => nI 0) gd z1) 0 (nI v1)) 1 (nI 0))))]) [3, 2, 0, 1] (by decide) rfl
                  exact q_wiret (v := (-1000100) - (nI q2)) hx hb hr hlocks dX7_city_180 hP9 hD9 hS (Or.inr ⟨q2, k2, _, _, _, _, _, by simp only [pCity, pLaw, htc, hn1, ht2, hn2, Except.bind], by omega, rfl, rfl⟩)
            · rw [htce] at hn1
              have hP : va_P D vwCl [(nw, .inl (cy 0, 29, .inl f)), (dr, .inl (cy 0, 29, .inl (fa_fill (fun _ => nI 0) gd z1))), (m0, .inr (7, [.ref ml, .ref mm, .ref mit, .ref ms, .int (st), .ref mt, .int (nI tn), .int (nI k1), .int (nI (tkE tp tn 0)), .int (nI (tkE tp tn (tkE tp tn 0))), .int (nI (tkE tp tn 0)), .int (nI (tkK tp tn (tkE tp tn 0))), .int (tkV tp tn (tkE tp tn 0)), .ref nw, .ref dr, .ref tr, .ref pa, .int (nI ac), .ref ig, .ref kx, .ref be, .ref tc, .int (nI td)])), (mt, .inl (cy 0, 100, .inl ft))] H := hP
              have hD : va_D A [(nw, .inl (cy 0, 29, .inl f)), (dr, .inl (cy 0, 29, .inl (fa_fill (fun _ => nI 0) gd z1))), (m0, .inr (7, [.ref ml, .ref mm, .ref mit, .ref ms, .int (st), .ref mt, .int (nI tn), .int (nI k1), .int (nI (tkE tp tn 0)), .int (nI (tkE tp tn (tkE tp tn 0))), .int (nI (tkE tp tn 0)), .int (nI (tkK tp tn (tkE tp tn 0))), .int (tkV tp tn (tkE tp tn 0)), .ref nw, .ref dr, .ref tr, .ref pa, .int (nI ac), .ref ig, .ref kx, .ref be, .ref tc, .int (nI td)])), (mt, .inl (cy 0, 100, .inl ft))] := hD
              refine q_iast (j := 0) hx hb hK hP hD hS 1 rfl (by omega) (by decide) dX7_city_75 (fun H locs hP hD hS => ?_)
              have hP : va_P D vwCl [(nw, .inl (cy 0, 29, .inl f)), (dr, .inl (cy 0, 29, .inl (upd (fa_fill (fun _ => nI 0) gd z1) 0 (nI 0)))), (m0, .inr (7, [.ref ml, .ref mm, .ref mit, .ref ms, .int (st), .ref mt, .int (nI tn), .int (nI k1), .int (nI (tkE tp tn 0)), .int (nI (tkE tp tn (tkE tp tn 0))), .int (nI (tkE tp tn 0)), .int (nI (tkK tp tn (tkE tp tn 0))), .int (tkV tp tn (tkE tp tn 0)), .ref nw, .ref dr, .ref tr, .ref pa, .int (nI ac), .ref ig, .ref kx, .ref be, .ref tc, .int (nI td)])), (mt, .inl (cy 0, 100, .inl ft))] H := hP
              have hD : va_D A [(nw, .inl (cy 0, 29, .inl f)), (dr, .inl (cy 0, 29, .inl (upd (fa_fill (fun _ => nI 0) gd z1) 0 (nI 0)))), (m0, .inr (7, [.ref ml, .ref mm, .ref mit, .ref ms, .int (st), .ref mt, .int (nI tn), .int (nI k1), .int (nI (tkE tp tn 0)), .int (nI (tkE tp tn (tkE tp tn 0))), .int (nI (tkE tp tn 0)), .int (nI (tkK tp tn (tkE tp tn 0))), .int (tkV tp tn (tkE tp tn 0)), .ref nw, .ref dr, .ref tr, .ref pa, .int (nI ac), .ref ig, .ref kx, .ref be, .ref tc, .int (nI td)])), (mt, .inl (cy 0, 100, .inl ft))] := hD
              refine lv_aload_n hx hb dX7_city_76 rfl (lv_at hl 0 rfl) ?_
              refine va_get (D := D) (ci := 7) (v := .ref dr) (C := RX7) (T := TX7) (N := 23) hx hb hts nX7_city_0 hown hK.1 hP 2 rfl rfl 14 (by decide) (hts _ mX7_city_4) (fun _ h9 => h9) rfl dX7_city_77 ?_
              refine lv_iconst (v := nI 1) hx hb dX7_city_80 (by decide) ?_
              refine lv_aload_n hx hb dX7_city_81 rfl (lv_at hl 0 rfl) ?_
              refine lv_iconst (v := nI 0) hx hb dX7_city_82 (by decide) ?_
              refine lv_bipush (v := nI 6) hx hb dX7_city_83 (by decide) ?_
              refine q_wiV (As := [.int (nI 0), .int (nI 6)]) (rest := [.int (nI 1), .ref dr]) (wr := [(nw, .inl (cy 0, 29, .inl f)), (dr, .inl (cy 0, 29, .inl (upd (fa_fill (fun _ => nI 0) gd z1) 0 (nI 0)))), (mt, .inl (cy 0, 100, .inl ft))]) ⟨hx, hb, hml, hown, hts⟩ (c_X7_next_e l D cy m0 ml mm mit ms mt nw dr tr pa ig kx be tc st (nI k1) (nI (tkE tp tn 0)) (nI (tkE tp tn (tkE tp tn 0))) (nI (tkE tp tn 0)) (nI (tkK tp tn (tkE tp tn 0))) (tkV tp tn (tkE tp tn 0)) tn ac td (tkE tp tn 0) (by omega) (nI 0) (nI 6)) (cwV 2 hts gX7_city_X7_next rfl rfl rfl (by decide +kernel) ⟨Nat.le_of_ble_eq_true rfl, Nat.le_of_ble_eq_true rfl⟩) hP hD hS hA hK [2] [0, 1, 3] rfl rfl (by decide) rfl (by decide) (by decide) 2 rfl rfl rfl rfl hl.1 rfl (Nat.le_of_ble_eq_true rfl) dX7_city_85 ⟨Nat.zero_le _, Nat.zero_le _⟩ (fun r98 u99 H locs hr98 hP hD hS => ?_)
              obtain ⟨rfl, rfl⟩ := hr98
              have hP : va_P D vwCl [(nw, .inl (cy 0, 29, .inl f)), (dr, .inl (cy 0, 29, .inl (upd (fa_fill (fun _ => nI 0) gd z1) 0 (nI 0)))), (mt, .inl (cy 0, 100, .inl ft)), (m0, .inr (7, [.ref ml, .ref mm, .ref mit, .ref ms, .int (st), .ref mt, .int (nI tn), .int (nI k1), .int (nI (tkE tp tn 0)), .int (nI (tkE tp tn (tkE tp tn 0))), .int (nI (tkE tp tn 0)), .int (nI (tkK tp tn (tkE tp tn 0))), .int (tkV tp tn (tkE tp tn 0)), .ref nw, .ref dr, .ref tr, .ref pa, .int (nI ac), .ref ig, .ref kx, .ref be, .ref tc, .int (nI td)]))] H := hP
              have hD : va_D A [(nw, .inl (cy 0, 29, .inl f)), (dr, .inl (cy 0, 29, .inl (upd (fa_fill (fun _ => nI 0) gd z1) 0 (nI 0)))), (mt, .inl (cy 0, 100, .inl ft)), (m0, .inr (7, [.ref ml, .ref mm, .ref mit, .ref ms, .int (st), .ref mt, .int (nI tn), .int (nI k1), .int (nI (tkE tp tn 0)), .int (nI (tkE tp tn (tkE tp tn 0))), .int (nI (tkE tp tn 0)), .int (nI (tkK tp tn (tkE tp tn 0))), .int (tkV tp tn (tkE tp tn 0)), .ref nw, .ref dr, .ref tr, .ref pa, .int (nI ac), .ref ig, .ref kx, .ref be, .ref tc, .int (nI td)]))] := hD
              refine q_iast (j := 1) hx hb hK hP hD hS 1 rfl (by omega) (by decide) dX7_city_88 (fun H locs hP hD hS => ?_)
              have hP : va_P D vwCl [(nw, .inl (cy 0, 29, .inl f)), (dr, .inl (cy 0, 29, .inl (upd (upd (fa_fill (fun _ => nI 0) gd z1) 0 (nI 0)) 1 (nI 0)))), (mt, .inl (cy 0, 100, .inl ft)), (m0, .inr (7, [.ref ml, .ref mm, .ref mit, .ref ms, .int (st), .ref mt, .int (nI tn), .int (nI k1), .int (nI (tkE tp tn 0)), .int (nI (tkE tp tn (tkE tp tn 0))), .int (nI (tkE tp tn 0)), .int (nI (tkK tp tn (tkE tp tn 0))), .int (tkV tp tn (tkE tp tn 0)), .ref nw, .ref dr, .ref tr, .ref pa, .int (nI ac), .ref ig, .ref kx, .ref be, .ref tc, .int (nI td)]))] H := hP
              have hD : va_D A [(nw, .inl (cy 0, 29, .inl f)), (dr, .inl (cy 0, 29, .inl (upd (upd (fa_fill (fun _ => nI 0) gd z1) 0 (nI 0)) 1 (nI 0)))), (mt, .inl (cy 0, 100, .inl ft)), (m0, .inr (7, [.ref ml, .ref mm, .ref mit, .ref ms, .int (st), .ref mt, .int (nI tn), .int (nI k1), .int (nI (tkE tp tn 0)), .int (nI (tkE tp tn (tkE tp tn 0))), .int (nI (tkE tp tn 0)), .int (nI (tkK tp tn (tkE tp tn 0))), .int (tkV tp tn (tkE tp tn 0)), .ref nw, .ref dr, .ref tr, .ref pa, .int (nI ac), .ref ig, .ref kx, .ref be, .ref tc, .int (nI td)]))] := hD
              refine lv_aload_n hx hb dX7_city_89 rfl (lv_at hl 0 rfl) ?_
              refine lv_aload_n hx hb dX7_city_90 rfl (lv_at hl 0 rfl) ?_
              refine va_get (D := D) (ci := 7) (v := .int (nI (tkK tp tn (tkE tp tn 0)))) (C := RX7) (T := TX7) (N := 23) hx hb hts nX7_city_0 hown hK.1 hP 3 rfl rfl 11 (by decide) (hts _ mX7_city_3) (fun _ h9 => h9) rfl dX7_city_91 ?_
              have hkl94 := tkK_le tp tn (tkE tp tn 0)
              refine lv_iconst (v := nI 4) hx hb dX7_city_94 (by decide) ?_
              refine q_icmp_ne (tgt := 102) hx hb dX7_city_95 (by decide) (by omega) (by decide) (fun c100 => ?_) (fun c100 => ?_)
              · refine lv_iconst (v := nI 0) hx hb dX7_city_102 (by decide) ?_
                refine lv_iconst (v := nI 1) hx hb dX7_city_103 (by decide) ?_
                refine q_wiV (As := [.int (nI 0), .int (nI 1)]) (rest := []) (wr := [(nw, .inl (cy 0, 29, .inl f)), (dr, .inl (cy 0, 29, .inl (upd (upd (fa_fill (fun _ => nI 0) gd z1) 0 (nI 0)) 1 (nI 0)))), (mt, .inl (cy 0, 100, .inl ft))]) ⟨hx, hb, hml, hown, hts⟩ (c_X7_takes_e l D cy m0 ml mm mit ms mt nw dr tr pa ig kx be tc st (nI k1) (nI (tkE tp tn 0)) (nI (tkE tp tn (tkE tp tn 0))) (nI (tkE tp tn 0)) (nI (tkK tp tn (tkE tp tn 0))) (tkV tp tn (tkE tp tn 0)) tn ac td (tkE tp tn 0) (by omega) (nI 0) (nI 1)) (cwV 2 hts gX7_city_X7_takes rfl rfl rfl (by decide +kernel) ⟨Nat.le_of_ble_eq_true rfl, Nat.le_of_ble_eq_true rfl⟩) hP hD hS hA hK [3] [0, 1, 2] rfl rfl (by decide) rfl (by decide) (by decide) 3 rfl rfl rfl rfl hl.1 rfl (Nat.le_of_ble_eq_true rfl) dX7_city_104 ⟨Nat.zero_le _, Nat.zero_le _⟩ (fun r101 u102 H locs hr101 hP hD hS => ?_)
                obtain ⟨rfl, rfl⟩ := hr101
                have hP : va_P D vwCl [(nw, .inl (cy 0, 29, .inl f)), (dr, .inl (cy 0, 29, .inl (upd (upd (fa_fill (fun _ => nI 0) gd z1) 0 (nI 0)) 1 (nI 0)))), (mt, .inl (cy 0, 100, .inl ft)), (m0, .inr (7, [.ref ml, .ref mm, .ref mit, .ref ms, .int (st), .ref mt, .int (nI tn), .int (nI k1), .int (nI (tkE tp tn 0)), .int (nI (tkE tp tn (tkE tp tn 0))), .int (nI (tkE tp tn 0)), .int (nI (tkK tp tn (tkE tp tn 0))), .int (tkV tp tn (tkE tp tn 0)), .ref nw, .ref dr, .ref tr, .ref pa, .int (nI ac), .ref ig, .ref kx, .ref be, .ref tc, .int (nI td)]))] H := hP
                have hD : va_D A [(nw, .inl (cy 0, 29, .inl f)), (dr, .inl (cy 0, 29, .inl (upd (upd (fa_fill (fun _ => nI 0) gd z1) 0 (nI 0)) 1 (nI 0)))), (mt, .inl (cy 0, 100, .inl ft)), (m0, .inr (7, [.ref ml, .ref mm, .ref mit, .ref ms, .int (st), .ref mt, .int (nI tn), .int (nI k1), .int (nI (tkE tp tn 0)), .int (nI (tkE tp tn (tkE tp tn 0))), .int (nI (tkE tp tn 0)), .int (nI (tkK tp tn (tkE tp tn 0))), .int (tkV tp tn (tkE tp tn 0)), .ref nw, .ref dr, .ref tr, .ref pa, .int (nI ac), .ref ig, .ref kx, .ref be, .ref tc, .int (nI td)]))] := hD
                refine lv_pop hx hb dX7_city_107 rfl ?_
                refine lv_aload_n hx hb dX7_city_108 rfl (lv_at hl 0 rfl) ?_
                refine q_rV (As := []) (rest := []) ⟨hx, hb, hml, hown, hts⟩ (c_X7_isWell_n l D cy m0 ml mm mit ms mt nw dr tr pa ig kx be tc st (nI k1) (nI (tkE tp tn 0)) (nI (tkE tp tn (tkE tp tn 0))) (nI (tkE tp tn 0)) (nI (tkK tp tn (tkE tp tn 0))) (tkV tp tn (tkE tp tn 0)) tn ac td (tkE tp tn 0) (by omega)) (cwV 0 hts gX7_city_X7_isWell rfl rfl rfl (by decide +kernel) ⟨Nat.le_of_ble_eq_true rfl, Nat.le_of_ble_eq_true rfl⟩) hP hK [3] rfl 3 rfl rfl rfl rfl hl.1 rfl (Nat.le_of_ble_eq_true rfl) dX7_city_109 ⟨Nat.zero_le _, Nat.zero_le _⟩ (fun r103 hr103 => ?_)
                obtain rfl := hr103
                refine lv_if_eq (tgt := 140) hx hb dX7_city_112 (by decide) (fun _ => ?_) (fun c9 => absurd (by decide) c9)
                refine lv_aload_n hx hb dX7_city_140 rfl (lv_at hl 0 rfl) ?_
                refine q_rV (As := []) (rest := []) ⟨hx, hb, hml, hown, hts⟩ (c_X7_isWell_n l D cy m0 ml mm mit ms mt nw dr tr pa ig kx be tc st (nI k1) (nI (tkE tp tn 0)) (nI (tkE tp tn (tkE tp tn 0))) (nI (tkE tp tn 0)) (nI (tkK tp tn (tkE tp tn 0))) (tkV tp tn (tkE tp tn 0)) tn ac td (tkE tp tn 0) (by omega)) (cwV 0 hts gX7_city_X7_isWell rfl rfl rfl (by decide +kernel) ⟨Nat.le_of_ble_eq_true rfl, Nat.le_of_ble_eq_true rfl⟩) hP hK [3] rfl 3 rfl rfl rfl rfl hl.1 rfl (Nat.le_of_ble_eq_true rfl) dX7_city_141 ⟨Nat.zero_le _, Nat.zero_le _⟩ (fun r104 hr104 => ?_)
                obtain rfl := hr104
                refine lv_if_eq (tgt := 161) hx hb dX7_city_144 (by decide) (fun _ => ?_) (fun c9 => absurd (by decide) c9)
                refine lv_aload_n hx hb dX7_city_161 rfl (lv_at hl 0 rfl) ?_
                refine lv_iconst (v := nI 0) hx hb dX7_city_162 (by decide) ?_
                refine va_put (D := D) (ci := 7) (v := .int (nI 0)) (ty := .int) (C := RX7) (T := TX7) (N := 23) hx hb hts nX7_city_0 tyX7 tyX7_ok nmX7 hown hK.1 hP hD hS 3 rfl rfl 6 (by decide) (hts _ mX7_city_5) (fun _ h9 => h9) rfl (by decide +kernel) rfl rfl (Nat.le_of_ble_eq_true rfl) dX7_city_163 (fun H locs hP hD hS => ?_)
                have hP : va_P D vwCl [(nw, .inl (cy 0, 29, .inl f)), (dr, .inl (cy 0, 29, .inl (upd (upd (fa_fill (fun _ => nI 0) gd z1) 0 (nI 0)) 1 (nI 0)))), (mt, .inl (cy 0, 100, .inl ft)), (m0, .inr (7, [.ref ml, .ref mm, .ref mit, .ref ms, .int (st), .ref mt, .int (nI 0), .int (nI k1), .int (nI (tkE tp tn 0)), .int (nI (tkE tp tn (tkE tp tn 0))), .int (nI (tkE tp tn 0)), .int (nI (tkK tp tn (tkE tp tn 0))), .int (tkV tp tn (tkE tp tn 0)), .ref nw, .ref dr, .ref tr, .ref pa, .int (nI ac), .ref ig, .ref kx, .ref be, .ref tc, .int (nI td)]))] H := hP
                have hD : va_D A [(nw, .inl (cy 0, 29, .inl f)), (dr, .inl (cy 0, 29, .inl (upd (upd (fa_fill (fun _ => nI 0) gd z1) 0 (nI 0)) 1 (nI 0)))), (mt, .inl (cy 0, 100, .inl ft)), (m0, .inr (7, [.ref ml, .ref mm, .ref mit, .ref ms, .int (st), .ref mt, .int (nI 0), .int (nI k1), .int (nI (tkE tp tn 0)), .int (nI (tkE tp tn (tkE tp tn 0))), .int (nI (tkE tp tn 0)), .int (nI (tkK tp tn (tkE tp tn 0))), .int (tkV tp tn (tkE tp tn 0)), .ref nw, .ref dr, .ref tr, .ref pa, .int (nI ac), .ref ig, .ref kx, .ref be, .ref tc, .int (nI td)]))] := hD
                refine lv_aload_n hx hb dX7_city_166 rfl (lv_at hl 0 rfl) ?_
                refine q_rV (As := []) (rest := []) ⟨hx, hb, hml, hown, hts⟩ (c_X7_isWell_n l D cy m0 ml mm mit ms mt nw dr tr pa ig kx be tc st (nI k1) (nI (tkE tp tn 0)) (nI (tkE tp tn (tkE tp tn 0))) (nI (tkE tp tn 0)) (nI (tkK tp tn (tkE tp tn 0))) (tkV tp tn (tkE tp tn 0)) 0 ac td (tkE tp tn 0) (by omega)) (cwV 0 hts gX7_city_X7_isWell rfl rfl rfl (by decide +kernel) ⟨Nat.le_of_ble_eq_true rfl, Nat.le_of_ble_eq_true rfl⟩) hP hK [3] rfl 3 rfl rfl rfl rfl hl.1 rfl (Nat.le_of_ble_eq_true rfl) dX7_city_167 ⟨Nat.zero_le _, Nat.zero_le _⟩ (fun r105 hr105 => ?_)
                obtain rfl := hr105
                refine lv_if_ne (tgt := 181) hx hb dX7_city_170 (by decide) (fun c9 => absurd (by decide) c9) (fun _ => ?_)
                refine lv_ldc (v := (-1000100)) hx hb hown (hts _ mX7_city_6) dX7_city_173 ?_
                refine lv_aload_n hx hb dX7_city_175 rfl (lv_at hl 0 rfl) ?_
                refine va_get (D := D) (ci := 7) (v := .int (nI (tkE tp tn 0))) (C := RX7) (T := TX7) (N := 23) hx hb hts nX7_city_0 hown hK.1 hP 3 rfl rfl 8 (by decide) (hts _ mX7_city_2) (fun _ h9 => h9) rfl dX7_city_176 ?_
                refine lv_isub hx hb dX7_city_179 ?_
                have hP9 := hP.sub (ws' := [(m0, .inr (7, [.ref ml, .ref mm, .ref mit, .ref ms, .int (st), .ref mt, .int (nI 0), .int (nI k1), .int (nI (tkE tp tn 0)), .int (nI (tkE tp tn (tkE tp tn 0))), .int (nI (tkE tp tn 0)), .int (nI (tkK tp tn (tkE tp tn 0))), .int (tkV tp tn (tkE tp tn 0)), .ref nw, .ref dr, .ref tr, .ref pa, .int (nI ac), .ref ig, .ref kx, .ref be, .ref tc, .int (nI td)])), (mt, .inl (cy 0, 100, .inl ft)), (nw, .inl (cy 0, 29, .inl f)), (dr, .inl (cy 0, 29, .inl (upd (upd (fa_fill (fun _ => nI 0) gd z1) 0 (nI 0)) 1 (nI 0))))]) [3, 2, 0, 1] rfl
                have hD9 := hD.sub (ws' := [(m0, .inr (7, [.ref ml, .ref mm, .ref mit, .ref ms, .int (st), .ref mt, .int (nI 0), .int (nI k1), .int (nI (tkE tp tn 0)), .int (nI (tkE tp tn (tkE tp tn 0))), .int (nI (tkE tp tn 0)), .int (nI (tkK tp tn (tkE tp tn 0))), .int (tkV tp tn (tkE tp tn 0)), .ref nw, .ref dr, .ref tr, .ref pa, .int (nI ac), .ref ig, .ref kx, .ref be, .ref tc, .int (nI td)])), (mt, .inl (cy 0, 100, .inl ft)), (nw, .inl (cy 0, 29, .inl f)), (dr, .inl (cy 0, 29, .inl (upd (upd (fa_fill (fun _ => nI 0) gd z1) 0 (nI 0)) 1 (nI 0))))]) [3, 2, 0, 1] (by decide) rfl
                exact q_wiret (v := (-1000100) - (nI (tkE tp tn 0))) hx hb hr hlocks dX7_city_180 hP9 hD9 hS (Or.inr ⟨(tkE tp tn 0), k1, _, _, _, _, _, by simp only [pCity, pLaw, htc, hn1, htce, Except.bind], by omega, rfl, rfl⟩)
              · refine lv_iconst (v := nI 1) hx hb dX7_city_98 (by decide) ?_
                refine lv_goto (tgt := 103) hx hb dX7_city_99 (by decide) ?_
                refine lv_iconst (v := nI 1) hx hb dX7_city_103 (by decide) ?_
                refine q_wiV (As := [.int (nI 1), .int (nI 1)]) (rest := []) (wr := [(nw, .inl (cy 0, 29, .inl f)), (dr, .inl (cy 0, 29, .inl (upd (upd (fa_fill (fun _ => nI 0) gd z1) 0 (nI 0)) 1 (nI 0)))), (mt, .inl (cy 0, 100, .inl ft))]) ⟨hx, hb, hml, hown, hts⟩ (c_X7_takes_e l D cy m0 ml mm mit ms mt nw dr tr pa ig kx be tc st (nI k1) (nI (tkE tp tn 0)) (nI (tkE tp tn (tkE tp tn 0))) (nI (tkE tp tn 0)) (nI (tkK tp tn (tkE tp tn 0))) (tkV tp tn (tkE tp tn 0)) tn ac td (tkE tp tn 0) (by omega) (nI 1) (nI 1)) (cwV 2 hts gX7_city_X7_takes rfl rfl rfl (by decide +kernel) ⟨Nat.le_of_ble_eq_true rfl, Nat.le_of_ble_eq_true rfl⟩) hP hD hS hA hK [3] [0, 1, 2] rfl rfl (by decide) rfl (by decide) (by decide) 3 rfl rfl rfl rfl hl.1 rfl (Nat.le_of_ble_eq_true rfl) dX7_city_104 ⟨Nat.zero_le _, Nat.zero_le _⟩ (fun r106 u107 H locs hr106 hP hD hS => ?_)
                obtain ⟨rfl, rfl⟩ := hr106
                have hP : va_P D vwCl [(nw, .inl (cy 0, 29, .inl f)), (dr, .inl (cy 0, 29, .inl (upd (upd (fa_fill (fun _ => nI 0) gd z1) 0 (nI 0)) 1 (nI 0)))), (mt, .inl (cy 0, 100, .inl ft)), (m0, .inr (7, [.ref ml, .ref mm, .ref mit, .ref ms, .int (st), .ref mt, .int (nI tn), .int (nI k1), .int (nI (tkE tp tn 0)), .int (nI (tkE tp tn (tkE tp tn 0))), .int (nI (tkE tp tn 0)), .int (nI (tkK tp tn (tkE tp tn 0))), .int (tkV tp tn (tkE tp tn 0)), .ref nw, .ref dr, .ref tr, .ref pa, .int (nI ac), .ref ig, .ref kx, .ref be, .ref tc, .int (nI td)]))] H := hP
                have hD : va_D A [(nw, .inl (cy 0, 29, .inl f)), (dr, .inl (cy 0, 29, .inl (upd (upd (fa_fill (fun _ => nI 0) gd z1) 0 (nI 0)) 1 (nI 0)))), (mt, .inl (cy 0, 100, .inl ft)), (m0, .inr (7, [.ref ml, .ref mm, .ref mit, .ref ms, .int (st), .ref mt, .int (nI tn), .int (nI k1), .int (nI (tkE tp tn 0)), .int (nI (tkE tp tn (tkE tp tn 0))), .int (nI (tkE tp tn 0)), .int (nI (tkK tp tn (tkE tp tn 0))), .int (tkV tp tn (tkE tp tn 0)), .ref nw, .ref dr, .ref tr, .ref pa, .int (nI ac), .ref ig, .ref kx, .ref be, .ref tc, .int (nI td)]))] := hD
                refine lv_pop hx hb dX7_city_107 rfl ?_
                refine lv_aload_n hx hb dX7_city_108 rfl (lv_at hl 0 rfl) ?_
                refine q_rV (As := []) (rest := []) ⟨hx, hb, hml, hown, hts⟩ (c_X7_isWell_n l D cy m0 ml mm mit ms mt nw dr tr pa ig kx be tc st (nI k1) (nI (tkE tp tn 0)) (nI (tkE tp tn (tkE tp tn 0))) (nI (tkE tp tn 0)) (nI (tkK tp tn (tkE tp tn 0))) (tkV tp tn (tkE tp tn 0)) tn ac td (tkE tp tn 0) (by omega)) (cwV 0 hts gX7_city_X7_isWell rfl rfl rfl (by decide +kernel) ⟨Nat.le_of_ble_eq_true rfl, Nat.le_of_ble_eq_true rfl⟩) hP hK [3] rfl 3 rfl rfl rfl rfl hl.1 rfl (Nat.le_of_ble_eq_true rfl) dX7_city_109 ⟨Nat.zero_le _, Nat.zero_le _⟩ (fun r108 hr108 => ?_)
                obtain rfl := hr108
                refine lv_if_eq (tgt := 140) hx hb dX7_city_112 (by decide) (fun _ => ?_) (fun c9 => absurd (by decide) c9)
                refine lv_aload_n hx hb dX7_city_140 rfl (lv_at hl 0 rfl) ?_
                refine q_rV (As := []) (rest := []) ⟨hx, hb, hml, hown, hts⟩ (c_X7_isWell_n l D cy m0 ml mm mit ms mt nw dr tr pa ig kx be tc st (nI k1) (nI (tkE tp tn 0)) (nI (tkE tp tn (tkE tp tn 0))) (nI (tkE tp tn 0)) (nI (tkK tp tn (tkE tp tn 0))) (tkV tp tn (tkE tp tn 0)) tn ac td (tkE tp tn 0) (by omega)) (cwV 0 hts gX7_city_X7_isWell rfl rfl rfl (by decide +kernel) ⟨Nat.le_of_ble_eq_true rfl, Nat.le_of_ble_eq_true rfl⟩) hP hK [3] rfl 3 rfl rfl rfl rfl hl.1 rfl (Nat.le_of_ble_eq_true rfl) dX7_city_141 ⟨Nat.zero_le _, Nat.zero_le _⟩ (fun r109 hr109 => ?_)
                obtain rfl := hr109
                refine lv_if_eq (tgt := 161) hx hb dX7_city_144 (by decide) (fun _ => ?_) (fun c9 => absurd (by decide) c9)
                refine lv_aload_n hx hb dX7_city_161 rfl (lv_at hl 0 rfl) ?_
                refine lv_iconst (v := nI 0) hx hb dX7_city_162 (by decide) ?_
                refine va_put (D := D) (ci := 7) (v := .int (nI 0)) (ty := .int) (C := RX7) (T := TX7) (N := 23) hx hb hts nX7_city_0 tyX7 tyX7_ok nmX7 hown hK.1 hP hD hS 3 rfl rfl 6 (by decide) (hts _ mX7_city_5) (fun _ h9 => h9) rfl (by decide +kernel) rfl rfl (Nat.le_of_ble_eq_true rfl) dX7_city_163 (fun H locs hP hD hS => ?_)
                have hP : va_P D vwCl [(nw, .inl (cy 0, 29, .inl f)), (dr, .inl (cy 0, 29, .inl (upd (upd (fa_fill (fun _ => nI 0) gd z1) 0 (nI 0)) 1 (nI 0)))), (mt, .inl (cy 0, 100, .inl ft)), (m0, .inr (7, [.ref ml, .ref mm, .ref mit, .ref ms, .int (st), .ref mt, .int (nI 0), .int (nI k1), .int (nI (tkE tp tn 0)), .int (nI (tkE tp tn (tkE tp tn 0))), .int (nI (tkE tp tn 0)), .int (nI (tkK tp tn (tkE tp tn 0))), .int (tkV tp tn (tkE tp tn 0)), .ref nw, .ref dr, .ref tr, .ref pa, .int (nI ac), .ref ig, .ref kx, .ref be, .ref tc, .int (nI td)]))] H := hP
                have hD : va_D A [(nw, .inl (cy 0, 29, .inl f)), (dr, .inl (cy 0, 29, .inl (upd (upd (fa_fill (fun _ => nI 0) gd z1) 0 (nI 0)) 1 (nI 0)))), (mt, .inl (cy 0, 100, .inl ft)), (m0, .inr (7, [.ref ml, .ref mm, .ref mit, .ref ms, .int (st), .ref mt, .int (nI 0), .int (nI k1), .int (nI (tkE tp tn 0)), .int (nI (tkE tp tn (tkE tp tn 0))), .int (nI (tkE tp tn 0)), .int (nI (tkK tp tn (tkE tp tn 0))), .int (tkV tp tn (tkE tp tn 0)), .ref nw, .ref dr, .ref tr, .ref pa, .int (nI ac), .ref ig, .ref kx, .ref be, .ref tc, .int (nI td)]))] := hD
                refine lv_aload_n hx hb dX7_city_166 rfl (lv_at hl 0 rfl) ?_
                refine q_rV (As := []) (rest := []) ⟨hx, hb, hml, hown, hts⟩ (c_X7_isWell_n l D cy m0 ml mm mit ms mt nw dr tr pa ig kx be tc st (nI k1) (nI (tkE tp tn 0)) (nI (tkE tp tn (tkE tp tn 0))) (nI (tkE tp tn 0)) (nI (tkK tp tn (tkE tp tn 0))) (tkV tp tn (tkE tp tn 0)) 0 ac td (tkE tp tn 0) (by omega)) (cwV 0 hts gX7_city_X7_isWell rfl rfl rfl (by decide +kernel) ⟨Nat.le_of_ble_eq_true rfl, Nat.le_of_ble_eq_true rfl⟩) hP hK [3] rfl 3 rfl rfl rfl rfl hl.1 rfl (Nat.le_of_ble_eq_true rfl) dX7_city_167 ⟨Nat.zero_le _, Nat.zero_le _⟩ (fun r110 hr110 => ?_)
                obtain rfl := hr110
                refine lv_if_ne (tgt := 181) hx hb dX7_city_170 (by decide) (fun c9 => absurd (by decide) c9) (fun _ => ?_)
                refine lv_ldc (v := (-1000100)) hx hb hown (hts _ mX7_city_6) dX7_city_173 ?_
                refine lv_aload_n hx hb dX7_city_175 rfl (lv_at hl 0 rfl) ?_
                refine va_get (D := D) (ci := 7) (v := .int (nI (tkE tp tn 0))) (C := RX7) (T := TX7) (N := 23) hx hb hts nX7_city_0 hown hK.1 hP 3 rfl rfl 8 (by decide) (hts _ mX7_city_2) (fun _ h9 => h9) rfl dX7_city_176 ?_
                refine lv_isub hx hb dX7_city_179 ?_
                have hP9 := hP.sub (ws' := [(m0, .inr (7, [.ref ml, .ref mm, .ref mit, .ref ms, .int (st), .ref mt, .int (nI 0), .int (nI k1), .int (nI (tkE tp tn 0)), .int (nI (tkE tp tn (tkE tp tn 0))), .int (nI (tkE tp tn 0)), .int (nI (tkK tp tn (tkE tp tn 0))), .int (tkV tp tn (tkE tp tn 0)), .ref nw, .ref dr, .ref tr, .ref pa, .int (nI ac), .ref ig, .ref kx, .ref be, .ref tc, .int (nI td)])), (mt, .inl (cy 0, 100, .inl ft)), (nw, .inl (cy 0, 29, .inl f)), (dr, .inl (cy 0, 29, .inl (upd (upd (fa_fill (fun _ => nI 0) gd z1) 0 (nI 0)) 1 (nI 0))))]) [3, 2, 0, 1] rfl
                have hD9 := hD.sub (ws' := [(m0, .inr (7, [.ref ml, .ref mm, .ref mit, .ref ms, .int (st), .ref mt, .int (nI 0), .int (nI k1), .int (nI (tkE tp tn 0)), .int (nI (tkE tp tn (tkE tp tn 0))), .int (nI (tkE tp tn 0)), .int (nI (tkK tp tn (tkE tp tn 0))), .int (tkV tp tn (tkE tp tn 0)), .ref nw, .ref dr, .ref tr, .ref pa, .int (nI ac), .ref ig, .ref kx, .ref be, .ref tc, .int (nI td)])), (mt, .inl (cy 0, 100, .inl ft)), (nw, .inl (cy 0, 29, .inl f)), (dr, .inl (cy 0, 29, .inl (upd (upd (fa_fill (fun _ => nI 0) gd z1) 0 (nI 0)) 1 (nI 0))))]) [3, 2, 0, 1] (by decide) rfl
                exact q_wiret (v := (-1000100) - (nI (tkE tp tn 0))) hx hb hr hlocks dX7_city_180 hP9 hD9 hS (Or.inr ⟨(tkE tp tn 0), k1, _, _, _, _, _, by simp only [pCity, pLaw, htc, hn1, htce, Except.bind], by omega, rfl, rfl⟩)
      · refine lv_aload_n hx hb dX7_city_8 rfl (lv_at hl 0 rfl) ?_
        refine va_get (D := D) (ci := 7) (v := .ref dr) (C := RX7) (T := TX7) (N := 23) hx hb hts nX7_city_0 hown hK.1 hP 0 rfl rfl 14 (by decide) (hts _ mX7_city_4) (fun _ h9 => h9) rfl dX7_city_9 ?_
        refine lv_iload_n hx hb dX7_city_12 rfl (lv_at hl 1 rfl) ?_
        refine lv_iconst (v := nI 0) hx hb dX7_city_13 (by decide) ?_
        refine q_iast (j := z1) hx hb hK hP hD hS 3 rfl (by omega) (by decide) dX7_city_14 (fun H locs hP hD hS => ?_)
        have hP : va_P D vwCl [(m0, .inr (7, [.ref ml, .ref mm, .ref mit, .ref ms, .int (st), .ref mt, .int (nI tn), .int (fk), .int (fp), .int (av), .int (sv), .int (ov), .int (vv), .ref nw, .ref dr, .ref tr, .ref pa, .int (nI ac), .ref ig, .ref kx, .ref be, .ref tc, .int (nI td)])), (mt, .inl (cy 0, 100, .inl ft)), (nw, .inl (cy 0, 29, .inl f)), (dr, .inl (cy 0, 29, .inl (upd (fa_fill (fun _ => nI 0) gd z1) z1 (nI 0))))] H := hP
        have hD : va_D A [(m0, .inr (7, [.ref ml, .ref mm, .ref mit, .ref ms, .int (st), .ref mt, .int (nI tn), .int (fk), .int (fp), .int (av), .int (sv), .int (ov), .int (vv), .ref nw, .ref dr, .ref tr, .ref pa, .int (nI ac), .ref ig, .ref kx, .ref be, .ref tc, .int (nI td)])), (mt, .inl (cy 0, 100, .inl ft)), (nw, .inl (cy 0, 29, .inl f)), (dr, .inl (cy 0, 29, .inl (upd (fa_fill (fun _ => nI 0) gd z1) z1 (nI 0))))] := hD
        refine lv_iinc (v := nI (z1 + 1)) (lv' := [(1, .int (nI (z1 + 1))), (0, .ref m0)]) hx hb dX7_city_15 hl (k := 1) rfl (q_inc z1 1) (by decide) rfl (fun ls hl => ?_)
        refine lv_goto (tgt := 2) hx hb dX7_city_18 (by decide) ?_
        have hP := q_Pc (w1 := [(m0, .inr (7, [.ref ml, .ref mm, .ref mit, .ref ms, .int (st), .ref mt, .int (nI tn), .int (fk), .int (fp), .int (av), .int (sv), .int (ov), .int (vv), .ref nw, .ref dr, .ref tr, .ref pa, .int (nI ac), .ref ig, .ref kx, .ref be, .ref tc, .int (nI td)])), (mt, .inl (cy 0, 100, .inl ft)), (nw, .inl (cy 0, 29, .inl f)), (dr, .inl (cy 0, 29, .inl (upd (fa_fill (fun _ => nI 0) gd z1) z1 (nI 0))))]) (w2 := [(m0, .inr (7, [.ref ml, .ref mm, .ref mit, .ref ms, .int (st), .ref mt, .int (nI tn), .int (fk), .int (fp), .int (av), .int (sv), .int (ov), .int (vv), .ref nw, .ref dr, .ref tr, .ref pa, .int (nI ac), .ref ig, .ref kx, .ref be, .ref tc, .int (nI td)])), (mt, .inl (cy 0, 100, .inl ft)), (nw, .inl (cy 0, 29, .inl f)), (dr, .inl (cy 0, 29, .inl (fa_fill (fun _ => nI 0) gd (z1 + 1))))]) (q_c1 (f := fun z0 => ([(m0, .inr (7, [.ref ml, .ref mm, .ref mit, .ref ms, .int (st), .ref mt, .int (nI tn), .int (fk), .int (fp), .int (av), .int (sv), .int (ov), .int (vv), .ref nw, .ref dr, .ref tr, .ref pa, .int (nI ac), .ref ig, .ref kx, .ref be, .ref tc, .int (nI td)])), (mt, .inl (cy 0, 100, .inl ft)), (nw, .inl (cy 0, 29, .inl f)), (dr, .inl (cy 0, 29, .inl z0))] : va_W)) (show (upd (fa_fill (fun _ => nI 0) gd z1) z1 (nI 0) : Nat → Int32) = fa_fill (fun _ => nI 0) gd (z1 + 1) from fa_fill_succ (fun _ => nI 0) gd z1)) hP
        have hD := q_Dc (w1 := [(m0, .inr (7, [.ref ml, .ref mm, .ref mit, .ref ms, .int (st), .ref mt, .int (nI tn), .int (fk), .int (fp), .int (av), .int (sv), .int (ov), .int (vv), .ref nw, .ref dr, .ref tr, .ref pa, .int (nI ac), .ref ig, .ref kx, .ref be, .ref tc, .int (nI td)])), (mt, .inl (cy 0, 100, .inl ft)), (nw, .inl (cy 0, 29, .inl f)), (dr, .inl (cy 0, 29, .inl (upd (fa_fill (fun _ => nI 0) gd z1) z1 (nI 0))))]) (w2 := [(m0, .inr (7, [.ref ml, .ref mm, .ref mit, .ref ms, .int (st), .ref mt, .int (nI tn), .int (fk), .int (fp), .int (av), .int (sv), .int (ov), .int (vv), .ref nw, .ref dr, .ref tr, .ref pa, .int (nI ac), .ref ig, .ref kx, .ref be, .ref tc, .int (nI td)])), (mt, .inl (cy 0, 100, .inl ft)), (nw, .inl (cy 0, 29, .inl f)), (dr, .inl (cy 0, 29, .inl (fa_fill (fun _ => nI 0) gd (z1 + 1))))]) (q_c1 (f := fun z0 => ([(m0, .inr (7, [.ref ml, .ref mm, .ref mit, .ref ms, .int (st), .ref mt, .int (nI tn), .int (fk), .int (fp), .int (av), .int (sv), .int (ov), .int (vv), .ref nw, .ref dr, .ref tr, .ref pa, .int (nI ac), .ref ig, .ref kx, .ref be, .ref tc, .int (nI td)])), (mt, .inl (cy 0, 100, .inl ft)), (nw, .inl (cy 0, 29, .inl f)), (dr, .inl (cy 0, 29, .inl z0))] : va_W)) (show (upd (fa_fill (fun _ => nI 0) gd z1) z1 (nI 0) : Nat → Int32) = fa_fill (fun _ => nI 0) gd (z1 + 1) from fa_fill_succ (fun _ => nI 0) gd z1)) hD
        exact ih2 (z1 + 1) (by omega) (by omega) H locs hP hD hS ls (lv_sub (l' := [(0, .ref m0), (1, .int (nI (z1 + 1)))]) hl [1, 0] rfl)
  have hP := q_Pc (w1 := [(m0, .inr (7, [.ref ml, .ref mm, .ref mit, .ref ms, .int (st), .ref mt, .int (nI tn), .int (fk), .int (fp), .int (av), .int (sv), .int (ov), .int (vv), .ref nw, .ref dr, .ref tr, .ref pa, .int (nI ac), .ref ig, .ref kx, .ref be, .ref tc, .int (nI td)])), (mt, .inl (cy 0, 100, .inl ft)), (nw, .inl (cy 0, 29, .inl f)), (dr, .inl (cy 0, 29, .inl gd))]) (w2 := [(m0, .inr (7, [.ref ml, .ref mm, .ref mit, .ref ms, .int (st), .ref mt, .int (nI tn), .int (fk), .int (fp), .int (av), .int (sv), .int (ov), .int (vv), .ref nw, .ref dr, .ref tr, .ref pa, .int (nI ac), .ref ig, .ref kx, .ref be, .ref tc, .int (nI td)])), (mt, .inl (cy 0, 100, .inl ft)), (nw, .inl (cy 0, 29, .inl f)), (dr, .inl (cy 0, 29, .inl (fa_fill (fun _ => nI 0) gd 0)))]) (q_c1 (f := fun z0 => ([(m0, .inr (7, [.ref ml, .ref mm, .ref mit, .ref ms, .int (st), .ref mt, .int (nI tn), .int (fk), .int (fp), .int (av), .int (sv), .int (ov), .int (vv), .ref nw, .ref dr, .ref tr, .ref pa, .int (nI ac), .ref ig, .ref kx, .ref be, .ref tc, .int (nI td)])), (mt, .inl (cy 0, 100, .inl ft)), (nw, .inl (cy 0, 29, .inl f)), (dr, .inl (cy 0, 29, .inl z0))] : va_W)) (show (gd : Nat → Int32) = fa_fill (fun _ => nI 0) gd 0 from (fa_fill_0 _ _).symm)) hP
  have hD := q_Dc (w1 := [(m0, .inr (7, [.ref ml, .ref mm, .ref mit, .ref ms, .int (st), .ref mt, .int (nI tn), .int (fk), .int (fp), .int (av), .int (sv), .int (ov), .int (vv), .ref nw, .ref dr, .ref tr, .ref pa, .int (nI ac), .ref ig, .ref kx, .ref be, .ref tc, .int (nI td)])), (mt, .inl (cy 0, 100, .inl ft)), (nw, .inl (cy 0, 29, .inl f)), (dr, .inl (cy 0, 29, .inl gd))]) (w2 := [(m0, .inr (7, [.ref ml, .ref mm, .ref mit, .ref ms, .int (st), .ref mt, .int (nI tn), .int (fk), .int (fp), .int (av), .int (sv), .int (ov), .int (vv), .ref nw, .ref dr, .ref tr, .ref pa, .int (nI ac), .ref ig, .ref kx, .ref be, .ref tc, .int (nI td)])), (mt, .inl (cy 0, 100, .inl ft)), (nw, .inl (cy 0, 29, .inl f)), (dr, .inl (cy 0, 29, .inl (fa_fill (fun _ => nI 0) gd 0)))]) (q_c1 (f := fun z0 => ([(m0, .inr (7, [.ref ml, .ref mm, .ref mit, .ref ms, .int (st), .ref mt, .int (nI tn), .int (fk), .int (fp), .int (av), .int (sv), .int (ov), .int (vv), .ref nw, .ref dr, .ref tr, .ref pa, .int (nI ac), .ref ig, .ref kx, .ref be, .ref tc, .int (nI td)])), (mt, .inl (cy 0, 100, .inl ft)), (nw, .inl (cy 0, 29, .inl f)), (dr, .inl (cy 0, 29, .inl z0))] : va_W)) (show (gd : Nat → Int32) = fa_fill (fun _ => nI 0) gd 0 from (fa_fill_0 _ _).symm)) hD
  exact L2_4 (29 + 1) 0 (by omega) (by omega) H locs hP hD hS ls (lv_sub (l' := [(0, .ref m0), (1, .int (nI 0))]) hl [1, 0] rfl)

def pClues (tp : Nat → Nat) (n : Nat) : Nat → Nat → (Nat → Nat) → Except (Nat × Nat) (Nat → Nat)
  | 0, _, w => .ok w
  | f + 1, p, w => if p < n then (pClue tp n (ctAll w) (w 4) p).bind fun q => pClues tp n f q.1 (ctAdd w q.2.1 q.2.2.1 q.2.2.2.1 q.2.2.2.2) else .ok w
def ctLaw (su sn : Nat) : Nat → Nat := fun j => if j = 0 then su else if j = 1 then sn else 0
/-- the whole text: a city, or a fault -/
def pCity (tp : Nat → Nat) (n : Nat) : Except (Nat × Nat) (Nat → Nat) := (pLaw tp n).bind fun a => pClues tp n 7 a.1 (ctLaw a.2.1 a.2.2)
theorem pClues_0 {tp : Nat → Nat} {n f p : Nat} {w : Nat → Nat} (h : f = 0) : pClues tp n f p w = .ok w := by rw [h]; rfl
theorem pClues_n {tp : Nat → Nat} {n f p : Nat} {w : Nat → Nat} (h : n ≤ p) : pClues tp n f p w = .ok w := by
  cases f with
  | zero => rfl
  | succ f => rw [pClues, if_neg (by omega)]
theorem pClues_e {tp : Nat → Nat} {n f p : Nat} {w : Nat → Nat} {e : Nat × Nat} (h : 0 < f ∧ p < n) (hc : pClue tp n (ctAll w) (w 4) p = .error e) : pClues tp n f p w = .error e := by
  cases f with
  | zero => omega
  | succ f => rw [pClues, if_pos h.2]; exact q_berr hc
theorem pClues_s {tp : Nat → Nat} {n i p q K T E O : Nat} {w : Nat → Nat} (hi : i < 7) (h : p < n) (hc : pClue tp n (ctAll w) (w 4) p = .ok (q, K, T, E, O)) : pClues tp n (7 - i) p w = pClues tp n (7 - (i + 1)) q (ctAdd w K T E O) := by
  rw [show 7 - i = (7 - (i + 1)) + 1 by omega, pClues, if_pos h]
  exact q_bok hc rfl
theorem ctIs_law {su sn : Nat} {gk gt ge go : Nat → Int32} : ctIs (ctLaw su sn) gk gt ge go := fun c hc => absurd hc (Nat.not_lt_zero c)
theorem ctOk_law {su sn : Nat} (h : su ≤ 6) (h2 : sn ≤ 6) : ctOk (ctLaw su sn) := ⟨h, h2, Nat.zero_le _, (by decide : (0 : Nat) < 64), Nat.zero_le _, fun c hc => absurd hc (Nat.not_lt_zero c)⟩
theorem nX5_readClues_0 : ∀ w ∈ wsX50, w ∈ wsX5_readClues := by decide +kernel
theorem mX5_readClues_1 : Cond.fieldLink RX5 25 "ClueLeave$Tape" "at" "I" ∈ wsX5_readClues := by decide +kernel
theorem mX5_readClues_2 : Cond.fieldLink RX5 19 "ClueLeave$Tape" "size" "I" ∈ wsX5_readClues := by decide +kernel
set_option maxHeartbeats 4000000 in
set_option maxRecDepth 100000 in
theorem c_X5_readClues (l : Launch) (D : va_G) (cy : Nat → ClassId) (t0 tb : Nat) (fb : Nat → Int32) (tp : Nat → Nat) (n : Nat) (hn : n ≤ 100) (htp : tpIs n tp fb) (p : Nat) (z y : Int32) (hp : p ≤ n) (j0 jk jt je jo : Nat) (w0 : Nat → Nat) (hk0 ht0 he0 ho0 : Nat → Int32) (hw0 : ctIs w0 hk0 ht0 he0 ho0) (hv00 : ctOk w0) (hsu : 2 ≤ w0 0) : q_Wv l yX5_readClues wsX5_readClues 4 D cy [(t0, .inr (5, [.ref tb, .int (nI n), .int (nI p), .int (z), .int (y)])), (tb, .inl (cy 0, 100, .inl fb)), (j0, .inr (2, [.int (nI (w0 0)), .int (nI (w0 1)), .int (nI (w0 2)), .int (nI (w0 4)), .int (nI (w0 3)), .ref jk, .ref jt, .ref je, .ref jo])), (jk, .inl (cy 0, 6, .inl hk0)), (jt, .inl (cy 0, 6, .inl ht0)), (je, .inl (cy 0, 6, .inl he0)), (jo, .inl (cy 0, 6, .inl ho0))] [.ref t0, .ref j0] (fun u => (∃ (q : Nat) (w : Nat → Nat) (gk gt ge go : Nat → Int32), pClues tp n 7 p w0 = .ok w ∧ q ≤ n ∧ ctOk w ∧ ctIs w gk gt ge go ∧ 2 ≤ w 0 ∧ u = [(t0, .inr (5, [.ref tb, .int (nI n), .int (nI q), .int (z), .int (y)])), (tb, .inl (cy 0, 100, .inl fb)), (j0, .inr (2, [.int (nI (w 0)), .int (nI (w 1)), .int (nI (w 2)), .int (nI (w 4)), .int (nI (w 3)), .ref jk, .ref jt, .ref je, .ref jo])), (jk, .inl (cy 0, 6, .inl gk)), (jt, .inl (cy 0, 6, .inl gt)), (je, .inl (cy 0, 6, .inl ge)), (jo, .inl (cy 0, 6, .inl go))]) ∨ (∃ (q k : Nat) (za : Int32) (w : Nat → Nat) (gk gt ge go : Nat → Int32), pClues tp n 7 p w0 = .error (q, k) ∧ q ≤ n ∧ ctIs w gk gt ge go ∧ u = [(t0, .inr (5, [.ref tb, .int (nI n), .int (za), .int (nI q), .int (nI k)])), (tb, .inl (cy 0, 100, .inl fb)), (j0, .inr (2, [.int (nI (w 0)), .int (nI (w 1)), .int (nI (w 2)), .int (nI (w 4)), .int (nI (w 3)), .ref jk, .ref jt, .ref je, .ref jo])), (jk, .inl (cy 0, 6, .inl gk)), (jt, .inl (cy 0, 6, .inl gt)), (je, .inl (cy 0, 6, .inl ge)), (jo, .inl (cy 0, 6, .inl go))])) := by
  refine q_wv_of (cc := cX5_readClues) (maxL := 3) (ret := none) (by decide) rfl (Nat.le_of_ble_eq_true rfl) ?_
  intro pg en s mi args below meth cd A hC hA hK H locs hP hD hS ls hl
  obtain ⟨hx, hb, hr, hml, hown, hts, hlocks⟩ := hC
  have hl : lv_has ls 3 [(0, .ref t0), (1, .ref j0)] := hl
  refine lv_iconst (v := nI 0) hx hb dX5_readClues_0 (by decide) ?_
  refine lv_istore_n (lv' := [(2, .int (nI 0)), (0, .ref t0), (1, .ref j0)]) hx hb dX5_readClues_1 rfl hl (by decide) rfl (fun ls hl => ?_)
  have L2_4 : ∀ (fu i : Nat), i ≤ 7 → 7 < i + fu → ∀ (p1 : Nat), ∀ (w : Nat → Nat), ∀ (gk : Nat → Int32), ∀ (gt : Nat → Int32), ∀ (ge : Nat → Int32), ∀ (go : Nat → Int32), p1 ≤ n → 2 ≤ w 0 → pClues tp n (7 - i) p1 w = pClues tp n 7 p w0 → ctOk w → ctIs w gk gt ge go → ∀ (H : Heap) (locs : List Loc), va_P D vwCl [(t0, .inr (5, [.ref tb, .int (nI n), .int (nI p1), .int (z), .int (y)])), (tb, .inl (cy 0, 100, .inl fb)), (j0, .inr (2, [.int (nI (w 0)), .int (nI (w 1)), .int (nI (w 2)), .int (nI (w 4)), .int (nI (w 3)), .ref jk, .ref jt, .ref je, .ref jo])), (jk, .inl (cy 0, 6, .inl gk)), (jt, .inl (cy 0, 6, .inl gt)), (je, .inl (cy 0, 6, .inl ge)), (jo, .inl (cy 0, 6, .inl go))] H → va_D A [(t0, .inr (5, [.ref tb, .int (nI n), .int (nI p1), .int (z), .int (y)])), (tb, .inl (cy 0, 100, .inl fb)), (j0, .inr (2, [.int (nI (w 0)), .int (nI (w 1)), .int (nI (w 2)), .int (nI (w 4)), .int (nI (w 3)), .ref jk, .ref jt, .ref je, .ref jo])), (jk, .inl (cy 0, 6, .inl gk)), (jt, .inl (cy 0, 6, .inl gt)), (je, .inl (cy 0, 6, .inl ge)), (jo, .inl (cy 0, 6, .inl go))] → va_S A s.heap H locs → ∀ ls : Array Slot, lv_has ls 3 [(0, .ref t0), (1, .ref j0), (2, .int (nI i))] → W pg l en (q_rm 4) s mi args below meth cd H locs 0 0 (MQ below (va_Qv (fun u => (∃ (q : Nat) (w : Nat → Nat) (gk gt ge go : Nat → Int32), pClues tp n 7 p w0 = .ok w ∧ q ≤ n ∧ ctOk w ∧ ctIs w gk gt ge go ∧ 2 ≤ w 0 ∧ u = [(t0, .inr (5, [.ref tb, .int (nI n), .int (nI q), .int (z), .int (y)])), (tb, .inl (cy 0, 100, .inl fb)), (j0, .inr (2, [.int (nI (w 0)), .int (nI (w 1)), .int (nI (w 2)), .int (nI (w 4)), .int (nI (w 3)), .ref jk, .ref jt, .ref je, .ref jo])), (jk, .inl (cy 0, 6, .inl gk)), (jt, .inl (cy 0, 6, .inl gt)), (je, .inl (cy 0, 6, .inl ge)), (jo, .inl (cy 0, 6, .inl go))]) ∨ (∃ (q k : Nat) (za : Int32) (w : Nat → Nat) (gk gt ge go : Nat → Int32), pClues tp n 7 p w0 = .error (q, k) ∧ q ≤ n ∧ ctIs w gk gt ge go ∧ u = [(t0, .inr (5, [.ref tb, .int (nI n), .int (za), .int (nI q), .int (nI k)])), (tb, .inl (cy 0, 100, .inl fb)), (j0, .inr (2, [.int (nI (w 0)), .int (nI (w 1)), .int (nI (w 2)), .int (nI (w 4)), .int (nI (w 3)), .ref jk, .ref jt, .ref je, .ref jo])), (jk, .inl (cy 0, 6, .inl gk)), (jt, .inl (cy 0, 6, .inl gt)), (je, .inl (cy 0, 6, .inl ge)), (jo, .inl (cy 0, 6, .inl go))])) (fun (u : va_W) t => va_P D vwCl u t.heap ∧ va_D A u) A) args s 0 0 A) (F0 mi 2 ls []) := by
    intro fu
    induction fu with
    | zero =>
      intro i h1 h2
      exact absurd h2 (by omega)
    | succ fu ih2 =>
      intro i h1_2 h2_2 p1 w gk gt ge go hf2_0 hf2_1 hf2_2 hf2_3 hf2_4 H locs hP hD hS ls hl
      have hv := hf2_3
      have hw := hf2_4
      refine lv_iload_n hx hb dX5_readClues_2 rfl (lv_at hl 2 rfl) ?_
      refine lv_bipush (v := nI 6) hx hb dX5_readClues_3 (by decide) ?_
      refine q_icmp_gt (tgt := 34) hx hb dX5_readClues_5 (by decide) (by omega) (by decide) (fun c1 => ?_) (fun c1 => ?_)
      · have hP9 := hP
        have hD9 := hD
        exact q_wvret hx hb hr hlocks dX5_readClues_34 hP9 hD9 hS (Or.inl ⟨_, _, _, _, _, _, hf2_2.symm.trans (pClues_0 (by omega)), by omega, hv, hw, by omega, rfl⟩)
      · refine lv_aload_n hx hb dX5_readClues_8 rfl (lv_at hl 0 rfl) ?_
        refine va_get (D := D) (ci := 5) (v := .int (nI p1)) (C := RX5) (T := TX5) (N := 5) hx hb hts nX5_readClues_0 hown hK.1 hP 0 rfl rfl 2 (by decide) (hts _ mX5_readClues_1) (fun _ h9 => h9) rfl dX5_readClues_9 ?_
        refine lv_aload_n hx hb dX5_readClues_12 rfl (lv_at hl 0 rfl) ?_
        refine va_get (D := D) (ci := 5) (v := .int (nI n)) (C := RX5) (T := TX5) (N := 5) hx hb hts nX5_readClues_0 hown hK.1 hP 0 rfl rfl 1 (by decide) (hts _ mX5_readClues_2) (fun _ h9 => h9) rfl dX5_readClues_13 ?_
        refine q_icmp_ge (tgt := 34) hx hb dX5_readClues_16 (by decide) (by omega) (by omega) (fun c2 => ?_) (fun c2 => ?_)
        · have hP9 := hP
          have hD9 := hD
          exact q_wvret hx hb hr hlocks dX5_readClues_34 hP9 hD9 hS (Or.inl ⟨_, _, _, _, _, _, hf2_2.symm.trans (pClues_n (by omega)), by omega, hv, hw, by omega, rfl⟩)
        · refine lv_aload_n hx hb dX5_readClues_19 rfl (lv_at hl 0 rfl) ?_
          refine lv_aload_n hx hb dX5_readClues_20 rfl (lv_at hl 1 rfl) ?_
          refine q_wiV (As := [.ref j0]) (rest := []) (wr := []) ⟨hx, hb, hml, hown, hts⟩ (c_X5_readClue l D cy t0 tb fb tp n hn htp p1 z y (by omega) j0 jk jt je jo w gk gt ge go hw hv (by omega)) (cwV 1 hts gX5_readClues_X5_readClue rfl rfl rfl (by decide +kernel) ⟨Nat.le_of_ble_eq_true rfl, Nat.le_of_ble_eq_true rfl⟩) hP hD hS hA hK [0, 1, 2, 3, 4, 5, 6] [] rfl rfl (by decide) rfl (by decide) (by decide) 0 rfl rfl rfl rfl hl.1 rfl (Nat.le_of_ble_eq_true rfl) dX5_readClues_21 ⟨Nat.zero_le _, Nat.zero_le _⟩ (fun r3 u4 H locs hr3 hP hD hS => ?_)
          rcases hr3 with ⟨q, K, T, E, O, hq1, hq2, hq3, hq4, hq5, hq6, hq7, hq8, hq9, hq10, hq11, rfl, nk, nt, ne, no, hq12, rfl⟩ | ⟨q, k, za, hq1, hq3, rfl, rfl⟩
          · have hP : va_P D vwCl [(t0, .inr (5, [.ref tb, .int (nI n), .int (nI q), .int (z), .int (y)])), (tb, .inl (cy 0, 100, .inl fb)), (j0, .inr (2, [.int (nI ((ctAdd w K T E O) 0)), .int (nI ((ctAdd w K T E O) 1)), .int (nI ((ctAdd w K T E O) 2)), .int (nI ((ctAdd w K T E O) 4)), .int (nI ((ctAdd w K T E O) 3)), .ref jk, .ref jt, .ref je, .ref jo])), (jk, .inl (cy 0, 6, .inl nk)), (jt, .inl (cy 0, 6, .inl nt)), (je, .inl (cy 0, 6, .inl ne)), (jo, .inl (cy 0, 6, .inl no))] H := hP
            have hD : va_D A [(t0, .inr (5, [.ref tb, .int (nI n), .int (nI q), .int (z), .int (y)])), (tb, .inl (cy 0, 100, .inl fb)), (j0, .inr (2, [.int (nI ((ctAdd w K T E O) 0)), .int (nI ((ctAdd w K T E O) 1)), .int (nI ((ctAdd w K T E O) 2)), .int (nI ((ctAdd w K T E O) 4)), .int (nI ((ctAdd w K T E O) 3)), .ref jk, .ref jt, .ref je, .ref jo])), (jk, .inl (cy 0, 6, .inl nk)), (jt, .inl (cy 0, 6, .inl nt)), (je, .inl (cy 0, 6, .inl ne)), (jo, .inl (cy 0, 6, .inl no))] := hD
            refine lv_if_ne (tgt := 28) hx hb dX5_readClues_24 (by decide) (fun _ => ?_) (fun c9 => absurd c9 (by decide))
            refine lv_iinc (v := nI (i + 1)) (lv' := [(2, .int (nI (i + 1))), (0, .ref t0), (1, .ref j0)]) hx hb dX5_readClues_28 hl (k := 2) rfl (q_inc i 1) (by decide) rfl (fun ls hl => ?_)
            refine lv_goto (tgt := 2) hx hb dX5_readClues_31 (by decide) ?_
            exact ih2 (i + 1) (by omega) (by omega) q (ctAdd w K T E O) nk nt ne no hq3 hf2_1 ((pClues_s (by omega) (by omega) hq1).symm.trans hf2_2) (ctOk_add hf2_3 hq4 hq5 hq6 hq7 (Nat.lt_of_le_of_lt hq8 (ctAll_lt hf2_3.1)) hq9 hq10 hq11) hq12 H locs hP hD hS ls (lv_sub (l' := [(0, .ref t0), (1, .ref j0), (2, .int (nI (i + 1)))]) hl [1, 2, 0] rfl)
          · have hP : va_P D vwCl [(t0, .inr (5, [.ref tb, .int (nI n), .int (za), .int (nI q), .int (nI k)])), (tb, .inl (cy 0, 100, .inl fb)), (j0, .inr (2, [.int (nI (w 0)), .int (nI (w 1)), .int (nI (w 2)), .int (nI (w 4)), .int (nI (w 3)), .ref jk, .ref jt, .ref je, .ref jo])), (jk, .inl (cy 0, 6, .inl gk)), (jt, .inl (cy 0, 6, .inl gt)), (je, .inl (cy 0, 6, .inl ge)), (jo, .inl (cy 0, 6, .inl go))] H := hP
            have hD : va_D A [(t0, .inr (5, [.ref tb, .int (nI n), .int (za), .int (nI q), .int (nI k)])), (tb, .inl (cy 0, 100, .inl fb)), (j0, .inr (2, [.int (nI (w 0)), .int (nI (w 1)), .int (nI (w 2)), .int (nI (w 4)), .int (nI (w 3)), .ref jk, .ref jt, .ref je, .ref jo])), (jk, .inl (cy 0, 6, .inl gk)), (jt, .inl (cy 0, 6, .inl gt)), (je, .inl (cy 0, 6, .inl ge)), (jo, .inl (cy 0, 6, .inl go))] := hD
            refine lv_if_ne (tgt := 28) hx hb dX5_readClues_24 (by decide) (fun c9 => absurd (by decide) c9) (fun _ => ?_)
            have hP9 := hP
            have hD9 := hD
            exact q_wvret hx hb hr hlocks dX5_readClues_27 hP9 hD9 hS (Or.inr ⟨_, _, _, _, _, _, _, _, hf2_2.symm.trans (pClues_e (by omega) hq1), hq3, hw, rfl⟩)
  exact L2_4 (7 + 1) 0 (by omega) (by omega) p w0 hk0 ht0 he0 ho0 hp hsu rfl hv00 hw0 H locs hP hD hS ls (lv_sub (l' := [(0, .ref t0), (1, .ref j0), (2, .int (nI 0))]) hl [1, 2, 0] rfl)
theorem nX5_readInto_0 : ∀ w ∈ wsX50, w ∈ wsX5_readInto := by decide +kernel
theorem mX5_readInto_1 : Cond.fieldLink RX5 25 "ClueLeave$Tape" "at" "I" ∈ wsX5_readInto := by decide +kernel
theorem mX5_readInto_2 : Cond.fieldLink RX5 15 "ClueLeave$Tape" "faultPlace" "I" ∈ wsX5_readInto := by decide +kernel
theorem mX5_readInto_3 : Cond.fieldLink RX5 19 "ClueLeave$Tape" "size" "I" ∈ wsX5_readInto := by decide +kernel
set_option maxHeartbeats 4000000 in
set_option maxRecDepth 100000 in
theorem c_X5_readInto (l : Launch) (D : va_G) (cy : Nat → ClassId) (t0 tb : Nat) (fb : Nat → Int32) (tp : Nat → Nat) (n : Nat) (hn : n ≤ 100) (htp : tpIs n tp fb) (za z y : Int32) (j0 jk jt je jo : Nat) (x0 x1 x2 x3 x4 : Int32) (gk gt ge go : Nat → Int32) : q_Wi l yX5_readInto wsX5_readInto 5 D cy [(t0, .inr (5, [.ref tb, .int (nI n), .int (za), .int (z), .int (y)])), (tb, .inl (cy 0, 100, .inl fb)), (j0, .inr (2, [.int (x0), .int (x1), .int (x2), .int (x3), .int (x4), .ref jk, .ref jt, .ref je, .ref jo])), (jk, .inl (cy 0, 6, .inl gk)), (jt, .inl (cy 0, 6, .inl gt)), (je, .inl (cy 0, 6, .inl ge)), (jo, .inl (cy 0, 6, .inl go))] [.ref t0, .ref j0] (fun r u => (∃ (za : Int32) (w : Nat → Nat) (gk gt ge go : Nat → Int32), pCity tp n = .ok w ∧ ctOk w ∧ ctIs w gk gt ge go ∧ 2 ≤ w 0 ∧ r = -1 ∧ u = [(t0, .inr (5, [.ref tb, .int (nI 0), .int (za), .int (-1), .int (y)])), (tb, .inl (cy 0, 100, .inl fb)), (j0, .inr (2, [.int (nI (w 0)), .int (nI (w 1)), .int (nI (w 2)), .int (nI (w 4)), .int (nI (w 3)), .ref jk, .ref jt, .ref je, .ref jo])), (jk, .inl (cy 0, 6, .inl gk)), (jt, .inl (cy 0, 6, .inl gt)), (je, .inl (cy 0, 6, .inl ge)), (jo, .inl (cy 0, 6, .inl go))]) ∨ (∃ (q k : Nat) (za a0 a1 a2 a3 a4 : Int32) (gk gt ge go : Nat → Int32), pCity tp n = .error (q, k) ∧ q ≤ n ∧ r = nI q ∧ u = [(t0, .inr (5, [.ref tb, .int (nI 0), .int (za), .int (nI q), .int (nI k)])), (tb, .inl (cy 0, 100, .inl fb)), (j0, .inr (2, [.int (a0), .int (a1), .int (a2), .int (a3), .int (a4), .ref jk, .ref jt, .ref je, .ref jo])), (jk, .inl (cy 0, 6, .inl gk)), (jt, .inl (cy 0, 6, .inl gt)), (je, .inl (cy 0, 6, .inl ge)), (jo, .inl (cy 0, 6, .inl go))])) := by
  refine q_wi_of (cc := cX5_readInto) (maxL := 2) (ret := (some .int)) (by decide) rfl (Nat.le_of_ble_eq_true rfl) ?_
  intro pg en s mi args below meth cd A hC hA hK H locs hP hD hS ls hl
  obtain ⟨hx, hb, hr, hml, hown, hts, hlocks⟩ := hC
  have hl : lv_has ls 2 [(0, .ref t0), (1, .ref j0)] := hl
  refine lv_aload_n hx hb dX5_readInto_0 rfl (lv_at hl 0 rfl) ?_
  refine lv_iconst (v := nI 0) hx hb dX5_readInto_1 (by decide) ?_
  refine va_put (D := D) (ci := 5) (v := .int (nI 0)) (ty := .int) (C := RX5) (T := TX5) (N := 5) hx hb hts nX5_readInto_0 tyX5 tyX5_ok nmX5 hown hK.1 hP hD hS 0 rfl rfl 2 (by decide) (hts _ mX5_readInto_1) (fun _ h9 => h9) rfl (by decide +kernel) rfl rfl (Nat.le_of_ble_eq_true rfl) dX5_readInto_2 (fun H locs hP hD hS => ?_)
  have hP : va_P D vwCl [(t0, .inr (5, [.ref tb, .int (nI n), .int (nI 0), .int (z), .int (y)])), (tb, .inl (cy 0, 100, .inl fb)), (j0, .inr (2, [.int (x0), .int (x1), .int (x2), .int (x3), .int (x4), .ref jk, .ref jt, .ref je, .ref jo])), (jk, .inl (cy 0, 6, .inl gk)), (jt, .inl (cy 0, 6, .inl gt)), (je, .inl (cy 0, 6, .inl ge)), (jo, .inl (cy 0, 6, .inl go))] H := hP
  have hD : va_D A [(t0, .inr (5, [.ref tb, .int (nI n), .int (nI 0), .int (z), .int (y)])), (tb, .inl (cy 0, 100, .inl fb)), (j0, .inr (2, [.int (x0), .int (x1), .int (x2), .int (x3), .int (x4), .ref jk, .ref jt, .ref je, .ref jo])), (jk, .inl (cy 0, 6, .inl gk)), (jt, .inl (cy 0, 6, .inl gt)), (je, .inl (cy 0, 6, .inl ge)), (jo, .inl (cy 0, 6, .inl go))] := hD
  refine lv_aload_n hx hb dX5_readInto_5 rfl (lv_at hl 0 rfl) ?_
  refine lv_iconst (v := (-1)) hx hb dX5_readInto_6 (by decide) ?_
  refine va_put (D := D) (ci := 5) (v := .int ((-1))) (ty := .int) (C := RX5) (T := TX5) (N := 5) hx hb hts nX5_readInto_0 tyX5 tyX5_ok nmX5 hown hK.1 hP hD hS 0 rfl rfl 3 (by decide) (hts _ mX5_readInto_2) (fun _ h9 => h9) rfl (by decide +kernel) rfl rfl (Nat.le_of_ble_eq_true rfl) dX5_readInto_7 (fun H locs hP hD hS => ?_)
  have hP : va_P D vwCl [(t0, .inr (5, [.ref tb, .int (nI n), .int (nI 0), .int ((-1)), .int (y)])), (tb, .inl (cy 0, 100, .inl fb)), (j0, .inr (2, [.int (x0), .int (x1), .int (x2), .int (x3), .int (x4), .ref jk, .ref jt, .ref je, .ref jo])), (jk, .inl (cy 0, 6, .inl gk)), (jt, .inl (cy 0, 6, .inl gt)), (je, .inl (cy 0, 6, .inl ge)), (jo, .inl (cy 0, 6, .inl go))] H := hP
  have hD : va_D A [(t0, .inr (5, [.ref tb, .int (nI n), .int (nI 0), .int ((-1)), .int (y)])), (tb, .inl (cy 0, 100, .inl fb)), (j0, .inr (2, [.int (x0), .int (x1), .int (x2), .int (x3), .int (x4), .ref jk, .ref jt, .ref je, .ref jo])), (jk, .inl (cy 0, 6, .inl gk)), (jt, .inl (cy 0, 6, .inl gt)), (je, .inl (cy 0, 6, .inl ge)), (jo, .inl (cy 0, 6, .inl go))] := hD
  refine lv_aload_n hx hb dX5_readInto_10 rfl (lv_at hl 1 rfl) ?_
  refine q_wvV (As := []) (rest := []) (wr := [(t0, .inr (5, [.ref tb, .int (nI n), .int (nI 0), .int ((-1)), .int (y)])), (tb, .inl (cy 0, 100, .inl fb))]) ⟨hx, hb, hml, hown, hts⟩ (c_X2_clear l D cy j0 jk jt je jo x0 x1 x2 x3 x4 gk gt ge go) (cwV 0 hts gX5_readInto_X2_clear rfl rfl rfl (by decide +kernel) ⟨Nat.le_of_ble_eq_true rfl, Nat.le_of_ble_eq_true rfl⟩) hP hD hS hA hK [2, 3, 4, 5, 6] [0, 1] rfl rfl (by decide) rfl (by decide) (by decide) 2 rfl rfl rfl rfl hl.1 rfl (Nat.le_of_ble_eq_true rfl) dX5_readInto_11 ⟨Nat.zero_le _, Nat.zero_le _⟩ (fun u2 H locs hr1 hP hD hS => ?_)
  obtain rfl := hr1
  have hP : va_P D vwCl [(t0, .inr (5, [.ref tb, .int (nI n), .int (nI 0), .int ((-1)), .int (y)])), (tb, .inl (cy 0, 100, .inl fb)), (j0, .inr (2, [.int (nI 0), .int (nI 0), .int (nI 0), .int (nI 0), .int (nI 0), .ref jk, .ref jt, .ref je, .ref jo])), (jk, .inl (cy 0, 6, .inl gk)), (jt, .inl (cy 0, 6, .inl gt)), (je, .inl (cy 0, 6, .inl ge)), (jo, .inl (cy 0, 6, .inl go))] H := hP
  have hD : va_D A [(t0, .inr (5, [.ref tb, .int (nI n), .int (nI 0), .int ((-1)), .int (y)])), (tb, .inl (cy 0, 100, .inl fb)), (j0, .inr (2, [.int (nI 0), .int (nI 0), .int (nI 0), .int (nI 0), .int (nI 0), .ref jk, .ref jt, .ref je, .ref jo])), (jk, .inl (cy 0, 6, .inl gk)), (jt, .inl (cy 0, 6, .inl gt)), (je, .inl (cy 0, 6, .inl ge)), (jo, .inl (cy 0, 6, .inl go))] := hD
  refine lv_aload_n hx hb dX5_readInto_14 rfl (lv_at hl 0 rfl) ?_
  refine lv_aload_n hx hb dX5_readInto_15 rfl (lv_at hl 1 rfl) ?_
  refine q_wiV (As := [.ref j0]) (rest := []) (wr := []) ⟨hx, hb, hml, hown, hts⟩ (c_X5_readLaw l D cy t0 tb fb tp n hn htp (-1) y j0 jk jt je jo (nI 0) (nI 0) (nI 0) (nI 0) (nI 0) gk gt ge go) (cwV 1 hts gX5_readInto_X5_readLaw rfl rfl rfl (by decide +kernel) ⟨Nat.le_of_ble_eq_true rfl, Nat.le_of_ble_eq_true rfl⟩) hP hD hS hA hK [0, 1, 2, 3, 4, 5, 6] [] rfl rfl (by decide) rfl (by decide) (by decide) 0 rfl rfl rfl rfl hl.1 rfl (Nat.le_of_ble_eq_true rfl) dX5_readInto_16 ⟨Nat.zero_le _, Nat.zero_le _⟩ (fun r3 u4 H locs hr3 hP hD hS => ?_)
  rcases hr3 with ⟨ql, su, sn, hl0, hl1, hl2, hl3, hl5, rfl, rfl⟩ | ⟨q, k, za, a0, a1, hl0, hq2, rfl, rfl⟩
  · have hP : va_P D vwCl [(t0, .inr (5, [.ref tb, .int (nI n), .int (nI ql), .int ((-1)), .int (y)])), (tb, .inl (cy 0, 100, .inl fb)), (j0, .inr (2, [.int (nI ((ctLaw su sn) 0)), .int (nI ((ctLaw su sn) 1)), .int (nI ((ctLaw su sn) 2)), .int (nI ((ctLaw su sn) 4)), .int (nI ((ctLaw su sn) 3)), .ref jk, .ref jt, .ref je, .ref jo])), (jk, .inl (cy 0, 6, .inl gk)), (jt, .inl (cy 0, 6, .inl gt)), (je, .inl (cy 0, 6, .inl ge)), (jo, .inl (cy 0, 6, .inl go))] H := hP
    have hD : va_D A [(t0, .inr (5, [.ref tb, .int (nI n), .int (nI ql), .int ((-1)), .int (y)])), (tb, .inl (cy 0, 100, .inl fb)), (j0, .inr (2, [.int (nI ((ctLaw su sn) 0)), .int (nI ((ctLaw su sn) 1)), .int (nI ((ctLaw su sn) 2)), .int (nI ((ctLaw su sn) 4)), .int (nI ((ctLaw su sn) 3)), .ref jk, .ref jt, .ref je, .ref jo])), (jk, .inl (cy 0, 6, .inl gk)), (jt, .inl (cy 0, 6, .inl gt)), (je, .inl (cy 0, 6, .inl ge)), (jo, .inl (cy 0, 6, .inl go))] := hD
    refine lv_if_eq (tgt := 27) hx hb dX5_readInto_19 (by decide) (fun c9 => absurd c9 (by decide)) (fun _ => ?_)
    refine lv_aload_n hx hb dX5_readInto_22 rfl (lv_at hl 0 rfl) ?_
    refine lv_aload_n hx hb dX5_readInto_23 rfl (lv_at hl 1 rfl) ?_
    refine q_wvV (As := [.ref j0]) (rest := []) (wr := []) ⟨hx, hb, hml, hown, hts⟩ (c_X5_readClues l D cy t0 tb fb tp n hn htp ql (-1) y hl5 j0 jk jt je jo (ctLaw su sn) gk gt ge go ctIs_law (ctOk_law hl2 hl3) hl1) (cwV 1 hts gX5_readInto_X5_readClues rfl rfl rfl (by decide +kernel) ⟨Nat.le_of_ble_eq_true rfl, Nat.le_of_ble_eq_true rfl⟩) hP hD hS hA hK [0, 1, 2, 3, 4, 5, 6] [] rfl rfl (by decide) rfl (by decide) (by decide) 0 rfl rfl rfl rfl hl.1 rfl (Nat.le_of_ble_eq_true rfl) dX5_readInto_24 ⟨Nat.zero_le _, Nat.zero_le _⟩ (fun u6 H locs hr5 hP hD hS => ?_)
    rcases hr5 with ⟨q, w, gk, gt, ge, go, hq1, hq2, hq3, hq4, hq5, rfl⟩ | ⟨q, k, za, w, gk, gt, ge, go, hq1, hq2, hq4, rfl⟩
    · have hP : va_P D vwCl [(t0, .inr (5, [.ref tb, .int (nI n), .int (nI q), .int ((-1)), .int (y)])), (tb, .inl (cy 0, 100, .inl fb)), (j0, .inr (2, [.int (nI (w 0)), .int (nI (w 1)), .int (nI (w 2)), .int (nI (w 4)), .int (nI (w 3)), .ref jk, .ref jt, .ref je, .ref jo])), (jk, .inl (cy 0, 6, .inl gk)), (jt, .inl (cy 0, 6, .inl gt)), (je, .inl (cy 0, 6, .inl ge)), (jo, .inl (cy 0, 6, .inl go))] H := hP
      have hD : va_D A [(t0, .inr (5, [.ref tb, .int (nI n), .int (nI q), .int ((-1)), .int (y)])), (tb, .inl (cy 0, 100, .inl fb)), (j0, .inr (2, [.int (nI (w 0)), .int (nI (w 1)), .int (nI (w 2)), .int (nI (w 4)), .int (nI (w 3)), .ref jk, .ref jt, .ref je, .ref jo])), (jk, .inl (cy 0, 6, .inl gk)), (jt, .inl (cy 0, 6, .inl gt)), (je, .inl (cy 0, 6, .inl ge)), (jo, .inl (cy 0, 6, .inl go))] := hD
      refine lv_aload_n hx hb dX5_readInto_27 rfl (lv_at hl 0 rfl) ?_
      refine lv_iconst (v := nI 0) hx hb dX5_readInto_28 (by decide) ?_
      refine va_put (D := D) (ci := 5) (v := .int (nI 0)) (ty := .int) (C := RX5) (T := TX5) (N := 5) hx hb hts nX5_readInto_0 tyX5 tyX5_ok nmX5 hown hK.1 hP hD hS 0 rfl rfl 1 (by decide) (hts _ mX5_readInto_3) (fun _ h9 => h9) rfl (by decide +kernel) rfl rfl (Nat.le_of_ble_eq_true rfl) dX5_readInto_29 (fun H locs hP hD hS => ?_)
      have hP : va_P D vwCl [(t0, .inr (5, [.ref tb, .int (nI 0), .int (nI q), .int ((-1)), .int (y)])), (tb, .inl (cy 0, 100, .inl fb)), (j0, .inr (2, [.int (nI (w 0)), .int (nI (w 1)), .int (nI (w 2)), .int (nI (w 4)), .int (nI (w 3)), .ref jk, .ref jt, .ref je, .ref jo])), (jk, .inl (cy 0, 6, .inl gk)), (jt, .inl (cy 0, 6, .inl gt)), (je, .inl (cy 0, 6, .inl ge)), (jo, .inl (cy 0, 6, .inl go))] H := hP
      have hD : va_D A [(t0, .inr (5, [.ref tb, .int (nI 0), .int (nI q), .int ((-1)), .int (y)])), (tb, .inl (cy 0, 100, .inl fb)), (j0, .inr (2, [.int (nI (w 0)), .int (nI (w 1)), .int (nI (w 2)), .int (nI (w 4)), .int (nI (w 3)), .ref jk, .ref jt, .ref je, .ref jo])), (jk, .inl (cy 0, 6, .inl gk)), (jt, .inl (cy 0, 6, .inl gt)), (je, .inl (cy 0, 6, .inl ge)), (jo, .inl (cy 0, 6, .inl go))] := hD
      refine lv_aload_n hx hb dX5_readInto_32 rfl (lv_at hl 0 rfl) ?_
      refine va_get (D := D) (ci := 5) (v := .int ((-1))) (C := RX5) (T := TX5) (N := 5) hx hb hts nX5_readInto_0 hown hK.1 hP 0 rfl rfl 3 (by decide) (hts _ mX5_readInto_2) (fun _ h9 => h9) rfl dX5_readInto_33 ?_
      have hP9 := hP
      have hD9 := hD
      exact q_wiret (v := (-1)) hx hb hr hlocks dX5_readInto_36 hP9 hD9 hS (Or.inl ⟨_, _, _, _, _, _, by unfold pCity; exact q_bok hl0 hq1, hq3, hq4, hq5, rfl, rfl⟩)
    · have hP : va_P D vwCl [(t0, .inr (5, [.ref tb, .int (nI n), .int (za), .int (nI q), .int (nI k)])), (tb, .inl (cy 0, 100, .inl fb)), (j0, .inr (2, [.int (nI (w 0)), .int (nI (w 1)), .int (nI (w 2)), .int (nI (w 4)), .int (nI (w 3)), .ref jk, .ref jt, .ref je, .ref jo])), (jk, .inl (cy 0, 6, .inl gk)), (jt, .inl (cy 0, 6, .inl gt)), (je, .inl (cy 0, 6, .inl ge)), (jo, .inl (cy 0, 6, .inl go))] H := hP
      have hD : va_D A [(t0, .inr (5, [.ref tb, .int (nI n), .int (za), .int (nI q), .int (nI k)])), (tb, .inl (cy 0, 100, .inl fb)), (j0, .inr (2, [.int (nI (w 0)), .int (nI (w 1)), .int (nI (w 2)), .int (nI (w 4)), .int (nI (w 3)), .ref jk, .ref jt, .ref je, .ref jo])), (jk, .inl (cy 0, 6, .inl gk)), (jt, .inl (cy 0, 6, .inl gt)), (je, .inl (cy 0, 6, .inl ge)), (jo, .inl (cy 0, 6, .inl go))] := hD
      refine lv_aload_n hx hb dX5_readInto_27 rfl (lv_at hl 0 rfl) ?_
      refine lv_iconst (v := nI 0) hx hb dX5_readInto_28 (by decide) ?_
      refine va_put (D := D) (ci := 5) (v := .int (nI 0)) (ty := .int) (C := RX5) (T := TX5) (N := 5) hx hb hts nX5_readInto_0 tyX5 tyX5_ok nmX5 hown hK.1 hP hD hS 0 rfl rfl 1 (by decide) (hts _ mX5_readInto_3) (fun _ h9 => h9) rfl (by decide +kernel) rfl rfl (Nat.le_of_ble_eq_true rfl) dX5_readInto_29 (fun H locs hP hD hS => ?_)
      have hP : va_P D vwCl [(t0, .inr (5, [.ref tb, .int (nI 0), .int (za), .int (nI q), .int (nI k)])), (tb, .inl (cy 0, 100, .inl fb)), (j0, .inr (2, [.int (nI (w 0)), .int (nI (w 1)), .int (nI (w 2)), .int (nI (w 4)), .int (nI (w 3)), .ref jk, .ref jt, .ref je, .ref jo])), (jk, .inl (cy 0, 6, .inl gk)), (jt, .inl (cy 0, 6, .inl gt)), (je, .inl (cy 0, 6, .inl ge)), (jo, .inl (cy 0, 6, .inl go))] H := hP
      have hD : va_D A [(t0, .inr (5, [.ref tb, .int (nI 0), .int (za), .int (nI q), .int (nI k)])), (tb, .inl (cy 0, 100, .inl fb)), (j0, .inr (2, [.int (nI (w 0)), .int (nI (w 1)), .int (nI (w 2)), .int (nI (w 4)), .int (nI (w 3)), .ref jk, .ref jt, .ref je, .ref jo])), (jk, .inl (cy 0, 6, .inl gk)), (jt, .inl (cy 0, 6, .inl gt)), (je, .inl (cy 0, 6, .inl ge)), (jo, .inl (cy 0, 6, .inl go))] := hD
      refine lv_aload_n hx hb dX5_readInto_32 rfl (lv_at hl 0 rfl) ?_
      refine va_get (D := D) (ci := 5) (v := .int (nI q)) (C := RX5) (T := TX5) (N := 5) hx hb hts nX5_readInto_0 hown hK.1 hP 0 rfl rfl 3 (by decide) (hts _ mX5_readInto_2) (fun _ h9 => h9) rfl dX5_readInto_33 ?_
      have hP9 := hP
      have hD9 := hD
      exact q_wiret (v := nI q) hx hb hr hlocks dX5_readInto_36 hP9 hD9 hS (Or.inr ⟨_, _, _, _, _, _, _, _, _, _, _, _, by unfold pCity; exact q_bok hl0 hq1, hq2, rfl, rfl⟩)
  · have hP : va_P D vwCl [(t0, .inr (5, [.ref tb, .int (nI n), .int (za), .int (nI q), .int (nI k)])), (tb, .inl (cy 0, 100, .inl fb)), (j0, .inr (2, [.int (a0), .int (a1), .int (nI 0), .int (nI 0), .int (nI 0), .ref jk, .ref jt, .ref je, .ref jo])), (jk, .inl (cy 0, 6, .inl gk)), (jt, .inl (cy 0, 6, .inl gt)), (je, .inl (cy 0, 6, .inl ge)), (jo, .inl (cy 0, 6, .inl go))] H := hP
    have hD : va_D A [(t0, .inr (5, [.ref tb, .int (nI n), .int (za), .int (nI q), .int (nI k)])), (tb, .inl (cy 0, 100, .inl fb)), (j0, .inr (2, [.int (a0), .int (a1), .int (nI 0), .int (nI 0), .int (nI 0), .ref jk, .ref jt, .ref je, .ref jo])), (jk, .inl (cy 0, 6, .inl gk)), (jt, .inl (cy 0, 6, .inl gt)), (je, .inl (cy 0, 6, .inl ge)), (jo, .inl (cy 0, 6, .inl go))] := hD
    refine lv_if_eq (tgt := 27) hx hb dX5_readInto_19 (by decide) (fun _ => ?_) (fun c9 => absurd (by decide) c9)
    refine lv_aload_n hx hb dX5_readInto_27 rfl (lv_at hl 0 rfl) ?_
    refine lv_iconst (v := nI 0) hx hb dX5_readInto_28 (by decide) ?_
    refine va_put (D := D) (ci := 5) (v := .int (nI 0)) (ty := .int) (C := RX5) (T := TX5) (N := 5) hx hb hts nX5_readInto_0 tyX5 tyX5_ok nmX5 hown hK.1 hP hD hS 0 rfl rfl 1 (by decide) (hts _ mX5_readInto_3) (fun _ h9 => h9) rfl (by decide +kernel) rfl rfl (Nat.le_of_ble_eq_true rfl) dX5_readInto_29 (fun H locs hP hD hS => ?_)
    have hP : va_P D vwCl [(t0, .inr (5, [.ref tb, .int (nI 0), .int (za), .int (nI q), .int (nI k)])), (tb, .inl (cy 0, 100, .inl fb)), (j0, .inr (2, [.int (a0), .int (a1), .int (nI 0), .int (nI 0), .int (nI 0), .ref jk, .ref jt, .ref je, .ref jo])), (jk, .inl (cy 0, 6, .inl gk)), (jt, .inl (cy 0, 6, .inl gt)), (je, .inl (cy 0, 6, .inl ge)), (jo, .inl (cy 0, 6, .inl go))] H := hP
    have hD : va_D A [(t0, .inr (5, [.ref tb, .int (nI 0), .int (za), .int (nI q), .int (nI k)])), (tb, .inl (cy 0, 100, .inl fb)), (j0, .inr (2, [.int (a0), .int (a1), .int (nI 0), .int (nI 0), .int (nI 0), .ref jk, .ref jt, .ref je, .ref jo])), (jk, .inl (cy 0, 6, .inl gk)), (jt, .inl (cy 0, 6, .inl gt)), (je, .inl (cy 0, 6, .inl ge)), (jo, .inl (cy 0, 6, .inl go))] := hD
    refine lv_aload_n hx hb dX5_readInto_32 rfl (lv_at hl 0 rfl) ?_
    refine va_get (D := D) (ci := 5) (v := .int (nI q)) (C := RX5) (T := TX5) (N := 5) hx hb hts nX5_readInto_0 hown hK.1 hP 0 rfl rfl 3 (by decide) (hts _ mX5_readInto_2) (fun _ h9 => h9) rfl dX5_readInto_33 ?_
    have hP9 := hP
    have hD9 := hD
    exact q_wiret (v := nI q) hx hb hr hlocks dX5_readInto_36 hP9 hD9 hS (Or.inr ⟨_, _, _, _, _, _, _, _, _, _, _, _, by unfold pCity; exact q_berr hl0, hq2, rfl, rfl⟩)

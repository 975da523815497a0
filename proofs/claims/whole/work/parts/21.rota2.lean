theorem q_pw15 (n : Nat) (h : n ≤ 14) : 1 ≤ 2 ^ n ∧ 2 ^ n ≤ 16384 := by
  have : ∀ n, n < 15 → 1 ≤ 2 ^ n ∧ 2 ^ n ≤ 16384 := by decide
  exact this n (by omega)
theorem ctOff_Lv (w o : Nat → Nat) (c : Nat) : ctLv (ctOff w o) c = ctLv w c := by
  unfold ctLv ctOth
  rw [ctOff_K, ctOff_T]
  rfl
theorem awN_o {w o1 o2 : Nat → Nat} {c : Nat} (h : o1 c = o2 c) : ∀ n, awN (ctOff w o1) c n = awN (ctOff w o2) c n
  | 0 => rfl
  | n + 1 => by
    have e : ctWk (ctOff w o1) c (ctOff w o1 2 + n) = ctWk (ctOff w o2) c (ctOff w o2 2 + n) := by
      unfold ctWk
      rw [ctOff_K, ctOff_K, ctOff_E, ctOff_E, ctOff_O, ctOff_O, h]
      rfl
    rw [awN, awN, e, awN_o h n]
/-- the days (bits) of the first n on which clue c, off at v, does not rule suspect s out -/
def spN (w : Nat → Nat) (n c v s : Nat) : Nat := if (ctLv w c).testBit s then 1 * 2 ^ n - 1 else awN (ctOff w (fun _ => v)) c n
theorem spN_t {w : Nat → Nat} {n c v s : Nat} (h : (ctLv w c).testBit s = true) : nI (1 * 2 ^ n - 1) = nI (spN w n c v s) := by unfold spN; rw [if_pos h]
theorem spN_f {w o : Nat → Nat} {n c v s : Nat} (h : ¬ (ctLv w c).testBit s = true) : nI (awN (ctOff w (fun z => if z = c then v else o z)) c n) = nI (spN w n c v s) := by
  unfold spN
  rw [if_neg h, awN_o (o2 := fun _ => v) (by simp)]
def spI (w : Nat → Nat) (n c v s : Nat) (sp : Nat → Nat → Int32) : Prop := ∀ c' v' s', c' < w 4 → v' < ctE w c' → s' < w 0 → (c' < c ∨ (c' = c ∧ (v' < v ∨ (v' = v ∧ s' < s)))) → sp (c' * 4 + v') s' = nI (spN w n c' v' s')
theorem spI_0 {w : Nat → Nat} {n : Nat} {sp : Nat → Nat → Int32} : spI w n 0 0 0 sp := fun c' v' s' _ _ _ h => by omega
theorem spI_c {w : Nat → Nat} {n c v : Nat} {sp : Nat → Nat → Int32} (h : spI w n c v 0 sp) (hv : ctE w c ≤ v) : spI w n (c + 1) 0 0 sp := fun c' v' s' h1 h2 h3 h4 => h c' v' s' h1 h2 h3 (by
  rcases (show c' < c ∨ c' = c by omega) with q | q
  · exact Or.inl q
  · subst q; exact Or.inr ⟨rfl, Or.inl (by omega)⟩)
theorem spI_v {w : Nat → Nat} {n c v s : Nat} {sp : Nat → Nat → Int32} (h : spI w n c v s sp) (hs : w 0 ≤ s) : spI w n c (v + 1) 0 sp := fun c' v' s' h1 h2 h3 h4 => h c' v' s' h1 h2 h3 (by omega)
theorem spI_e {w : Nat → Nat} {n c : Nat} {sp : Nat → Nat → Int32} (h : spI w n c 0 0 sp) (hs : w 4 ≤ c) : spI w n (w 4) 0 0 sp := fun c' v' s' h1 h2 h3 h4 => h c' v' s' h1 h2 h3 (by omega)
theorem spI_s {w : Nat → Nat} {n c v s : Nat} {sp : Nat → Nat → Int32} (hc : c < w 4) (hv : v < ctE w c) (hs : s < w 0) (h : spI w n c v s sp) (x : Int32) (hx : x = nI (spN w n c v s)) (hvc : ∀ c, c < w 4 → 1 ≤ ctK w c ∧ ctK w c ≤ 5 ∧ 1 ≤ ctT w c ∧ ctT w c < 64 ∧ 2 ≤ ctE w c ∧ ctE w c ≤ 4 ∧ ctO w c < ctE w c) : spI w n c v (s + 1) (fun z9 => if z9 = c * 4 + v then upd (sp (c * 4 + v)) s x else sp z9) := fun c' v' s' h1 h2 h3 h4 => by
  have e1 := (hvc c hc).2.2.2.2.2.1
  have e2 := (hvc c' h1).2.2.2.2.2.1
  by_cases q : c' * 4 + v' = c * 4 + v
  · have q1 : c' = c := by omega
    have q2 : v' = v := by omega
    subst q1
    subst q2
    simp only [if_true]
    by_cases q3 : s' = s
    · subst q3; rw [pk_us, hx]
    · rw [pk_un q3]; exact h c' v' s' h1 h2 h3 (by omega)
  · simp only [q, if_false]
    refine h c' v' s' h1 h2 h3 ?_
    rcases h4 with h4 | ⟨h4, h5⟩
    · exact Or.inl h4
    · refine Or.inr ⟨h4, ?_⟩
      rcases h5 with h5 | ⟨h5, h6⟩
      · exact Or.inl h5
      · exact absurd (by rw [h4, h5]) q
theorem ot_x {o e : Nat → Nat} {M m x : Nat} (h : ∀ c, c < M → o c < e c) (hx : m < M → x < e m) : ∀ c, c < M → (fun z => if z = m then x else o z) c < e c := fun c hc => by
  by_cases e1 : c = m
  · subst e1; simp; exact hx hc
  · simp [e1]; exact h c hc
theorem nX3_mostSure_0 : ∀ w ∈ wsX30, w ∈ wsX3_mostSure := by decide +kernel
theorem mX3_mostSure_1 : Cond.fieldLink RX3 23 "ClueLeave$RotaSearch" "most" "I" ∈ wsX3_mostSure := by decide +kernel
set_option maxHeartbeats 4000000 in
set_option maxRecDepth 100000 in
theorem c_X3_mostSure (l : Launch) (D : va_G) (cy : Nat → ClassId) (s0 ss sl sb : Nat) (gsI glI : Nat → Option Nat) (gS gL : Nat → Nat) (hgS : ∀ i, i < 24 → gsI i = some (gS i)) (hgL : ∀ i, i < 7 → glI i = some (gL i)) (mo : Int32) (fb : Nat → Int32) (sp lf : Nat → Nat → Int32) : q_Rd l yX3_mostSure wsX3_mostSure 1 D cy ([(s0, .inr (3, [.ref ss, .ref sl, .ref sb, .int (mo)])), (ss, .inl (cy 3, 24, .inr (.inr (.inr (.inr gsI))))), (sl, .inl (cy 3, 7, .inr (.inr (.inr (.inr glI))))), (sb, .inl (cy 0, 6, .inl fb))] ++ (famI cy 24 6 gS sp ++ (famI cy 7 6 gL lf ++ []))) [.ref s0] (fun r => r = mo) := by
  refine q_rd_of (cc := cX3_mostSure) (maxL := 1) (ret := (some .int)) (by decide) rfl (Nat.le_of_ble_eq_true rfl) ?_
  intro pg en s mi args below meth cd hC hP hK ls hl
  obtain ⟨hx, hb, hr, hml, hown, hts, hlocks⟩ := hC
  have hl : lv_has ls 1 [(0, .ref s0)] := hl
  refine lv_aload_n hx hb dX3_mostSure_0 rfl (lv_at hl 0 rfl) ?_
  refine va_get (D := D) (ci := 3) (v := .int (mo)) (C := RX3) (T := TX3) (N := 4) hx hb hts nX3_mostSure_0 hown hK.1 hP 0 rfl rfl 3 (by decide) (hts _ mX3_mostSure_1) (fun _ h9 => h9) rfl dX3_mostSure_1 ?_
  exact q_iret (v := mo) hx hb hr hlocks dX3_mostSure_4 (rfl)
theorem nX3_bestOff_0 : ∀ w ∈ wsX30, w ∈ wsX3_bestOff := by decide +kernel
theorem mX3_bestOff_1 : Cond.fieldLink RX3 19 "ClueLeave$RotaSearch" "best" "[I" ∈ wsX3_bestOff := by decide +kernel
set_option maxHeartbeats 4000000 in
set_option maxRecDepth 100000 in
theorem c_X3_bestOff (l : Launch) (D : va_G) (cy : Nat → ClassId) (s0 ss sl sb : Nat) (gsI glI : Nat → Option Nat) (gS gL : Nat → Nat) (hgS : ∀ i, i < 24 → gsI i = some (gS i)) (hgL : ∀ i, i < 7 → glI i = some (gL i)) (mo : Int32) (fb : Nat → Int32) (sp lf : Nat → Nat → Int32) (k : Nat) (hk : k < 6) : q_Rd l yX3_bestOff wsX3_bestOff 1 D cy ([(s0, .inr (3, [.ref ss, .ref sl, .ref sb, .int (mo)])), (ss, .inl (cy 3, 24, .inr (.inr (.inr (.inr gsI))))), (sl, .inl (cy 3, 7, .inr (.inr (.inr (.inr glI))))), (sb, .inl (cy 0, 6, .inl fb))] ++ (famI cy 24 6 gS sp ++ (famI cy 7 6 gL lf ++ []))) [.ref s0, .int (nI k)] (fun r => r = fb k) := by
  refine q_rd_of (cc := cX3_bestOff) (maxL := 2) (ret := (some .int)) (by decide) rfl (Nat.le_of_ble_eq_true rfl) ?_
  intro pg en s mi args below meth cd hC hP hK ls hl
  obtain ⟨hx, hb, hr, hml, hown, hts, hlocks⟩ := hC
  have hl : lv_has ls 2 [(0, .ref s0), (1, .int (nI k))] := hl
  refine lv_aload_n hx hb dX3_bestOff_0 rfl (lv_at hl 0 rfl) ?_
  refine va_get (D := D) (ci := 3) (v := .ref sb) (C := RX3) (T := TX3) (N := 4) hx hb hts nX3_bestOff_0 hown hK.1 hP 0 rfl rfl 2 (by decide) (hts _ mX3_bestOff_1) (fun _ h9 => h9) rfl dX3_bestOff_1 ?_
  refine lv_iload_n hx hb dX3_bestOff_4 rfl (lv_at hl 1 rfl) ?_
  refine q_iald (j := k) (v := fb k) hx hb hK hP 3 rfl (by omega) (by decide) (rfl) dX3_bestOff_5 ?_
  exact q_iret (v := fb k) hx hb hr hlocks dX3_bestOff_6 (rfl)
theorem nX3_fillSpares_0 : ∀ w ∈ wsX20, w ∈ wsX3_fillSpares := by decide +kernel
theorem mX3_fillSpares_1 : Cond.fieldLink RX3 58 "ClueLeave$City" "clues" "I" ∈ wsX3_fillSpares := by decide +kernel
theorem mX3_fillSpares_2 : Cond.fieldLink RX3 61 "ClueLeave$City" "every" "[I" ∈ wsX3_fillSpares := by decide +kernel
theorem mX3_fillSpares_3 : Cond.fieldLink RX3 31 "ClueLeave$City" "off" "[I" ∈ wsX3_fillSpares := by decide +kernel
theorem mX3_fillSpares_4 : Cond.fieldLink RX3 68 "ClueLeave$City" "suspects" "I" ∈ wsX3_fillSpares := by decide +kernel
theorem nX3_fillSpares_5 : ∀ w ∈ wsX30, w ∈ wsX3_fillSpares := by decide +kernel
theorem mX3_fillSpares_6 : Cond.fieldLink RX3 11 "ClueLeave$RotaSearch" "spares" "[[I" ∈ wsX3_fillSpares := by decide +kernel
theorem mX3_fillSpares_7 : Cond.initialized RX6 ∈ wsX3_fillSpares := by decide +kernel
theorem mX3_fillSpares_8 : Cond.static yX6_isIn ∈ wsX3_fillSpares := by decide +kernel
set_option maxHeartbeats 4000000 in
set_option maxRecDepth 100000 in
theorem c_X3_fillSpares (l : Launch) (D : va_G) (cy : Nat → ClassId) (s0 ss sl sb : Nat) (gsI glI : Nat → Option Nat) (gS gL : Nat → Nat) (hgS : ∀ i, i < 24 → gsI i = some (gS i)) (hgL : ∀ i, i < 7 → glI i = some (gL i)) (mo : Int32) (fb : Nat → Int32) (sp lf : Nat → Nat → Int32) (j0 jk jt je jo : Nat) (w : Nat → Nat) (gk gt ge : Nat → Int32) (hw3 : ctI3 w gk gt ge) (hv : ctOk w) (o : Nat → Nat) (fo : Nat → Int32) (hfo : ∀ c, c < w 4 → fo c = nI (o c)) (ho : ∀ c, c < w 4 → o c < ctE w c) (n : Nat) (hn1 : 1 ≤ n) (hn : n ≤ 14) : q_Wv l yX3_fillSpares wsX3_fillSpares 5 D cy ([(s0, .inr (3, [.ref ss, .ref sl, .ref sb, .int (mo)])), (ss, .inl (cy 3, 24, .inr (.inr (.inr (.inr gsI))))), (sl, .inl (cy 3, 7, .inr (.inr (.inr (.inr glI))))), (sb, .inl (cy 0, 6, .inl fb)), (j0, .inr (2, [.int (nI (w 0)), .int (nI (w 1)), .int (nI (w 2)), .int (nI (w 4)), .int (nI (w 3)), .ref jk, .ref jt, .ref je, .ref jo])), (jk, .inl (cy 0, 6, .inl gk)), (jt, .inl (cy 0, 6, .inl gt)), (je, .inl (cy 0, 6, .inl ge)), (jo, .inl (cy 0, 6, .inl fo))] ++ (famI cy 24 6 gS sp ++ (famI cy 7 6 gL lf ++ []))) [.ref s0, .ref j0, .int (nI n)] (fun u => ∃ (o2 : Nat → Nat) (fo2 : Nat → Int32) (sp2 : Nat → Nat → Int32), (∀ c, c < w 4 → fo2 c = nI (o2 c)) ∧ (∀ c, c < w 4 → o2 c < ctE w c) ∧ spI w n (w 4) 0 0 sp2 ∧ u = ([(s0, .inr (3, [.ref ss, .ref sl, .ref sb, .int (mo)])), (ss, .inl (cy 3, 24, .inr (.inr (.inr (.inr gsI))))), (sl, .inl (cy 3, 7, .inr (.inr (.inr (.inr glI))))), (sb, .inl (cy 0, 6, .inl fb)), (j0, .inr (2, [.int (nI (w 0)), .int (nI (w 1)), .int (nI (w 2)), .int (nI (w 4)), .int (nI (w 3)), .ref jk, .ref jt, .ref je, .ref jo])), (jk, .inl (cy 0, 6, .inl gk)), (jt, .inl (cy 0, 6, .inl gt)), (je, .inl (cy 0, 6, .inl ge)), (jo, .inl (cy 0, 6, .inl fo2))] ++ (famI cy 24 6 gS sp2 ++ (famI cy 7 6 gL lf ++ [])))) := by
  refine q_wv_of (cc := cX3_fillSpares) (maxL := 8) (ret := none) (by decide) rfl (Nat.le_of_ble_eq_true rfl) ?_
  intro pg en s mi args below meth cd A hC hA hK H locs hP hD hS ls hl
  obtain ⟨hx, hb, hr, hml, hown, hts, hlocks⟩ := hC
  have hl : lv_has ls 8 [(0, .ref s0), (1, .ref j0), (2, .int (nI n))] := hl
  obtain ⟨hv0, hv1, hv2, hv3, hv4, hvc⟩ := id hv
  have hpw := q_pw15 n hn
  refine lv_iconst (v := nI 0) hx hb dX3_fillSpares_0 (by decide) ?_
  refine lv_istore_n (lv' := [(3, .int (nI 0)), (0, .ref s0), (1, .ref j0), (2, .int (nI n))]) hx hb dX3_fillSpares_1 rfl hl (by decide) rfl (fun ls hl => ?_)
  have L2_6 : ∀ (fu c : Nat), c ≤ w 4 → w 4 < c + fu → ∀ (o1 : Nat → Nat), ∀ (fo1 : Nat → Int32), ∀ (sp1 : Nat → Nat → Int32), (∀ c, c < w 4 → fo1 c = nI (o1 c)) → (∀ c, c < w 4 → o1 c < ctE w c) → spI w n c 0 0 sp1 → ∀ (H : Heap) (locs : List Loc), va_P D vwCl ([(s0, .inr (3, [.ref ss, .ref sl, .ref sb, .int (mo)])), (ss, .inl (cy 3, 24, .inr (.inr (.inr (.inr gsI))))), (sl, .inl (cy 3, 7, .inr (.inr (.inr (.inr glI))))), (sb, .inl (cy 0, 6, .inl fb)), (j0, .inr (2, [.int (nI (w 0)), .int (nI (w 1)), .int (nI (w 2)), .int (nI (w 4)), .int (nI (w 3)), .ref jk, .ref jt, .ref je, .ref jo])), (jk, .inl (cy 0, 6, .inl gk)), (jt, .inl (cy 0, 6, .inl gt)), (je, .inl (cy 0, 6, .inl ge)), (jo, .inl (cy 0, 6, .inl fo1))] ++ (famI cy 24 6 gS sp1 ++ (famI cy 7 6 gL lf ++ []))) H → va_D A ([(s0, .inr (3, [.ref ss, .ref sl, .ref sb, .int (mo)])), (ss, .inl (cy 3, 24, .inr (.inr (.inr (.inr gsI))))), (sl, .inl (cy 3, 7, .inr (.inr (.inr (.inr glI))))), (sb, .inl (cy 0, 6, .inl fb)), (j0, .inr (2, [.int (nI (w 0)), .int (nI (w 1)), .int (nI (w 2)), .int (nI (w 4)), .int (nI (w 3)), .ref jk, .ref jt, .ref je, .ref jo])), (jk, .inl (cy 0, 6, .inl gk)), (jt, .inl (cy 0, 6, .inl gt)), (je, .inl (cy 0, 6, .inl ge)), (jo, .inl (cy 0, 6, .inl fo1))] ++ (famI cy 24 6 gS sp1 ++ (famI cy 7 6 gL lf ++ []))) → va_S A s.heap H locs → ∀ ls : Array Slot, lv_has ls 8 [(0, .ref s0), (1, .ref j0), (2, .int (nI n)), (3, .int (nI c))] → W pg l en (q_rm 5) s mi args below meth cd H locs 0 0 (MQ below (va_Qv (fun u => ∃ (o2 : Nat → Nat) (fo2 : Nat → Int32) (sp2 : Nat → Nat → Int32), (∀ c, c < w 4 → fo2 c = nI (o2 c)) ∧ (∀ c, c < w 4 → o2 c < ctE w c) ∧ spI w n (w 4) 0 0 sp2 ∧ u = ([(s0, .inr (3, [.ref ss, .ref sl, .ref sb, .int (mo)])), (ss, .inl (cy 3, 24, .inr (.inr (.inr (.inr gsI))))), (sl, .inl (cy 3, 7, .inr (.inr (.inr (.inr glI))))), (sb, .inl (cy 0, 6, .inl fb)), (j0, .inr (2, [.int (nI (w 0)), .int (nI (w 1)), .int (nI (w 2)), .int (nI (w 4)), .int (nI (w 3)), .ref jk, .ref jt, .ref je, .ref jo])), (jk, .inl (cy 0, 6, .inl gk)), (jt, .inl (cy 0, 6, .inl gt)), (je, .inl (cy 0, 6, .inl ge)), (jo, .inl (cy 0, 6, .inl fo2))] ++ (famI cy 24 6 gS sp2 ++ (famI cy 7 6 gL lf ++ [])))) (fun (u : va_W) t => va_P D vwCl u t.heap ∧ va_D A u) A) args s 0 0 A) (F0 mi 2 ls []) := by
    intro fu
    induction fu with
    | zero =>
      intro c h1 h2
      exact absurd h2 (by omega)
    | succ fu ih2 =>
      intro c h1_2 h2_2 o1 fo1 sp1 hf2_0 hf2_1 hf2_2 H locs hP hD hS ls hl
      refine lv_iload_n hx hb dX3_fillSpares_2 rfl (lv_at hl 3 rfl) ?_
      refine lv_aload_n hx hb dX3_fillSpares_3 rfl (lv_at hl 1 rfl) ?_
      refine va_get (D := D) (ci := 2) (v := .int (nI (w 4))) (C := RX2) (T := TX2) (N := 9) hx hb hts nX3_fillSpares_0 hown hK.1 hP 4 rfl rfl 3 (by decide) (hts _ mX3_fillSpares_1) (fun _ h9 => h9) rfl dX3_fillSpares_4 ?_
      refine q_icmp_ge (tgt := 111) hx hb dX3_fillSpares_7 (by decide) (by omega) (by omega) (fun c1 => ?_) (fun c1 => ?_)
      · have hP9 := hP
        have hD9 := hD
        exact q_wvret hx hb hr hlocks dX3_fillSpares_111 hP9 hD9 hS (⟨_, _, _, hf2_0, hf2_1, spI_e hf2_2 (by omega), rfl⟩)
      · obtain ⟨hk1, hk5, ht1, ht2, he2, he4, ho1⟩ := hvc c (by omega)
        refine lv_iconst (v := nI 0) hx hb dX3_fillSpares_10 (by decide) ?_
        refine lv_istore (lv' := [(4, .int (nI 0)), (0, .ref s0), (1, .ref j0), (2, .int (nI n)), (3, .int (nI c))]) hx hb dX3_fillSpares_11 hl (by decide) rfl (fun ls hl => ?_)
        have L13_24 : ∀ (fu v : Nat), v ≤ (ctE w c) → (ctE w c) < v + fu → ∀ (o1 : Nat → Nat), ∀ (fo1 : Nat → Int32), ∀ (sp1 : Nat → Nat → Int32), (∀ c, c < w 4 → fo1 c = nI (o1 c)) → (∀ c, c < w 4 → o1 c < ctE w c) → spI w n c v 0 sp1 → ∀ (H : Heap) (locs : List Loc), va_P D vwCl ([(s0, .inr (3, [.ref ss, .ref sl, .ref sb, .int (mo)])), (ss, .inl (cy 3, 24, .inr (.inr (.inr (.inr gsI))))), (sl, .inl (cy 3, 7, .inr (.inr (.inr (.inr glI))))), (sb, .inl (cy 0, 6, .inl fb)), (j0, .inr (2, [.int (nI (w 0)), .int (nI (w 1)), .int (nI (w 2)), .int (nI (w 4)), .int (nI (w 3)), .ref jk, .ref jt, .ref je, .ref jo])), (jk, .inl (cy 0, 6, .inl gk)), (jt, .inl (cy 0, 6, .inl gt)), (je, .inl (cy 0, 6, .inl ge)), (jo, .inl (cy 0, 6, .inl fo1))] ++ (famI cy 24 6 gS sp1 ++ (famI cy 7 6 gL lf ++ []))) H → va_D A ([(s0, .inr (3, [.ref ss, .ref sl, .ref sb, .int (mo)])), (ss, .inl (cy 3, 24, .inr (.inr (.inr (.inr gsI))))), (sl, .inl (cy 3, 7, .inr (.inr (.inr (.inr glI))))), (sb, .inl (cy 0, 6, .inl fb)), (j0, .inr (2, [.int (nI (w 0)), .int (nI (w 1)), .int (nI (w 2)), .int (nI (w 4)), .int (nI (w 3)), .ref jk, .ref jt, .ref je, .ref jo])), (jk, .inl (cy 0, 6, .inl gk)), (jt, .inl (cy 0, 6, .inl gt)), (je, .inl (cy 0, 6, .inl ge)), (jo, .inl (cy 0, 6, .inl fo1))] ++ (famI cy 24 6 gS sp1 ++ (famI cy 7 6 gL lf ++ []))) → va_S A s.heap H locs → ∀ ls : Array Slot, lv_has ls 8 [(0, .ref s0), (1, .ref j0), (2, .int (nI n)), (3, .int (nI c)), (4, .int (nI v))] → W pg l en (q_rm 5) s mi args below meth cd H locs 0 0 (MQ below (va_Qv (fun u => ∃ (o2 : Nat → Nat) (fo2 : Nat → Int32) (sp2 : Nat → Nat → Int32), (∀ c, c < w 4 → fo2 c = nI (o2 c)) ∧ (∀ c, c < w 4 → o2 c < ctE w c) ∧ spI w n (w 4) 0 0 sp2 ∧ u = ([(s0, .inr (3, [.ref ss, .ref sl, .ref sb, .int (mo)])), (ss, .inl (cy 3, 24, .inr (.inr (.inr (.inr gsI))))), (sl, .inl (cy 3, 7, .inr (.inr (.inr (.inr glI))))), (sb, .inl (cy 0, 6, .inl fb)), (j0, .inr (2, [.int (nI (w 0)), .int (nI (w 1)), .int (nI (w 2)), .int (nI (w 4)), .int (nI (w 3)), .ref jk, .ref jt, .ref je, .ref jo])), (jk, .inl (cy 0, 6, .inl gk)), (jt, .inl (cy 0, 6, .inl gt)), (je, .inl (cy 0, 6, .inl ge)), (jo, .inl (cy 0, 6, .inl fo2))] ++ (famI cy 24 6 gS sp2 ++ (famI cy 7 6 gL lf ++ [])))) (fun (u : va_W) t => va_P D vwCl u t.heap ∧ va_D A u) A) args s 0 0 A) (F0 mi 13 ls []) := by
          intro fu
          induction fu with
          | zero =>
            intro v h1 h2
            exact absurd h2 (by omega)
          | succ fu ih13 =>
            intro v h1_13 h2_13 o1 fo1 sp1 hf13_0 hf13_1 hf13_2 H locs hP hD hS ls hl
            refine lv_iload hx hb dX3_fillSpares_13 (lv_at hl 4 rfl) ?_
            refine lv_aload_n hx hb dX3_fillSpares_15 rfl (lv_at hl 1 rfl) ?_
            refine va_get (D := D) (ci := 2) (v := .ref je) (C := RX2) (T := TX2) (N := 9) hx hb hts nX3_fillSpares_0 hown hK.1 hP 4 rfl rfl 7 (by decide) (hts _ mX3_fillSpares_2) (fun _ h9 => h9) rfl dX3_fillSpares_16 ?_
            refine lv_iload_n hx hb dX3_fillSpares_19 rfl (lv_at hl 3 rfl) ?_
            refine q_iald (j := c) (v := nI (ctE w c)) hx hb hK hP 7 rfl (by omega) (by decide) (ctI3_2 hw3 (by omega)) dX3_fillSpares_20 ?_
            refine q_icmp_ge (tgt := 105) hx hb dX3_fillSpares_21 (by decide) (by omega) (by omega) (fun c2 => ?_) (fun c2 => ?_)
            · refine lv_iinc (v := nI (c + 1)) (lv' := [(3, .int (nI (c + 1))), (0, .ref s0), (1, .ref j0), (2, .int (nI n)), (4, .int (nI v))]) hx hb dX3_fillSpares_105 hl (k := 3) rfl (q_inc c 1) (by decide) rfl (fun ls hl => ?_)
              refine lv_goto (tgt := 2) hx hb dX3_fillSpares_108 (by decide) ?_
              exact ih2 (c + 1) (by omega) (by omega) o1 fo1 sp1 hf13_0 hf13_1 (spI_c (v := v) hf13_2 (by omega)) H locs hP hD hS ls (lv_sub (l' := [(0, .ref s0), (1, .ref j0), (2, .int (nI n)), (3, .int (nI (c + 1)))]) hl [1, 2, 3, 0] rfl)
            · refine lv_aload_n hx hb dX3_fillSpares_24 rfl (lv_at hl 1 rfl) ?_
              refine va_get (D := D) (ci := 2) (v := .ref jo) (C := RX2) (T := TX2) (N := 9) hx hb hts nX3_fillSpares_0 hown hK.1 hP 4 rfl rfl 8 (by decide) (hts _ mX3_fillSpares_3) (fun _ h9 => h9) rfl dX3_fillSpares_25 ?_
              refine lv_iload_n hx hb dX3_fillSpares_28 rfl (lv_at hl 3 rfl) ?_
              refine lv_iload hx hb dX3_fillSpares_29 (lv_at hl 4 rfl) ?_
              refine q_iast (j := c) hx hb hK hP hD hS 8 rfl (by omega) (by decide) dX3_fillSpares_31 (fun H locs hP hD hS => ?_)
              have hP : va_P D vwCl ([(s0, .inr (3, [.ref ss, .ref sl, .ref sb, .int (mo)])), (ss, .inl (cy 3, 24, .inr (.inr (.inr (.inr gsI))))), (sl, .inl (cy 3, 7, .inr (.inr (.inr (.inr glI))))), (sb, .inl (cy 0, 6, .inl fb)), (j0, .inr (2, [.int (nI (w 0)), .int (nI (w 1)), .int (nI (w 2)), .int (nI (w 4)), .int (nI (w 3)), .ref jk, .ref jt, .ref je, .ref jo])), (jk, .inl (cy 0, 6, .inl gk)), (jt, .inl (cy 0, 6, .inl gt)), (je, .inl (cy 0, 6, .inl ge)), (jo, .inl (cy 0, 6, .inl (upd fo1 c (nI v))))] ++ (famI cy 24 6 gS sp1 ++ (famI cy 7 6 gL lf ++ []))) H := hP
              have hD : va_D A ([(s0, .inr (3, [.ref ss, .ref sl, .ref sb, .int (mo)])), (ss, .inl (cy 3, 24, .inr (.inr (.inr (.inr gsI))))), (sl, .inl (cy 3, 7, .inr (.inr (.inr (.inr glI))))), (sb, .inl (cy 0, 6, .inl fb)), (j0, .inr (2, [.int (nI (w 0)), .int (nI (w 1)), .int (nI (w 2)), .int (nI (w 4)), .int (nI (w 3)), .ref jk, .ref jt, .ref je, .ref jo])), (jk, .inl (cy 0, 6, .inl gk)), (jt, .inl (cy 0, 6, .inl gt)), (je, .inl (cy 0, 6, .inl ge)), (jo, .inl (cy 0, 6, .inl (upd fo1 c (nI v))))] ++ (famI cy 24 6 gS sp1 ++ (famI cy 7 6 gL lf ++ []))) := hD
              have e4 : ctOff w (fun z => if z = c then v else o1 z) 4 = w 4 := rfl
              have hof2 := ot_u1 (m := c) (x := v) hf13_0
              have hof3 := ot_x (m := c) (x := v) hf13_1 (fun _ => (by omega : v < ctE w c))
              refine lv_aload_n hx hb dX3_fillSpares_32 rfl (lv_at hl 1 rfl) ?_
              refine lv_iload_n hx hb dX3_fillSpares_33 rfl (lv_at hl 3 rfl) ?_
              refine lv_iload_n hx hb dX3_fillSpares_34 rfl (lv_at hl 2 rfl) ?_
              refine q_rS (As := [.ref j0, .int (nI c), .int (nI n)]) (rest := []) ⟨hx, hb, hml, hown, hts⟩ (c_X3_daysOff l D cy j0 jk jt je jo (ctOff w (fun z => if z = c then v else o1 z)) gk gt ge (upd fo1 c (nI v)) (ctIs_off hw3 hof2) (ctOk_off hv hof3) c n (by omega) (by omega)) (va_cwS 3 hts gX3_fillSpares_X3_daysOff rfl rfl rfl (by decide +kernel) ⟨Nat.le_of_ble_eq_true rfl, Nat.le_of_ble_eq_true rfl⟩) hP hK [4, 5, 6, 7, 8] rfl rfl hl.1 rfl (Nat.le_of_ble_eq_true rfl) dX3_fillSpares_35 ⟨Nat.zero_le _, Nat.zero_le _⟩ (fun r3 hr3 => ?_)
              obtain rfl := hr3
              refine lv_istore (lv' := [(5, .int (nI (awN (ctOff w (fun z => if z = c then v else o1 z)) c n))), (0, .ref s0), (1, .ref j0), (2, .int (nI n)), (3, .int (nI c)), (4, .int (nI v))]) hx hb dX3_fillSpares_38 hl (by decide) rfl (fun ls hl => ?_)
              refine lv_iconst (v := nI 1) hx hb dX3_fillSpares_40 (by decide) ?_
              refine lv_iload_n hx hb dX3_fillSpares_41 rfl (lv_at hl 3 rfl) ?_
              refine lv_ishl hx hb dX3_fillSpares_42 ?_
              refine q_top (y := nI (1 * 2 ^ n)) (q_shl (by omega) (by omega)) ?_
              refine lv_iconst (v := nI 1) hx hb dX3_fillSpares_43 (by decide) ?_
              refine lv_isub hx hb dX3_fillSpares_44 ?_
              refine q_top (y := nI ((1 * 2 ^ n) - 1)) (pk_sub (by omega)) ?_
              refine lv_istore (lv' := [(6, .int (nI ((1 * 2 ^ n) - 1))), (5, .int (nI (awN (ctOff w (fun z => if z = c then v else o1 z)) c n))), (0, .ref s0), (1, .ref j0), (2, .int (nI n)), (3, .int (nI c)), (4, .int (nI v))]) hx hb dX3_fillSpares_45 hl (by decide) rfl (fun ls hl => ?_)
              refine lv_iconst (v := nI 0) hx hb dX3_fillSpares_47 (by decide) ?_
              refine lv_istore (lv' := [(7, .int (nI 0)), (6, .int (nI ((1 * 2 ^ n) - 1))), (5, .int (nI (awN (ctOff w (fun z => if z = c then v else o1 z)) c n))), (0, .ref s0), (1, .ref j0), (2, .int (nI n)), (3, .int (nI c)), (4, .int (nI v))]) hx hb dX3_fillSpares_48 hl (by decide) rfl (fun ls hl => ?_)
              have L50_67 : ∀ (fu q : Nat), q ≤ w 0 → w 0 < q + fu → ∀ (sp1 : Nat → Nat → Int32), spI w n c v q sp1 → ∀ (H : Heap) (locs : List Loc), va_P D vwCl ([(s0, .inr (3, [.ref ss, .ref sl, .ref sb, .int (mo)])), (ss, .inl (cy 3, 24, .inr (.inr (.inr (.inr gsI))))), (sl, .inl (cy 3, 7, .inr (.inr (.inr (.inr glI))))), (sb, .inl (cy 0, 6, .inl fb)), (j0, .inr (2, [.int (nI (w 0)), .int (nI (w 1)), .int (nI (w 2)), .int (nI (w 4)), .int (nI (w 3)), .ref jk, .ref jt, .ref je, .ref jo])), (jk, .inl (cy 0, 6, .inl gk)), (jt, .inl (cy 0, 6, .inl gt)), (je, .inl (cy 0, 6, .inl ge)), (jo, .inl (cy 0, 6, .inl (upd fo1 c (nI v))))] ++ (famI cy 24 6 gS sp1 ++ (famI cy 7 6 gL lf ++ []))) H → va_D A ([(s0, .inr (3, [.ref ss, .ref sl, .ref sb, .int (mo)])), (ss, .inl (cy 3, 24, .inr (.inr (.inr (.inr gsI))))), (sl, .inl (cy 3, 7, .inr (.inr (.inr (.inr glI))))), (sb, .inl (cy 0, 6, .inl fb)), (j0, .inr (2, [.int (nI (w 0)), .int (nI (w 1)), .int (nI (w 2)), .int (nI (w 4)), .int (nI (w 3)), .ref jk, .ref jt, .ref je, .ref jo])), (jk, .inl (cy 0, 6, .inl gk)), (jt, .inl (cy 0, 6, .inl gt)), (je, .inl (cy 0, 6, .inl ge)), (jo, .inl (cy 0, 6, .inl (upd fo1 c (nI v))))] ++ (famI cy 24 6 gS sp1 ++ (famI cy 7 6 gL lf ++ []))) → va_S A s.heap H locs → ∀ ls : Array Slot, lv_has ls 8 [(0, .ref s0), (1, .ref j0), (2, .int (nI n)), (3, .int (nI c)), (4, .int (nI v)), (5, .int (nI (awN (ctOff w (fun z => if z = c then v else o1 z)) c n))), (6, .int (nI (1 * 2 ^ n - 1))), (7, .int (nI q))] → W pg l en (q_rm 5) s mi args below meth cd H locs 0 0 (MQ below (va_Qv (fun u => ∃ (o2 : Nat → Nat) (fo2 : Nat → Int32) (sp2 : Nat → Nat → Int32), (∀ c, c < w 4 → fo2 c = nI (o2 c)) ∧ (∀ c, c < w 4 → o2 c < ctE w c) ∧ spI w n (w 4) 0 0 sp2 ∧ u = ([(s0, .inr (3, [.ref ss, .ref sl, .ref sb, .int (mo)])), (ss, .inl (cy 3, 24, .inr (.inr (.inr (.inr gsI))))), (sl, .inl (cy 3, 7, .inr (.inr (.inr (.inr glI))))), (sb, .inl (cy 0, 6, .inl fb)), (j0, .inr (2, [.int (nI (w 0)), .int (nI (w 1)), .int (nI (w 2)), .int (nI (w 4)), .int (nI (w 3)), .ref jk, .ref jt, .ref je, .ref jo])), (jk, .inl (cy 0, 6, .inl gk)), (jt, .inl (cy 0, 6, .inl gt)), (je, .inl (cy 0, 6, .inl ge)), (jo, .inl (cy 0, 6, .inl fo2))] ++ (famI cy 24 6 gS sp2 ++ (famI cy 7 6 gL lf ++ [])))) (fun (u : va_W) t => va_P D vwCl u t.heap ∧ va_D A u) A) args s 0 0 A) (F0 mi 50 ls []) := by
                intro fu
                induction fu with
                | zero =>
                  intro q h1 h2
                  exact absurd h2 (by omega)
                | succ fu ih50 =>
                  intro q h1_50 h2_50 sp1 hf50_0 H locs hP hD hS ls hl
                  refine lv_iload hx hb dX3_fillSpares_50 (lv_at hl 7 rfl) ?_
                  refine lv_aload_n hx hb dX3_fillSpares_52 rfl (lv_at hl 1 rfl) ?_
                  refine va_get (D := D) (ci := 2) (v := .int (nI (w 0))) (C := RX2) (T := TX2) (N := 9) hx hb hts nX3_fillSpares_0 hown hK.1 hP 4 rfl rfl 0 (by decide) (hts _ mX3_fillSpares_4) (fun _ h9 => h9) rfl dX3_fillSpares_53 ?_
                  refine q_icmp_ge (tgt := 99) hx hb dX3_fillSpares_56 (by decide) (by omega) (by omega) (fun c4 => ?_) (fun c4 => ?_)
                  · refine lv_iinc (v := nI (v + 1)) (lv' := [(4, .int (nI (v + 1))), (0, .ref s0), (1, .ref j0), (2, .int (nI n)), (3, .int (nI c)), (5, .int (nI (awN (ctOff w (fun z => if z = c then v else o1 z)) c n))), (6, .int (nI (1 * 2 ^ n - 1))), (7, .int (nI q))]) hx hb dX3_fillSpares_99 hl (k := 4) rfl (q_inc v 1) (by decide) rfl (fun ls hl => ?_)
                    refine lv_goto (tgt := 13) hx hb dX3_fillSpares_102 (by decide) ?_
                    exact ih13 (v + 1) (by omega) (by omega) (fun z => if z = c then v else o1 z) (upd fo1 c (nI v)) sp1 hof2 hof3 (spI_v (s := q) hf50_0 (by omega)) H locs hP hD hS ls (lv_sub (l' := [(0, .ref s0), (1, .ref j0), (2, .int (nI n)), (3, .int (nI c)), (4, .int (nI (v + 1)))]) hl [1, 2, 3, 4, 0] rfl)
                  · refine lv_aload_n hx hb dX3_fillSpares_59 rfl (lv_at hl 0 rfl) ?_
                    refine va_get (D := D) (ci := 3) (v := .ref ss) (C := RX3) (T := TX3) (N := 4) hx hb hts nX3_fillSpares_5 hown hK.1 hP 0 rfl rfl 0 (by decide) (hts _ mX3_fillSpares_6) (fun _ h9 => h9) rfl dX3_fillSpares_60 ?_
                    refine lv_iload_n hx hb dX3_fillSpares_63 rfl (lv_at hl 3 rfl) ?_
                    refine lv_iconst (v := nI 4) hx hb dX3_fillSpares_64 (by decide) ?_
                    refine lv_imul hx hb dX3_fillSpares_65 ?_
                    refine q_top (y := nI (c * 4)) (pk_mul _ _) ?_
                    refine lv_iload hx hb dX3_fillSpares_66 (lv_at hl 4 rfl) ?_
                    refine lv_iadd hx hb dX3_fillSpares_68 ?_
                    refine q_top (y := nI ((c * 4) + v)) (nI_add _ _) ?_
                    refine q_aald3 (j := ((c * 4) + v)) (v := (gS ((c * 4) + v))) hx hb hK hP 1 rfl (by omega) (by decide) (hgS _ (by omega)) dX3_fillSpares_69 ?_
                    refine lv_iload hx hb dX3_fillSpares_70 (lv_at hl 7 rfl) ?_
                    refine lv_aload_n hx hb dX3_fillSpares_72 rfl (lv_at hl 1 rfl) ?_
                    refine lv_iload_n hx hb dX3_fillSpares_73 rfl (lv_at hl 3 rfl) ?_
                    refine q_rV (As := [.int (nI c)]) (rest := [.int (nI q), .ref (gS ((c * 4) + v))]) ⟨hx, hb, hml, hown, hts⟩ (c_X2_leftByOne l D cy j0 jk jt je jo (ctOff w (fun z => if z = c then v else o1 z)) gk gt ge (upd fo1 c (nI v)) (ctIs_off hw3 hof2) (ctOk_off hv hof3) c (by omega)) (cwV 1 hts gX3_fillSpares_X2_leftByOne rfl rfl rfl (by decide +kernel) ⟨Nat.le_of_ble_eq_true rfl, Nat.le_of_ble_eq_true rfl⟩) hP hK [4, 5, 6, 7, 8] rfl 4 rfl rfl rfl rfl hl.1 rfl (Nat.le_of_ble_eq_true rfl) dX3_fillSpares_74 ⟨Nat.zero_le _, Nat.zero_le _⟩ (fun r5 hr5 => ?_)
                    obtain rfl := hr5
                    refine q_top (y := nI (ctLv w c)) (by rw [ctOff_Lv]) ?_
                    refine lv_iload hx hb dX3_fillSpares_77 (lv_at hl 7 rfl) ?_
                    have hlvl := ctLv_lt hv0 ht2
                    refine q_rN (As := [.int (nI (ctLv w c)), .int (nI q)]) (rest := [.int (nI q), .ref (gS ((c * 4) + v))]) ⟨hx, hb, hml, hown, hts⟩ (c_X6_isIn l D cy (ctLv w c) q (by omega) (by omega)) ⟨va_cnB (host := "ClueLeave") 2 hts gX3_fillSpares_X6_isIn_n75 rfl rfl rfl (hK.2 _ (by decide +kernel)) (hts _ mX3_fillSpares_7) (by decide +kernel) ⟨Nat.le_of_ble_eq_true rfl, Nat.le_of_ble_eq_true rfl⟩, hts _ mX3_fillSpares_8, trivial⟩ hP hK [] rfl rfl hl.1 rfl (Nat.le_of_ble_eq_true rfl) dX3_fillSpares_79 ⟨Nat.zero_le _, Nat.zero_le _⟩ (fun r6 hr6 => ?_)
                    rcases hr6 with ⟨rfl, b7⟩ | ⟨rfl, b7⟩
                    · refine lv_if_eq (tgt := 90) hx hb dX3_fillSpares_82 (by decide) (fun c9 => absurd c9 (by decide)) (fun _ => ?_)
                      refine lv_iload hx hb dX3_fillSpares_85 (lv_at hl 6 rfl) ?_
                      refine lv_goto (tgt := 92) hx hb dX3_fillSpares_87 (by decide) ?_
                      refine q_iast (j := q) hx hb hK hP hD hS (9 + ((c * 4) + v)) (famI_get (m := 9) rfl (by omega)) (by omega) (by decide) dX3_fillSpares_92 (fun H locs hP hD hS => ?_)
                      rw [famI_set (m := 9) rfl (by omega)] at hP hD
                      have hP : va_P D vwCl ([(s0, .inr (3, [.ref ss, .ref sl, .ref sb, .int (mo)])), (ss, .inl (cy 3, 24, .inr (.inr (.inr (.inr gsI))))), (sl, .inl (cy 3, 7, .inr (.inr (.inr (.inr glI))))), (sb, .inl (cy 0, 6, .inl fb)), (j0, .inr (2, [.int (nI (w 0)), .int (nI (w 1)), .int (nI (w 2)), .int (nI (w 4)), .int (nI (w 3)), .ref jk, .ref jt, .ref je, .ref jo])), (jk, .inl (cy 0, 6, .inl gk)), (jt, .inl (cy 0, 6, .inl gt)), (je, .inl (cy 0, 6, .inl ge)), (jo, .inl (cy 0, 6, .inl (upd fo1 c (nI v))))] ++ (famI cy 24 6 gS (fun z9 => if z9 = ((c * 4) + v) then upd (sp1 ((c * 4) + v)) q (nI (1 * 2 ^ n - 1)) else sp1 z9) ++ (famI cy 7 6 gL lf ++ []))) H := hP
                      have hD : va_D A ([(s0, .inr (3, [.ref ss, .ref sl, .ref sb, .int (mo)])), (ss, .inl (cy 3, 24, .inr (.inr (.inr (.inr gsI))))), (sl, .inl (cy 3, 7, .inr (.inr (.inr (.inr glI))))), (sb, .inl (cy 0, 6, .inl fb)), (j0, .inr (2, [.int (nI (w 0)), .int (nI (w 1)), .int (nI (w 2)), .int (nI (w 4)), .int (nI (w 3)), .ref jk, .ref jt, .ref je, .ref jo])), (jk, .inl (cy 0, 6, .inl gk)), (jt, .inl (cy 0, 6, .inl gt)), (je, .inl (cy 0, 6, .inl ge)), (jo, .inl (cy 0, 6, .inl (upd fo1 c (nI v))))] ++ (famI cy 24 6 gS (fun z9 => if z9 = ((c * 4) + v) then upd (sp1 ((c * 4) + v)) q (nI (1 * 2 ^ n - 1)) else sp1 z9) ++ (famI cy 7 6 gL lf ++ []))) := hD
                      refine lv_iinc (v := nI (q + 1)) (lv' := [(7, .int (nI (q + 1))), (0, .ref s0), (1, .ref j0), (2, .int (nI n)), (3, .int (nI c)), (4, .int (nI v)), (5, .int (nI (awN (ctOff w (fun z => if z = c then v else o1 z)) c n))), (6, .int (nI (1 * 2 ^ n - 1)))]) hx hb dX3_fillSpares_93 hl (k := 7) rfl (q_inc q 1) (by decide) rfl (fun ls hl => ?_)
                      refine lv_goto (tgt := 50) hx hb dX3_fillSpares_96 (by decide) ?_
                      exact ih50 (q + 1) (by omega) (by omega) (fun z9 => if z9 = ((c * 4) + v) then upd (sp1 ((c * 4) + v)) q (nI (1 * 2 ^ n - 1)) else sp1 z9) (spI_s (by omega) (by omega) (by omega) hf50_0 (nI (1 * 2 ^ n - 1)) (spN_t b7) hvc) H locs hP hD hS ls (lv_sub (l' := [(0, .ref s0), (1, .ref j0), (2, .int (nI n)), (3, .int (nI c)), (4, .int (nI v)), (5, .int (nI (awN (ctOff w (fun z => if z = c then v else o1 z)) c n))), (6, .int (nI (1 * 2 ^ n - 1))), (7, .int (nI (q + 1)))]) hl [1, 2, 3, 4, 5, 6, 7, 0] rfl)
                    · refine lv_if_eq (tgt := 90) hx hb dX3_fillSpares_82 (by decide) (fun _ => ?_) (fun c9 => absurd (by decide) c9)
                      refine lv_iload hx hb dX3_fillSpares_90 (lv_at hl 5 rfl) ?_
                      refine q_iast (j := q) hx hb hK hP hD hS (9 + ((c * 4) + v)) (famI_get (m := 9) rfl (by omega)) (by omega) (by decide) dX3_fillSpares_92 (fun H locs hP hD hS => ?_)
                      rw [famI_set (m := 9) rfl (by omega)] at hP hD
                      have hP : va_P D vwCl ([(s0, .inr (3, [.ref ss, .ref sl, .ref sb, .int (mo)])), (ss, .inl (cy 3, 24, .inr (.inr (.inr (.inr gsI))))), (sl, .inl (cy 3, 7, .inr (.inr (.inr (.inr glI))))), (sb, .inl (cy 0, 6, .inl fb)), (j0, .inr (2, [.int (nI (w 0)), .int (nI (w 1)), .int (nI (w 2)), .int (nI (w 4)), .int (nI (w 3)), .ref jk, .ref jt, .ref je, .ref jo])), (jk, .inl (cy 0, 6, .inl gk)), (jt, .inl (cy 0, 6, .inl gt)), (je, .inl (cy 0, 6, .inl ge)), (jo, .inl (cy 0, 6, .inl (upd fo1 c (nI v))))] ++ (famI cy 24 6 gS (fun z9 => if z9 = ((c * 4) + v) then upd (sp1 ((c * 4) + v)) q (nI (awN (ctOff w (fun z => if z = c then v else o1 z)) c n)) else sp1 z9) ++ (famI cy 7 6 gL lf ++ []))) H := hP
                      have hD : va_D A ([(s0, .inr (3, [.ref ss, .ref sl, .ref sb, .int (mo)])), (ss, .inl (cy 3, 24, .inr (.inr (.inr (.inr gsI))))), (sl, .inl (cy 3, 7, .inr (.inr (.inr (.inr glI))))), (sb, .inl (cy 0, 6, .inl fb)), (j0, .inr (2, [.int (nI (w 0)), .int (nI (w 1)), .int (nI (w 2)), .int (nI (w 4)), .int (nI (w 3)), .ref jk, .ref jt, .ref je, .ref jo])), (jk, .inl (cy 0, 6, .inl gk)), (jt, .inl (cy 0, 6, .inl gt)), (je, .inl (cy 0, 6, .inl ge)), (jo, .inl (cy 0, 6, .inl (upd fo1 c (nI v))))] ++ (famI cy 24 6 gS (fun z9 => if z9 = ((c * 4) + v) then upd (sp1 ((c * 4) + v)) q (nI (awN (ctOff w (fun z => if z = c then v else o1 z)) c n)) else sp1 z9) ++ (famI cy 7 6 gL lf ++ []))) := hD
                      refine lv_iinc (v := nI (q + 1)) (lv' := [(7, .int (nI (q + 1))), (0, .ref s0), (1, .ref j0), (2, .int (nI n)), (3, .int (nI c)), (4, .int (nI v)), (5, .int (nI (awN (ctOff w (fun z => if z = c then v else o1 z)) c n))), (6, .int (nI (1 * 2 ^ n - 1)))]) hx hb dX3_fillSpares_93 hl (k := 7) rfl (q_inc q 1) (by decide) rfl (fun ls hl => ?_)
                      refine lv_goto (tgt := 50) hx hb dX3_fillSpares_96 (by decide) ?_
                      exact ih50 (q + 1) (by omega) (by omega) (fun z9 => if z9 = ((c * 4) + v) then upd (sp1 ((c * 4) + v)) q (nI (awN (ctOff w (fun z => if z = c then v else o1 z)) c n)) else sp1 z9) (spI_s (by omega) (by omega) (by omega) hf50_0 (nI (awN (ctOff w (fun z => if z = c then v else o1 z)) c n)) (spN_f b7) hvc) H locs hP hD hS ls (lv_sub (l' := [(0, .ref s0), (1, .ref j0), (2, .int (nI n)), (3, .int (nI c)), (4, .int (nI v)), (5, .int (nI (awN (ctOff w (fun z => if z = c then v else o1 z)) c n))), (6, .int (nI (1 * 2 ^ n - 1))), (7, .int (nI (q + 1)))]) hl [1, 2, 3, 4, 5, 6, 7, 0] rfl)
              exact L50_67 ((w 0) + 1) 0 (by omega) (by omega) sp1 hf13_2 H locs hP hD hS ls (q_lset (lv_sub (l' := [(0, .ref s0), (1, .ref j0), (2, .int (nI n)), (3, .int (nI c)), (4, .int (nI v)), (5, .int (nI (awN (ctOff w (fun z => if z = c then v else o1 z)) c n))), (6, .int (nI ((1 * 2 ^ n) - 1))), (7, .int (nI 0))]) hl [3, 4, 5, 6, 7, 2, 1, 0] rfl) (q_c1 (f := fun z6 => ([(0, .ref s0), (1, .ref j0), (2, .int (nI n)), (3, .int (nI c)), (4, .int (nI v)), (5, .int (nI (awN (ctOff w (fun z => if z = c then v else o1 z)) c n))), (6, .int (z6)), (7, .int (nI 0))] : List (Nat × Value))) (show (nI ((1 * 2 ^ n) - 1) : Int32) = nI (1 * 2 ^ n - 1) from rfl)))
        exact L13_24 ((ctE w c) + 1) 0 (by omega) (by omega) o1 fo1 sp1 hf2_0 hf2_1 hf2_2 H locs hP hD hS ls (lv_sub (l' := [(0, .ref s0), (1, .ref j0), (2, .int (nI n)), (3, .int (nI c)), (4, .int (nI 0))]) hl [1, 2, 3, 4, 0] rfl)
  exact L2_6 ((w 4) + 1) 0 (by omega) (by omega) o fo sp hfo ho spI_0 H locs hP hD hS ls (lv_sub (l' := [(0, .ref s0), (1, .ref j0), (2, .int (nI n)), (3, .int (nI 0))]) hl [1, 2, 3, 0] rfl)

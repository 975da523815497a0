/-- the days of the first n on which suspect s is left by the first c clues, off at o -/
def pmN (w : Nat → Nat) (n : Nat) (o : Nat → Nat) : Nat → Nat → Nat
  | 0, _ => 1 * 2 ^ n - 1
  | c + 1, s => pmN w n o c s &&& spN w n c (o c) s
def lfI (w : Nat → Nat) (n : Nat) (o : Nat → Nat) (c s : Nat) (lf : Nat → Nat → Int32) : Prop := ∀ c' s', c' ≤ w 4 → s' < w 0 → (c' ≤ c ∨ (c' = c + 1 ∧ s' < s)) → lf c' s' = nI (pmN w n o c' s')
theorem lfI_at {w : Nat → Nat} {n c s c' s' : Nat} {o : Nat → Nat} {lf : Nat → Nat → Int32} (h : lfI w n o c s lf) (h1 : c' ≤ c ∧ c' ≤ w 4) (h2 : s' < w 0) : lf c' s' = nI (pmN w n o c' s') := h c' s' h1.2 h2 (Or.inl h1.1)
theorem lfI_c {w : Nat → Nat} {n c s : Nat} {o : Nat → Nat} {lf : Nat → Nat → Int32} (h : lfI w n o c s lf) (hs : w 0 ≤ s) : lfI w n o (c + 1) 0 lf := fun c' s' h1 h2 h3 => h c' s' h1 h2 (by omega)
theorem lfI_e {w : Nat → Nat} {n c : Nat} {o : Nat → Nat} {lf : Nat → Nat → Int32} (h : lfI w n o c 0 lf) (hs : w 4 ≤ c) : lfI w n o (w 4) 0 lf := fun c' s' h1 h2 h3 => h c' s' h1 h2 (by omega)
theorem lfI_s {w : Nat → Nat} {n c s : Nat} {o : Nat → Nat} {lf : Nat → Nat → Int32} (hc : c < w 4) (hs : s < w 0) (h : lfI w n o c s lf) : lfI w n o c (s + 1) (fun z9 => if z9 = c + 1 then upd (lf (c + 1)) s (nI (pmN w n o c s &&& spN w n c (o c) s)) else lf z9) := fun c' s' h1 h2 h3 => by
  by_cases q : c' = c + 1
  · subst q
    simp only [if_true]
    by_cases q3 : s' = s
    · subst q3; rw [pk_us]; rfl
    · rw [pk_un q3]; exact h (c + 1) s' h1 h2 (by omega)
  · simp only [q, if_false]
    exact h c' s' h1 h2 (by omega)
def onF (d : Nat → Nat) : Nat → Nat
  | 0 => 0
  | s + 1 => onF d s ||| d s
def moF (d : Nat → Nat) : Nat → Nat
  | 0 => 0
  | s + 1 => moF d s ||| (onF d s &&& d s)
/-- how many of the first n days are sure, with the clues off at o -/
def suN (w : Nat → Nat) (n : Nat) (o : Nat → Nat) : Nat := bc (onF (pmN w n o (w 4)) (w 0) &&& (16383 ^^^ moF (pmN w n o (w 4)) (w 0)))
theorem awN_lt (w : Nat → Nat) (c : Nat) : ∀ n, awN w c n < 2 ^ n
  | 0 => (by decide : (0 : Nat) < 2 ^ 0)
  | n + 1 => by
    have h := awN_lt w c n
    have h2 : (2 : Nat) ^ n < 2 ^ (n + 1) := Nat.pow_lt_pow_right (by decide) (by omega)
    rw [awN]
    split
    · omega
    · exact Nat.or_lt_two_pow (by omega) (by omega)
theorem pmN_lt (w : Nat → Nat) (n : Nat) (o : Nat → Nat) : ∀ c s, pmN w n o c s < 2 ^ n
  | 0, s => by
    have := Nat.two_pow_pos n
    show 1 * 2 ^ n - 1 < 2 ^ n
    omega
  | c + 1, s => Nat.lt_of_le_of_lt Nat.and_le_left (pmN_lt w n o c s)
theorem onF_lt2 {d : Nat → Nat} {n : Nat} (h : ∀ s, d s < 2 ^ n) : ∀ s, onF d s < 2 ^ n
  | 0 => Nat.two_pow_pos n
  | s + 1 => Nat.or_lt_two_pow (onF_lt2 h s) (h s)
theorem moF_lt2 {d : Nat → Nat} {n : Nat} (h : ∀ s, d s < 2 ^ n) : ∀ s, moF d s < 2 ^ n
  | 0 => Nat.two_pow_pos n
  | s + 1 => Nat.or_lt_two_pow (moF_lt2 h s) (Nat.lt_of_le_of_lt Nat.and_le_right (h s))
theorem onF_lt {w : Nat → Nat} {n : Nat} {o : Nat → Nat} {c : Nat} (hn : n ≤ 14) (s : Nat) : onF (pmN w n o c) s < 16384 := Nat.lt_of_lt_of_le (onF_lt2 (fun s => pmN_lt w n o c s) s) (q_pw15 n hn).2
theorem moF_lt {w : Nat → Nat} {n : Nat} {o : Nat → Nat} {c : Nat} (hn : n ≤ 14) (s : Nat) : moF (pmN w n o c) s < 16384 := Nat.lt_of_lt_of_le (moF_lt2 (fun s => pmN_lt w n o c s) s) (q_pw15 n hn).2
theorem q_m1 : (-1 : Int32) = nI 4294967295 := by decide
theorem q_nandN {a b : Nat} (ha : a < 16384) (hb : b < 16384) : a &&& (b ^^^ 4294967295) = a &&& (16383 ^^^ b) := by
  apply Nat.eq_of_testBit_eq
  intro i
  rw [Nat.testBit_and, Nat.testBit_and, Nat.testBit_xor, Nat.testBit_xor, show 4294967295 = 2 ^ 32 - 1 from rfl, show 16383 = 2 ^ 14 - 1 from rfl, Nat.testBit_two_pow_sub_one, Nat.testBit_two_pow_sub_one]
  by_cases h : i < 14
  · have h2 : i < 32 := by omega
    simp [h, h2]
  · have h3 : a.testBit i = false := Nat.testBit_lt_two_pow (Nat.lt_of_lt_of_le ha (Nat.pow_le_pow_right (n := 2) (by decide) (by omega : 14 ≤ i)))
    simp [h3]
theorem q_nand {a b : Nat} (ha : a < 16384) (hb : b < 16384) : nI a &&& (nI b ^^^ (-1)) = nI (a &&& (16383 ^^^ b)) := by
  rw [q_m1, q_xor, q_and, q_nandN ha hb]
theorem q_nand_lt (a b : Nat) (ha : a < 16384) : a &&& (16383 ^^^ b) < 16384 := Nat.lt_of_le_of_lt Nat.and_le_left ha
theorem nX3_narrow_0 : ∀ w ∈ wsX20, w ∈ wsX3_narrow := by decide +kernel
theorem mX3_narrow_1 : Cond.fieldLink RX3 58 "ClueLeave$City" "clues" "I" ∈ wsX3_narrow := by decide +kernel
theorem nX3_narrow_2 : ∀ w ∈ wsX30, w ∈ wsX3_narrow := by decide +kernel
theorem mX3_narrow_3 : Cond.fieldLink RX3 11 "ClueLeave$RotaSearch" "spares" "[[I" ∈ wsX3_narrow := by decide +kernel
theorem mX3_narrow_4 : Cond.fieldLink RX3 31 "ClueLeave$City" "off" "[I" ∈ wsX3_narrow := by decide +kernel
theorem mX3_narrow_5 : Cond.fieldLink RX3 68 "ClueLeave$City" "suspects" "I" ∈ wsX3_narrow := by decide +kernel
theorem mX3_narrow_6 : Cond.fieldLink RX3 16 "ClueLeave$RotaSearch" "left" "[[I" ∈ wsX3_narrow := by decide +kernel
set_option maxHeartbeats 4000000 in
set_option maxRecDepth 100000 in
theorem c_X3_narrow (l : Launch) (D : va_G) (cy : Nat → ClassId) (s0 ss sl sb : Nat) (gsI glI : Nat → Option Nat) (gS gL : Nat → Nat) (hgS : ∀ i, i < 24 → gsI i = some (gS i)) (hgL : ∀ i, i < 7 → glI i = some (gL i)) (mo : Int32) (fb : Nat → Int32) (sp lf : Nat → Nat → Int32) (j0 jk jt je jo : Nat) (w : Nat → Nat) (gk gt ge : Nat → Int32) (hw3 : ctI3 w gk gt ge) (hv : ctOk w) (o : Nat → Nat) (fo : Nat → Int32) (hfo : ∀ c, c < w 4 → fo c = nI (o c)) (ho : ∀ c, c < w 4 → o c < ctE w c) (n fr : Nat) (hfr : fr ≤ w 4) (hsp : spI w n (w 4) 0 0 sp) (hlf : lfI w n o fr 0 lf) : q_Wv l yX3_narrow wsX3_narrow 1 D cy ([(s0, .inr (3, [.ref ss, .ref sl, .ref sb, .int (mo)])), (ss, .inl (cy 3, 24, .inr (.inr (.inr (.inr gsI))))), (sl, .inl (cy 3, 7, .inr (.inr (.inr (.inr glI))))), (sb, .inl (cy 0, 6, .inl fb)), (j0, .inr (2, [.int (nI (w 0)), .int (nI (w 1)), .int (nI (w 2)), .int (nI (w 4)), .int (nI (w 3)), .ref jk, .ref jt, .ref je, .ref jo])), (jk, .inl (cy 0, 6, .inl gk)), (jt, .inl (cy 0, 6, .inl gt)), (je, .inl (cy 0, 6, .inl ge)), (jo, .inl (cy 0, 6, .inl fo))] ++ (famI cy 24 6 gS sp ++ (famI cy 7 6 gL lf ++ []))) [.ref s0, .ref j0, .int (nI fr)] (fun u => ∃ lf2 : Nat → Nat → Int32, lfI w n o (w 4) 0 lf2 ∧ u = ([(s0, .inr (3, [.ref ss, .ref sl, .ref sb, .int (mo)])), (ss, .inl (cy 3, 24, .inr (.inr (.inr (.inr gsI))))), (sl, .inl (cy 3, 7, .inr (.inr (.inr (.inr glI))))), (sb, .inl (cy 0, 6, .inl fb)), (j0, .inr (2, [.int (nI (w 0)), .int (nI (w 1)), .int (nI (w 2)), .int (nI (w 4)), .int (nI (w 3)), .ref jk, .ref jt, .ref je, .ref jo])), (jk, .inl (cy 0, 6, .inl gk)), (jt, .inl (cy 0, 6, .inl gt)), (je, .inl (cy 0, 6, .inl ge)), (jo, .inl (cy 0, 6, .inl fo))] ++ (famI cy 24 6 gS sp ++ (famI cy 7 6 gL lf2 ++ [])))) := by
  refine q_wv_of (cc := cX3_narrow) (maxL := 6) (ret := none) (by decide) rfl (Nat.le_of_ble_eq_true rfl) ?_
  intro pg en s mi args below meth cd A hC hA hK H locs hP hD hS ls hl
  obtain ⟨hx, hb, hr, hml, hown, hts, hlocks⟩ := hC
  have hl : lv_has ls 6 [(0, .ref s0), (1, .ref j0), (2, .int (nI fr))] := hl
  obtain ⟨hv0, hv1, hv2, hv3, hv4, hvc⟩ := id hv
  refine lv_iload_n hx hb dX3_narrow_0 rfl (lv_at hl 2 rfl) ?_
  refine lv_istore_n (lv' := [(3, .int (nI fr)), (0, .ref s0), (1, .ref j0), (2, .int (nI fr))]) hx hb dX3_narrow_1 rfl hl (by decide) rfl (fun ls hl => ?_)
  have L2_5 : ∀ (fu c : Nat), c ≤ w 4 → w 4 < c + fu → ∀ (lf1 : Nat → Nat → Int32), lfI w n o c 0 lf1 → ∀ (H : Heap) (locs : List Loc), va_P D vwCl ([(s0, .inr (3, [.ref ss, .ref sl, .ref sb, .int (mo)])), (ss, .inl (cy 3, 24, .inr (.inr (.inr (.inr gsI))))), (sl, .inl (cy 3, 7, .inr (.inr (.inr (.inr glI))))), (sb, .inl (cy 0, 6, .inl fb)), (j0, .inr (2, [.int (nI (w 0)), .int (nI (w 1)), .int (nI (w 2)), .int (nI (w 4)), .int (nI (w 3)), .ref jk, .ref jt, .ref je, .ref jo])), (jk, .inl (cy 0, 6, .inl gk)), (jt, .inl (cy 0, 6, .inl gt)), (je, .inl (cy 0, 6, .inl ge)), (jo, .inl (cy 0, 6, .inl fo))] ++ (famI cy 24 6 gS sp ++ (famI cy 7 6 gL lf1 ++ []))) H → va_D A ([(s0, .inr (3, [.ref ss, .ref sl, .ref sb, .int (mo)])), (ss, .inl (cy 3, 24, .inr (.inr (.inr (.inr gsI))))), (sl, .inl (cy 3, 7, .inr (.inr (.inr (.inr glI))))), (sb, .inl (cy 0, 6, .inl fb)), (j0, .inr (2, [.int (nI (w 0)), .int (nI (w 1)), .int (nI (w 2)), .int (nI (w 4)), .int (nI (w 3)), .ref jk, .ref jt, .ref je, .ref jo])), (jk, .inl (cy 0, 6, .inl gk)), (jt, .inl (cy 0, 6, .inl gt)), (je, .inl (cy 0, 6, .inl ge)), (jo, .inl (cy 0, 6, .inl fo))] ++ (famI cy 24 6 gS sp ++ (famI cy 7 6 gL lf1 ++ []))) → va_S A s.heap H locs → ∀ ls : Array Slot, lv_has ls 6 [(0, .ref s0), (1, .ref j0), (2, .int (nI fr)), (3, .int (nI c))] → W pg l en (q_rm 1) s mi args below meth cd H locs 0 0 (MQ below (va_Qv (fun u => ∃ lf2 : Nat → Nat → Int32, lfI w n o (w 4) 0 lf2 ∧ u = ([(s0, .inr (3, [.ref ss, .ref sl, .ref sb, .int (mo)])), (ss, .inl (cy 3, 24, .inr (.inr (.inr (.inr gsI))))), (sl, .inl (cy 3, 7, .inr (.inr (.inr (.inr glI))))), (sb, .inl (cy 0, 6, .inl fb)), (j0, .inr (2, [.int (nI (w 0)), .int (nI (w 1)), .int (nI (w 2)), .int (nI (w 4)), .int (nI (w 3)), .ref jk, .ref jt, .ref je, .ref jo])), (jk, .inl (cy 0, 6, .inl gk)), (jt, .inl (cy 0, 6, .inl gt)), (je, .inl (cy 0, 6, .inl ge)), (jo, .inl (cy 0, 6, .inl fo))] ++ (famI cy 24 6 gS sp ++ (famI cy 7 6 gL lf2 ++ [])))) (fun (u : va_W) t => va_P D vwCl u t.heap ∧ va_D A u) A) args s 0 0 A) (F0 mi 2 ls []) := by
    intro fu
    induction fu with
    | zero =>
      intro c h1 h2
      exact absurd h2 (by omega)
    | succ fu ih2 =>
      intro c h1_2 h2_2 lf1 hf2_0 H locs hP hD hS ls hl
      refine lv_iload_n hx hb dX3_narrow_2 rfl (lv_at hl 3 rfl) ?_
      refine lv_aload_n hx hb dX3_narrow_3 rfl (lv_at hl 1 rfl) ?_
      refine va_get (D := D) (ci := 2) (v := .int (nI (w 4))) (C := RX2) (T := TX2) (N := 9) hx hb hts nX3_narrow_0 hown hK.1 hP 4 rfl rfl 3 (by decide) (hts _ mX3_narrow_1) (fun _ h9 => h9) rfl dX3_narrow_4 ?_
      refine q_icmp_ge (tgt := 77) hx hb dX3_narrow_7 (by decide) (by omega) (by omega) (fun c1 => ?_) (fun c1 => ?_)
      · have hP9 := hP
        have hD9 := hD
        exact q_wvret hx hb hr hlocks dX3_narrow_77 hP9 hD9 hS (⟨_, lfI_e hf2_0 (by omega), rfl⟩)
      · obtain ⟨hk1, hk5, ht1, ht2, he2, he4, ho1⟩ := hvc c (by omega)
        have hoc := ho c (by omega)
        refine lv_aload_n hx hb dX3_narrow_10 rfl (lv_at hl 0 rfl) ?_
        refine va_get (D := D) (ci := 3) (v := .ref ss) (C := RX3) (T := TX3) (N := 4) hx hb hts nX3_narrow_2 hown hK.1 hP 0 rfl rfl 0 (by decide) (hts _ mX3_narrow_3) (fun _ h9 => h9) rfl dX3_narrow_11 ?_
        refine lv_iload_n hx hb dX3_narrow_14 rfl (lv_at hl 3 rfl) ?_
        refine lv_iconst (v := nI 4) hx hb dX3_narrow_15 (by decide) ?_
        refine lv_imul hx hb dX3_narrow_16 ?_
        refine q_top (y := nI (c * 4)) (pk_mul _ _) ?_
        refine lv_aload_n hx hb dX3_narrow_17 rfl (lv_at hl 1 rfl) ?_
        refine va_get (D := D) (ci := 2) (v := .ref jo) (C := RX2) (T := TX2) (N := 9) hx hb hts nX3_narrow_0 hown hK.1 hP 4 rfl rfl 8 (by decide) (hts _ mX3_narrow_4) (fun _ h9 => h9) rfl dX3_narrow_18 ?_
        refine lv_iload_n hx hb dX3_narrow_21 rfl (lv_at hl 3 rfl) ?_
        refine q_iald (j := c) (v := nI (o c)) hx hb hK hP 8 rfl (by omega) (by decide) (hfo _ (by omega)) dX3_narrow_22 ?_
        refine lv_iadd hx hb dX3_narrow_23 ?_
        refine q_top (y := nI ((c * 4) + (o c))) (nI_add _ _) ?_
        refine q_aald3 (j := ((c * 4) + (o c))) (v := (gS ((c * 4) + (o c)))) hx hb hK hP 1 rfl (by omega) (by decide) (hgS _ (by omega)) dX3_narrow_24 ?_
        refine lv_astore (lv' := [(4, .ref (gS ((c * 4) + (o c)))), (0, .ref s0), (1, .ref j0), (2, .int (nI fr)), (3, .int (nI c))]) hx hb dX3_narrow_25 hl (by decide) rfl (fun ls hl => ?_)
        refine lv_iconst (v := nI 0) hx hb dX3_narrow_27 (by decide) ?_
        refine lv_istore (lv' := [(5, .int (nI 0)), (4, .ref (gS ((c * 4) + (o c)))), (0, .ref s0), (1, .ref j0), (2, .int (nI fr)), (3, .int (nI c))]) hx hb dX3_narrow_28 hl (by decide) rfl (fun ls hl => ?_)
        have L30_38 : ∀ (fu q : Nat), q ≤ w 0 → w 0 < q + fu → ∀ (lf1 : Nat → Nat → Int32), lfI w n o c q lf1 → ∀ (H : Heap) (locs : List Loc), va_P D vwCl ([(s0, .inr (3, [.ref ss, .ref sl, .ref sb, .int (mo)])), (ss, .inl (cy 3, 24, .inr (.inr (.inr (.inr gsI))))), (sl, .inl (cy 3, 7, .inr (.inr (.inr (.inr glI))))), (sb, .inl (cy 0, 6, .inl fb)), (j0, .inr (2, [.int (nI (w 0)), .int (nI (w 1)), .int (nI (w 2)), .int (nI (w 4)), .int (nI (w 3)), .ref jk, .ref jt, .ref je, .ref jo])), (jk, .inl (cy 0, 6, .inl gk)), (jt, .inl (cy 0, 6, .inl gt)), (je, .inl (cy 0, 6, .inl ge)), (jo, .inl (cy 0, 6, .inl fo))] ++ (famI cy 24 6 gS sp ++ (famI cy 7 6 gL lf1 ++ []))) H → va_D A ([(s0, .inr (3, [.ref ss, .ref sl, .ref sb, .int (mo)])), (ss, .inl (cy 3, 24, .inr (.inr (.inr (.inr gsI))))), (sl, .inl (cy 3, 7, .inr (.inr (.inr (.inr glI))))), (sb, .inl (cy 0, 6, .inl fb)), (j0, .inr (2, [.int (nI (w 0)), .int (nI (w 1)), .int (nI (w 2)), .int (nI (w 4)), .int (nI (w 3)), .ref jk, .ref jt, .ref je, .ref jo])), (jk, .inl (cy 0, 6, .inl gk)), (jt, .inl (cy 0, 6, .inl gt)), (je, .inl (cy 0, 6, .inl ge)), (jo, .inl (cy 0, 6, .inl fo))] ++ (famI cy 24 6 gS sp ++ (famI cy 7 6 gL lf1 ++ []))) → va_S A s.heap H locs → ∀ ls : Array Slot, lv_has ls 6 [(0, .ref s0), (1, .ref j0), (2, .int (nI fr)), (3, .int (nI c)), (4, .ref (gS (c * 4 + o c))), (5, .int (nI q))] → W pg l en (q_rm 1) s mi args below meth cd H locs 0 0 (MQ below (va_Qv (fun u => ∃ lf2 : Nat → Nat → Int32, lfI w n o (w 4) 0 lf2 ∧ u = ([(s0, .inr (3, [.ref ss, .ref sl, .ref sb, .int (mo)])), (ss, .inl (cy 3, 24, .inr (.inr (.inr (.inr gsI))))), (sl, .inl (cy 3, 7, .inr (.inr (.inr (.inr glI))))), (sb, .inl (cy 0, 6, .inl fb)), (j0, .inr (2, [.int (nI (w 0)), .int (nI (w 1)), .int (nI (w 2)), .int (nI (w 4)), .int (nI (w 3)), .ref jk, .ref jt, .ref je, .ref jo])), (jk, .inl (cy 0, 6, .inl gk)), (jt, .inl (cy 0, 6, .inl gt)), (je, .inl (cy 0, 6, .inl ge)), (jo, .inl (cy 0, 6, .inl fo))] ++ (famI cy 24 6 gS sp ++ (famI cy 7 6 gL lf2 ++ [])))) (fun (u : va_W) t => va_P D vwCl u t.heap ∧ va_D A u) A) args s 0 0 A) (F0 mi 30 ls []) := by
          intro fu
          induction fu with
          | zero =>
            intro q h1 h2
            exact absurd h2 (by omega)
          | succ fu ih30 =>
            intro q h1_30 h2_30 lf1 hf30_0 H locs hP hD hS ls hl
            refine lv_iload hx hb dX3_narrow_30 (lv_at hl 5 rfl) ?_
            refine lv_aload_n hx hb dX3_narrow_32 rfl (lv_at hl 1 rfl) ?_
            refine va_get (D := D) (ci := 2) (v := .int (nI (w 0))) (C := RX2) (T := TX2) (N := 9) hx hb hts nX3_narrow_0 hown hK.1 hP 4 rfl rfl 0 (by decide) (hts _ mX3_narrow_5) (fun _ h9 => h9) rfl dX3_narrow_33 ?_
            refine q_icmp_ge (tgt := 71) hx hb dX3_narrow_36 (by decide) (by omega) (by omega) (fun c2 => ?_) (fun c2 => ?_)
            · refine lv_iinc (v := nI (c + 1)) (lv' := [(3, .int (nI (c + 1))), (0, .ref s0), (1, .ref j0), (2, .int (nI fr)), (4, .ref (gS (c * 4 + o c))), (5, .int (nI q))]) hx hb dX3_narrow_71 hl (k := 3) rfl (q_inc c 1) (by decide) rfl (fun ls hl => ?_)
              refine lv_goto (tgt := 2) hx hb dX3_narrow_74 (by decide) ?_
              exact ih2 (c + 1) (by omega) (by omega) lf1 (lfI_c (s := q) hf30_0 (by omega)) H locs hP hD hS ls (lv_sub (l' := [(0, .ref s0), (1, .ref j0), (2, .int (nI fr)), (3, .int (nI (c + 1)))]) hl [1, 2, 3, 0] rfl)
            · refine lv_aload_n hx hb dX3_narrow_39 rfl (lv_at hl 0 rfl) ?_
              refine va_get (D := D) (ci := 3) (v := .ref sl) (C := RX3) (T := TX3) (N := 4) hx hb hts nX3_narrow_2 hown hK.1 hP 0 rfl rfl 1 (by decide) (hts _ mX3_narrow_6) (fun _ h9 => h9) rfl dX3_narrow_40 ?_
              refine lv_iload_n hx hb dX3_narrow_43 rfl (lv_at hl 3 rfl) ?_
              refine lv_iconst (v := nI 1) hx hb dX3_narrow_44 (by decide) ?_
              refine lv_iadd hx hb dX3_narrow_45 ?_
              refine q_top (y := nI (c + 1)) (nI_add _ _) ?_
              refine q_aald3 (j := (c + 1)) (v := (gL (c + 1))) hx hb hK hP 2 rfl (by omega) (by decide) (hgL _ (by omega)) dX3_narrow_46 ?_
              refine lv_iload hx hb dX3_narrow_47 (lv_at hl 5 rfl) ?_
              refine lv_aload_n hx hb dX3_narrow_49 rfl (lv_at hl 0 rfl) ?_
              refine va_get (D := D) (ci := 3) (v := .ref sl) (C := RX3) (T := TX3) (N := 4) hx hb hts nX3_narrow_2 hown hK.1 hP 0 rfl rfl 1 (by decide) (hts _ mX3_narrow_6) (fun _ h9 => h9) rfl dX3_narrow_50 ?_
              refine lv_iload_n hx hb dX3_narrow_53 rfl (lv_at hl 3 rfl) ?_
              refine q_aald3 (j := c) (v := (gL c)) hx hb hK hP 2 rfl (by omega) (by decide) (hgL _ (by omega)) dX3_narrow_54 ?_
              refine lv_iload hx hb dX3_narrow_55 (lv_at hl 5 rfl) ?_
              refine q_iald (j := q) (v := lf1 c q) hx hb hK hP (9 + 24 + c) (famI_get2 (m := 9) (k := 24) rfl famI_len (by omega)) (by omega) (by decide) (rfl) dX3_narrow_57 ?_
              refine q_top (y := nI (pmN w n o c q)) (lfI_at hf30_0 (by omega) (by omega)) ?_
              refine lv_aload hx hb dX3_narrow_58 (lv_at hl 4 rfl) ?_
              refine lv_iload hx hb dX3_narrow_60 (lv_at hl 5 rfl) ?_
              refine q_iald (j := q) (v := sp (c * 4 + o c) q) hx hb hK hP (9 + (c * 4 + o c)) (famI_get (m := 9) rfl (by omega)) (by omega) (by decide) (rfl) dX3_narrow_62 ?_
              refine q_top (y := nI (spN w n c (o c) q)) (hsp c (o c) q (by omega) hoc (by omega) (Or.inl (by omega))) ?_
              refine lv_iand hx hb dX3_narrow_63 ?_
              refine q_top (y := nI ((pmN w n o c q) &&& (spN w n c (o c) q))) (q_and _ _) ?_
              refine q_iast (j := q) hx hb hK hP hD hS (9 + 24 + (c + 1)) (famI_get2 (m := 9) (k := 24) rfl famI_len (by omega)) (by omega) (by decide) dX3_narrow_64 (fun H locs hP hD hS => ?_)
              rw [famI_set2 (m := 9) (k := 24) rfl famI_len (by omega)] at hP hD
              have hP : va_P D vwCl ([(s0, .inr (3, [.ref ss, .ref sl, .ref sb, .int (mo)])), (ss, .inl (cy 3, 24, .inr (.inr (.inr (.inr gsI))))), (sl, .inl (cy 3, 7, .inr (.inr (.inr (.inr glI))))), (sb, .inl (cy 0, 6, .inl fb)), (j0, .inr (2, [.int (nI (w 0)), .int (nI (w 1)), .int (nI (w 2)), .int (nI (w 4)), .int (nI (w 3)), .ref jk, .ref jt, .ref je, .ref jo])), (jk, .inl (cy 0, 6, .inl gk)), (jt, .inl (cy 0, 6, .inl gt)), (je, .inl (cy 0, 6, .inl ge)), (jo, .inl (cy 0, 6, .inl fo))] ++ (famI cy 24 6 gS sp ++ (famI cy 7 6 gL (fun z9 => if z9 = (c + 1) then upd (lf1 (c + 1)) q (nI ((pmN w n o c q) &&& (spN w n c (o c) q))) else lf1 z9) ++ []))) H := hP
              have hD : va_D A ([(s0, .inr (3, [.ref ss, .ref sl, .ref sb, .int (mo)])), (ss, .inl (cy 3, 24, .inr (.inr (.inr (.inr gsI))))), (sl, .inl (cy 3, 7, .inr (.inr (.inr (.inr glI))))), (sb, .inl (cy 0, 6, .inl fb)), (j0, .inr (2, [.int (nI (w 0)), .int (nI (w 1)), .int (nI (w 2)), .int (nI (w 4)), .int (nI (w 3)), .ref jk, .ref jt, .ref je, .ref jo])), (jk, .inl (cy 0, 6, .inl gk)), (jt, .inl (cy 0, 6, .inl gt)), (je, .inl (cy 0, 6, .inl ge)), (jo, .inl (cy 0, 6, .inl fo))] ++ (famI cy 24 6 gS sp ++ (famI cy 7 6 gL (fun z9 => if z9 = (c + 1) then upd (lf1 (c + 1)) q (nI ((pmN w n o c q) &&& (spN w n c (o c) q))) else lf1 z9) ++ []))) := hD
              refine lv_iinc (v := nI (q + 1)) (lv' := [(5, .int (nI (q + 1))), (0, .ref s0), (1, .ref j0), (2, .int (nI fr)), (3, .int (nI c)), (4, .ref (gS (c * 4 + o c)))]) hx hb dX3_narrow_65 hl (k := 5) rfl (q_inc q 1) (by decide) rfl (fun ls hl => ?_)
              refine lv_goto (tgt := 30) hx hb dX3_narrow_68 (by decide) ?_
              exact ih30 (q + 1) (by omega) (by omega) (fun z9 => if z9 = (c + 1) then upd (lf1 (c + 1)) q (nI ((pmN w n o c q) &&& (spN w n c (o c) q))) else lf1 z9) (lfI_s (by omega) (by omega) hf30_0) H locs hP hD hS ls (lv_sub (l' := [(0, .ref s0), (1, .ref j0), (2, .int (nI fr)), (3, .int (nI c)), (4, .ref (gS (c * 4 + o c))), (5, .int (nI (q + 1)))]) hl [1, 2, 3, 4, 5, 0] rfl)
        exact L30_38 ((w 0) + 1) 0 (by omega) (by omega) lf1 hf2_0 H locs hP hD hS ls (q_lset (lv_sub (l' := [(0, .ref s0), (1, .ref j0), (2, .int (nI fr)), (3, .int (nI c)), (4, .ref (gS ((c * 4) + (o c)))), (5, .int (nI 0))]) hl [2, 3, 4, 5, 1, 0] rfl) (q_c1 (f := fun z4 => ([(0, .ref s0), (1, .ref j0), (2, .int (nI fr)), (3, .int (nI c)), (4, .ref z4), (5, .int (nI 0))] : List (Nat × Value))) (show ((gS ((c * 4) + (o c))) : Nat) = (gS (c * 4 + o c)) from rfl)))
  exact L2_5 ((w 4) + 1) fr (by omega) (by omega) lf hlf H locs hP hD hS ls (lv_sub (l' := [(0, .ref s0), (1, .ref j0), (2, .int (nI fr)), (3, .int (nI fr))]) hl [1, 2, 3, 0] rfl)
theorem nX3_sureDays_0 : ∀ w ∈ wsX20, w ∈ wsX3_sureDays := by decide +kernel
theorem mX3_sureDays_1 : Cond.fieldLink RX3 68 "ClueLeave$City" "suspects" "I" ∈ wsX3_sureDays := by decide +kernel
theorem nX3_sureDays_2 : ∀ w ∈ wsX30, w ∈ wsX3_sureDays := by decide +kernel
theorem mX3_sureDays_3 : Cond.fieldLink RX3 16 "ClueLeave$RotaSearch" "left" "[[I" ∈ wsX3_sureDays := by decide +kernel
theorem mX3_sureDays_4 : Cond.fieldLink RX3 58 "ClueLeave$City" "clues" "I" ∈ wsX3_sureDays := by decide +kernel
set_option maxHeartbeats 4000000 in
set_option maxRecDepth 100000 in
theorem c_X3_sureDays (l : Launch) (D : va_G) (cy : Nat → ClassId) (s0 ss sl sb : Nat) (gsI glI : Nat → Option Nat) (gS gL : Nat → Nat) (hgS : ∀ i, i < 24 → gsI i = some (gS i)) (hgL : ∀ i, i < 7 → glI i = some (gL i)) (mo : Int32) (fb : Nat → Int32) (sp lf : Nat → Nat → Int32) (j0 jk jt je jo : Nat) (w : Nat → Nat) (gk gt ge : Nat → Int32) (hw3 : ctI3 w gk gt ge) (hv : ctOk w) (o : Nat → Nat) (fo : Nat → Int32) (hfo : ∀ c, c < w 4 → fo c = nI (o c)) (ho : ∀ c, c < w 4 → o c < ctE w c) (n : Nat) (hn : n ≤ 14) (hlf : lfI w n o (w 4) 0 lf) : q_Rd l yX3_sureDays wsX3_sureDays 2 D cy ([(s0, .inr (3, [.ref ss, .ref sl, .ref sb, .int (mo)])), (ss, .inl (cy 3, 24, .inr (.inr (.inr (.inr gsI))))), (sl, .inl (cy 3, 7, .inr (.inr (.inr (.inr glI))))), (sb, .inl (cy 0, 6, .inl fb)), (j0, .inr (2, [.int (nI (w 0)), .int (nI (w 1)), .int (nI (w 2)), .int (nI (w 4)), .int (nI (w 3)), .ref jk, .ref jt, .ref je, .ref jo])), (jk, .inl (cy 0, 6, .inl gk)), (jt, .inl (cy 0, 6, .inl gt)), (je, .inl (cy 0, 6, .inl ge)), (jo, .inl (cy 0, 6, .inl fo))] ++ (famI cy 24 6 gS sp ++ (famI cy 7 6 gL lf ++ []))) [.ref s0, .ref j0] (fun r => r = nI (suN w n o)) := by
  refine q_rd_of (cc := cX3_sureDays) (maxL := 6) (ret := (some .int)) (by decide) rfl (Nat.le_of_ble_eq_true rfl) ?_
  intro pg en s mi args below meth cd hC hP hK ls hl
  obtain ⟨hx, hb, hr, hml, hown, hts, hlocks⟩ := hC
  have hl : lv_has ls 6 [(0, .ref s0), (1, .ref j0)] := hl
  obtain ⟨hv0, hv1, hv2, hv3, hv4, hvc⟩ := id hv
  refine lv_iconst (v := nI 0) hx hb dX3_sureDays_0 (by decide) ?_
  refine lv_istore_n (lv' := [(2, .int (nI 0)), (0, .ref s0), (1, .ref j0)]) hx hb dX3_sureDays_1 rfl hl (by decide) rfl (fun ls hl => ?_)
  refine lv_iconst (v := nI 0) hx hb dX3_sureDays_2 (by decide) ?_
  refine lv_istore_n (lv' := [(3, .int (nI 0)), (2, .int (nI 0)), (0, .ref s0), (1, .ref j0)]) hx hb dX3_sureDays_3 rfl hl (by decide) rfl (fun ls hl => ?_)
  refine lv_iconst (v := nI 0) hx hb dX3_sureDays_4 (by decide) ?_
  refine lv_istore (lv' := [(4, .int (nI 0)), (3, .int (nI 0)), (2, .int (nI 0)), (0, .ref s0), (1, .ref j0)]) hx hb dX3_sureDays_5 hl (by decide) rfl (fun ls hl => ?_)
  have L7_9 : ∀ (fu q : Nat), q ≤ w 0 → w 0 < q + fu → ∀ ls : Array Slot, lv_has ls 6 [(0, .ref s0), (1, .ref j0), (2, .int (nI (onF (pmN w n o (w 4)) q))), (3, .int (nI (moF (pmN w n o (w 4)) q))), (4, .int (nI q))] → W pg l en (q_rm 2) s mi args below meth cd s.heap [] 0 0 (MQ below (vp_Si (fun r => r = nI (suN w n o))) args s 0 0 (fun _ => False)) (F0 mi 7 ls []) := by
    intro fu
    induction fu with
    | zero =>
      intro q h1 h2
      exact absurd h2 (by omega)
    | succ fu ih7 =>
      intro q h1_7 h2_7 ls hl
      refine lv_iload hx hb dX3_sureDays_7 (lv_at hl 4 rfl) ?_
      refine lv_aload_n hx hb dX3_sureDays_9 rfl (lv_at hl 1 rfl) ?_
      refine va_get (D := D) (ci := 2) (v := .int (nI (w 0))) (C := RX2) (T := TX2) (N := 9) hx hb hts nX3_sureDays_0 hown hK.1 hP 4 rfl rfl 0 (by decide) (hts _ mX3_sureDays_1) (fun _ h9 => h9) rfl dX3_sureDays_10 ?_
      refine q_icmp_ge (tgt := 48) hx hb dX3_sureDays_13 (by decide) (by omega) (by omega) (fun c1 => ?_) (fun c1 => ?_)
      · refine lv_iload_n hx hb dX3_sureDays_48 rfl (lv_at hl 2 rfl) ?_
        refine lv_iload_n hx hb dX3_sureDays_49 rfl (lv_at hl 3 rfl) ?_
        refine lv_iconst (v := (-1)) hx hb dX3_sureDays_50 (by decide) ?_
        refine lv_ixor hx hb dX3_sureDays_51 ?_
        refine lv_iand hx hb dX3_sureDays_52 ?_
        refine q_top (y := nI (onF (pmN w n o (w 4)) (w 0) &&& (16383 ^^^ moF (pmN w n o (w 4)) (w 0)))) (by rw [show q = w 0 by omega]; exact q_nand (onF_lt hn _) (moF_lt hn _)) ?_
        have hnd := q_nand_lt (onF (pmN w n o (w 4)) (w 0)) (moF (pmN w n o (w 4)) (w 0)) (onF_lt hn _)
        refine q_rS (As := [.int (nI (onF (pmN w n o (w 4)) (w 0) &&& (16383 ^^^ moF (pmN w n o (w 4)) (w 0))))]) (rest := []) ⟨hx, hb, hml, hown, hts⟩ (c_J6_bitCount_0f7a4 l D cy (onF (pmN w n o (w 4)) (w 0) &&& (16383 ^^^ moF (pmN w n o (w 4)) (w 0))) (by omega)) (va_cwS 1 hts gX3_sureDays_J6_bitCount_0f7a4 rfl rfl rfl (by decide +kernel) ⟨Nat.le_of_ble_eq_true rfl, Nat.le_of_ble_eq_true rfl⟩) hP hK [] rfl rfl hl.1 rfl (Nat.le_of_ble_eq_true rfl) dX3_sureDays_53 ⟨Nat.zero_le _, Nat.zero_le _⟩ (fun r2 hr2 => ?_)
        obtain rfl := hr2
        exact q_iret (v := nI (bc (onF (pmN w n o (w 4)) (w 0) &&& (16383 ^^^ moF (pmN w n o (w 4)) (w 0))))) hx hb hr hlocks dX3_sureDays_56 (rfl)
      · refine lv_aload_n hx hb dX3_sureDays_16 rfl (lv_at hl 0 rfl) ?_
        refine va_get (D := D) (ci := 3) (v := .ref sl) (C := RX3) (T := TX3) (N := 4) hx hb hts nX3_sureDays_2 hown hK.1 hP 0 rfl rfl 1 (by decide) (hts _ mX3_sureDays_3) (fun _ h9 => h9) rfl dX3_sureDays_17 ?_
        refine lv_aload_n hx hb dX3_sureDays_20 rfl (lv_at hl 1 rfl) ?_
        refine va_get (D := D) (ci := 2) (v := .int (nI (w 4))) (C := RX2) (T := TX2) (N := 9) hx hb hts nX3_sureDays_0 hown hK.1 hP 4 rfl rfl 3 (by decide) (hts _ mX3_sureDays_4) (fun _ h9 => h9) rfl dX3_sureDays_21 ?_
        refine q_aald3 (j := (w 4)) (v := (gL (w 4))) hx hb hK hP 2 rfl (by omega) (by decide) (hgL _ (by omega)) dX3_sureDays_24 ?_
        refine lv_iload hx hb dX3_sureDays_25 (lv_at hl 4 rfl) ?_
        refine q_iald (j := q) (v := lf (w 4) q) hx hb hK hP (9 + 24 + (w 4)) (famI_get2 (m := 9) (k := 24) rfl famI_len (by omega)) (by omega) (by decide) (rfl) dX3_sureDays_27 ?_
        refine q_top (y := nI (pmN w n o (w 4) q)) (lfI_at hlf (by omega) (by omega)) ?_
        refine lv_istore (lv' := [(5, .int (nI (pmN w n o (w 4) q))), (0, .ref s0), (1, .ref j0), (2, .int (nI (onF (pmN w n o (w 4)) q))), (3, .int (nI (moF (pmN w n o (w 4)) q))), (4, .int (nI q))]) hx hb dX3_sureDays_28 hl (by decide) rfl (fun ls hl => ?_)
        refine lv_iload_n hx hb dX3_sureDays_30 rfl (lv_at hl 4 rfl) ?_
        refine lv_iload_n hx hb dX3_sureDays_31 rfl (lv_at hl 3 rfl) ?_
        refine lv_iload hx hb dX3_sureDays_32 (lv_at hl 0 rfl) ?_
        refine lv_iand hx hb dX3_sureDays_34 ?_
        refine q_top (y := nI ((onF (pmN w n o (w 4)) q) &&& (pmN w n o (w 4) q))) (q_and _ _) ?_
        refine lv_ior hx hb dX3_sureDays_35 ?_
        refine q_top (y := nI ((moF (pmN w n o (w 4)) q) ||| ((onF (pmN w n o (w 4)) q) &&& (pmN w n o (w 4) q)))) (q_or _ _) ?_
        refine lv_istore_n (lv' := [(3, .int (nI ((moF (pmN w n o (w 4)) q) ||| ((onF (pmN w n o (w 4)) q) &&& (pmN w n o (w 4) q))))), (5, .int (nI (pmN w n o (w 4) q))), (0, .ref s0), (1, .ref j0), (2, .int (nI (onF (pmN w n o (w 4)) q))), (4, .int (nI q))]) hx hb dX3_sureDays_36 rfl hl (by decide) rfl (fun ls hl => ?_)
        refine lv_iload_n hx hb dX3_sureDays_37 rfl (lv_at hl 4 rfl) ?_
        refine lv_iload hx hb dX3_sureDays_38 (lv_at hl 1 rfl) ?_
        refine lv_ior hx hb dX3_sureDays_40 ?_
        refine q_top (y := nI ((onF (pmN w n o (w 4)) q) ||| (pmN w n o (w 4) q))) (q_or _ _) ?_
        refine lv_istore_n (lv' := [(2, .int (nI ((onF (pmN w n o (w 4)) q) ||| (pmN w n o (w 4) q)))), (3, .int (nI ((moF (pmN w n o (w 4)) q) ||| ((onF (pmN w n o (w 4)) q) &&& (pmN w n o (w 4) q))))), (5, .int (nI (pmN w n o (w 4) q))), (0, .ref s0), (1, .ref j0), (4, .int (nI q))]) hx hb dX3_sureDays_41 rfl hl (by decide) rfl (fun ls hl => ?_)
        refine lv_iinc (v := nI (q + 1)) (lv' := [(4, .int (nI (q + 1))), (2, .int (nI ((onF (pmN w n o (w 4)) q) ||| (pmN w n o (w 4) q)))), (3, .int (nI ((moF (pmN w n o (w 4)) q) ||| ((onF (pmN w n o (w 4)) q) &&& (pmN w n o (w 4) q))))), (5, .int (nI (pmN w n o (w 4) q))), (0, .ref s0), (1, .ref j0)]) hx hb dX3_sureDays_42 hl (k := 5) rfl (q_inc q 1) (by decide) rfl (fun ls hl => ?_)
        refine lv_goto (tgt := 7) hx hb dX3_sureDays_45 (by decide) ?_
        exact ih7 (q + 1) (by omega) (by omega) ls (q_lset (lv_sub (l' := [(0, .ref s0), (1, .ref j0), (2, .int (nI ((onF (pmN w n o (w 4)) q) ||| (pmN w n o (w 4) q)))), (3, .int (nI ((moF (pmN w n o (w 4)) q) ||| ((onF (pmN w n o (w 4)) q) &&& (pmN w n o (w 4) q))))), (4, .int (nI (q + 1)))]) hl [4, 5, 1, 2, 0] rfl) (q_c2 (f := fun z2 z3 => ([(0, .ref s0), (1, .ref j0), (2, .int (z2)), (3, .int (z3)), (4, .int (nI (q + 1)))] : List (Nat × Value))) (show (nI ((onF (pmN w n o (w 4)) q) ||| (pmN w n o (w 4) q)) : Int32) = nI (onF (pmN w n o (w 4)) (q + 1)) from rfl) (show (nI ((moF (pmN w n o (w 4)) q) ||| ((onF (pmN w n o (w 4)) q) &&& (pmN w n o (w 4) q))) : Int32) = nI (moF (pmN w n o (w 4)) (q + 1)) from rfl)))
  exact L7_9 ((w 0) + 1) 0 (by omega) (by omega) ls (q_lset (lv_sub (l' := [(0, .ref s0), (1, .ref j0), (2, .int (nI 0)), (3, .int (nI 0)), (4, .int (nI 0))]) hl [3, 4, 2, 1, 0] rfl) (q_c2 (f := fun z2 z3 => ([(0, .ref s0), (1, .ref j0), (2, .int (z2)), (3, .int (z3)), (4, .int (nI 0))] : List (Nat × Value))) (show (nI 0 : Int32) = nI (onF (pmN w n o (w 4)) 0) from rfl) (show (nI 0 : Int32) = nI (moF (pmN w n o (w 4)) 0) from rfl)))

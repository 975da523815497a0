theorem ctIs_cpy {w : Nat → Nat} {fk ft fe fo gk gt ge go : Nat → Int32} (h : ctIs w fk ft fe fo) (h4 : w 4 ≤ 6) : ctIs w (va_cpy fk gk 0 0 6) (va_cpy ft gt 0 0 6) (va_cpy fe ge 0 0 6) (va_cpy fo go 0 0 6) := by
  have key : ∀ (f g : Nat → Int32) (c : Nat), c < 6 → va_cpy f g 0 0 6 c = f c := fun f g c hc => by
    rw [pk_cpy_in (by omega) (by omega)]; congr 1; omega
  intro c hc
  rw [key _ _ c (by omega), key _ _ c (by omega), key _ _ c (by omega), key _ _ c (by omega)]
  exact h c hc
set_option maxHeartbeats 4000000 in
set_option maxRecDepth 100000 in
theorem c_J7_fill_53178 (l : Launch) (D : va_G) (cy : Nat → ClassId) (a0 n : Nat) (hn : n < 2 ^ 31) (f : Nat → Int32) (v : Int32) : q_Wv l yJ7_fill_53178 wsJ7_fill_53178 1 D cy [(a0, .inl (cy 0, n, .inl f))] [.ref a0, .int (v)] (fun u => ∃ g : Nat → Int32, (∀ j, j < n → g j = v) ∧ u = [(a0, .inl (cy 0, n, .inl g))]) := by
  refine q_wv_of (cc := cJ7_fill_53178) (maxL := 4) (ret := none) (by decide) rfl (Nat.le_of_ble_eq_true rfl) ?_
  intro pg en s mi args below meth cd A hC hA hK H locs hP hD hS ls hl
  obtain ⟨hx, hb, hr, hml, hown, hts, hlocks⟩ := hC
  have hl : lv_has ls 4 [(0, .ref a0), (1, .int (v))] := hl
  refine lv_iconst (v := nI 0) hx hb dJ7_fill_53178_0 (by decide) ?_
  refine lv_istore_n (lv' := [(2, .int (nI 0)), (0, .ref a0), (1, .int (v))]) hx hb dJ7_fill_53178_1 rfl hl (by decide) rfl (fun ls hl => ?_)
  refine lv_aload_n hx hb dJ7_fill_53178_2 rfl (lv_at hl 1 rfl) ?_
  refine va_alen (v := nI n) hx hb hK.1 hP 0 0 rfl rfl rfl dJ7_fill_53178_3 ?_
  refine lv_istore_n (lv' := [(3, .int (nI n)), (2, .int (nI 0)), (0, .ref a0), (1, .int (v))]) hx hb dJ7_fill_53178_4 rfl hl (by decide) rfl (fun ls hl => ?_)
  have L5_7 : ∀ (fu i : Nat), i ≤ n → n < i + fu → ∀ (H : Heap) (locs : List Loc), va_P D vwCl [(a0, .inl (cy 0, n, .inl (fa_fill (fun _ => v) f i)))] H → va_D A [(a0, .inl (cy 0, n, .inl (fa_fill (fun _ => v) f i)))] → va_S A s.heap H locs → ∀ ls : Array Slot, lv_has ls 4 [(0, .ref a0), (1, .int (v)), (2, .int (nI i)), (3, .int (nI n))] → W pg l en (q_rm 1) s mi args below meth cd H locs 0 0 (MQ below (va_Qv (fun u => ∃ g : Nat → Int32, (∀ j, j < n → g j = v) ∧ u = [(a0, .inl (cy 0, n, .inl g))]) (fun (u : va_W) t => va_P D vwCl u t.heap ∧ va_D A u) A) args s 0 0 A) (F0 mi 5 ls []) := by
    intro fu
    induction fu with
    | zero =>
      intro i h1 h2
      exact absurd h2 (by omega)
    | succ fu ih5 =>
      intro i h1_5 h2_5 H locs hP hD hS ls hl
      refine lv_iload_n hx hb dJ7_fill_53178_5 rfl (lv_at hl 2 rfl) ?_
      refine lv_iload_n hx hb dJ7_fill_53178_6 rfl (lv_at hl 3 rfl) ?_
      refine q_icmp_ge (tgt := 20) hx hb dJ7_fill_53178_7 (by decide) (by omega) (by omega) (fun c1 => ?_) (fun c1 => ?_)
      · have hP9 := hP
        have hD9 := hD
        exact q_wvret hx hb hr hlocks dJ7_fill_53178_20 hP9 hD9 hS (⟨_, fun j hj => fa_fill_in (by omega), rfl⟩)
      · refine lv_aload_n hx hb dJ7_fill_53178_10 rfl (lv_at hl 0 rfl) ?_
        refine lv_iload_n hx hb dJ7_fill_53178_11 rfl (lv_at hl 2 rfl) ?_
        refine lv_iload_n hx hb dJ7_fill_53178_12 rfl (lv_at hl 1 rfl) ?_
        refine q_iast (j := i) hx hb hK hP hD hS 0 rfl (by omega) (by omega) dJ7_fill_53178_13 (fun H locs hP hD hS => ?_)
        have hP : va_P D vwCl [(a0, .inl (cy 0, n, .inl (upd (fa_fill (fun _ => v) f i) i v)))] H := hP
        have hD : va_D A [(a0, .inl (cy 0, n, .inl (upd (fa_fill (fun _ => v) f i) i v)))] := hD
        refine lv_iinc (v := nI (i + 1)) (lv' := [(2, .int (nI (i + 1))), (0, .ref a0), (1, .int (v)), (3, .int (nI n))]) hx hb dJ7_fill_53178_14 hl (k := 2) rfl (q_inc i 1) (by decide) rfl (fun ls hl => ?_)
        refine lv_goto (tgt := 5) hx hb dJ7_fill_53178_17 (by decide) ?_
        have hP := q_Pc (w1 := [(a0, .inl (cy 0, n, .inl (upd (fa_fill (fun _ => v) f i) i v)))]) (w2 := [(a0, .inl (cy 0, n, .inl (fa_fill (fun _ => v) f (i + 1))))]) (q_c1 (f := fun z0 => ([(a0, .inl (cy 0, n, .inl z0))] : va_W)) (show (upd (fa_fill (fun _ => v) f i) i v : Nat → Int32) = fa_fill (fun _ => v) f (i + 1) from fa_fill_succ (fun _ => v) f i)) hP
        have hD := q_Dc (w1 := [(a0, .inl (cy 0, n, .inl (upd (fa_fill (fun _ => v) f i) i v)))]) (w2 := [(a0, .inl (cy 0, n, .inl (fa_fill (fun _ => v) f (i + 1))))]) (q_c1 (f := fun z0 => ([(a0, .inl (cy 0, n, .inl z0))] : va_W)) (show (upd (fa_fill (fun _ => v) f i) i v : Nat → Int32) = fa_fill (fun _ => v) f (i + 1) from fa_fill_succ (fun _ => v) f i)) hD
        exact ih5 (i + 1) (by omega) (by omega) H locs hP hD hS ls (lv_sub (l' := [(0, .ref a0), (1, .int (v)), (2, .int (nI (i + 1))), (3, .int (nI n))]) hl [1, 2, 0, 3] rfl)
  have hP := q_Pc (w1 := [(a0, .inl (cy 0, n, .inl f))]) (w2 := [(a0, .inl (cy 0, n, .inl (fa_fill (fun _ => v) f 0)))]) (q_c1 (f := fun z0 => ([(a0, .inl (cy 0, n, .inl z0))] : va_W)) (show (f : Nat → Int32) = fa_fill (fun _ => v) f 0 from (fa_fill_0 _ _).symm)) hP
  have hD := q_Dc (w1 := [(a0, .inl (cy 0, n, .inl f))]) (w2 := [(a0, .inl (cy 0, n, .inl (fa_fill (fun _ => v) f 0)))]) (q_c1 (f := fun z0 => ([(a0, .inl (cy 0, n, .inl z0))] : va_W)) (show (f : Nat → Int32) = fa_fill (fun _ => v) f 0 from (fa_fill_0 _ _).symm)) hD
  exact L5_7 (n + 1) 0 (by omega) (by omega) H locs hP hD hS ls (lv_sub (l' := [(0, .ref a0), (1, .int (v)), (2, .int (nI 0)), (3, .int (nI n))]) hl [2, 3, 1, 0] rfl)
theorem nX2_become_0 : ∀ w ∈ wsX20, w ∈ wsX2_become := by decide +kernel
theorem mX2_become_1 : Cond.fieldLink RX2 24 "ClueLeave$City" "suspects" "I" ∈ wsX2_become := by decide +kernel
theorem mX2_become_2 : Cond.fieldLink RX2 31 "ClueLeave$City" "sunday" "I" ∈ wsX2_become := by decide +kernel
theorem mX2_become_3 : Cond.fieldLink RX2 34 "ClueLeave$City" "day" "I" ∈ wsX2_become := by decide +kernel
theorem mX2_become_4 : Cond.fieldLink RX2 28 "ClueLeave$City" "clues" "I" ∈ wsX2_become := by decide +kernel
theorem mX2_become_5 : Cond.fieldLink RX2 37 "ClueLeave$City" "bribed" "I" ∈ wsX2_become := by decide +kernel
theorem mX2_become_6 : Cond.fieldLink RX2 9 "ClueLeave$City" "kinds" "[I" ∈ wsX2_become := by decide +kernel
theorem mX2_become_7 : Cond.methodLink RX2 40 arraycopyName ∈ wsX2_become := by decide +kernel
theorem mX2_become_8 : Cond.native arraycopyName ∈ wsX2_become := by decide +kernel
theorem mX2_become_9 : Cond.static arraycopyName ∈ wsX2_become := by decide +kernel
theorem mX2_become_10 : Cond.initialized "java/lang/System" ∈ wsX2_become := by decide +kernel
theorem mX2_become_11 : Cond.fieldLink RX2 15 "ClueLeave$City" "tells" "[I" ∈ wsX2_become := by decide +kernel
theorem mX2_become_12 : Cond.fieldLink RX2 18 "ClueLeave$City" "every" "[I" ∈ wsX2_become := by decide +kernel
theorem mX2_become_13 : Cond.fieldLink RX2 21 "ClueLeave$City" "off" "[I" ∈ wsX2_become := by decide +kernel
set_option maxHeartbeats 4000000 in
set_option maxRecDepth 100000 in
theorem c_X2_become (l : Launch) (D : va_G) (cy : Nat → ClassId) (j0 jk jt je jo : Nat) (x0 x1 x2 x3 x4 : Int32) (gk gt ge go : Nat → Int32) (h kA tA eA oA : Nat) (w : Nat → Nat) (fk ft fe fo : Nat → Int32) (hw : ctIs w fk ft fe fo) (hv : ctOk w) : q_Wv l yX2_become wsX2_become 1 D cy [(j0, .inr (2, [.int (x0), .int (x1), .int (x2), .int (x3), .int (x4), .ref jk, .ref jt, .ref je, .ref jo])), (jk, .inl (cy 0, 6, .inl gk)), (jt, .inl (cy 0, 6, .inl gt)), (je, .inl (cy 0, 6, .inl ge)), (jo, .inl (cy 0, 6, .inl go)), (h, .inr (2, [.int (nI (w 0)), .int (nI (w 1)), .int (nI (w 2)), .int (nI (w 4)), .int (nI (w 3)), .ref kA, .ref tA, .ref eA, .ref oA])), (kA, .inl (cy 0, 6, .inl fk)), (tA, .inl (cy 0, 6, .inl ft)), (eA, .inl (cy 0, 6, .inl fe)), (oA, .inl (cy 0, 6, .inl fo))] [.ref j0, .ref h] (fun u => ∃ nk nt ne no : Nat → Int32, ctIs w nk nt ne no ∧ u = [(j0, .inr (2, [.int (nI (w 0)), .int (nI (w 1)), .int (nI (w 2)), .int (nI (w 4)), .int (nI (w 3)), .ref jk, .ref jt, .ref je, .ref jo])), (jk, .inl (cy 0, 6, .inl nk)), (jt, .inl (cy 0, 6, .inl nt)), (je, .inl (cy 0, 6, .inl ne)), (jo, .inl (cy 0, 6, .inl no)), (h, .inr (2, [.int (nI (w 0)), .int (nI (w 1)), .int (nI (w 2)), .int (nI (w 4)), .int (nI (w 3)), .ref kA, .ref tA, .ref eA, .ref oA])), (kA, .inl (cy 0, 6, .inl fk)), (tA, .inl (cy 0, 6, .inl ft)), (eA, .inl (cy 0, 6, .inl fe)), (oA, .inl (cy 0, 6, .inl fo))]) := by
  refine q_wv_of (cc := cX2_become) (maxL := 2) (ret := none) (by decide) rfl (Nat.le_of_ble_eq_true rfl) ?_
  intro pg en s mi args below meth cd A hC hA hK H locs hP hD hS ls hl
  obtain ⟨hx, hb, hr, hml, hown, hts, hlocks⟩ := hC
  have hl : lv_has ls 2 [(0, .ref j0), (1, .ref h)] := hl
  obtain ⟨hv0, hv1, hv2, hv3, hv4, hvc⟩ := id hv
  refine lv_aload_n hx hb dX2_become_0 rfl (lv_at hl 0 rfl) ?_
  refine lv_aload_n hx hb dX2_become_1 rfl (lv_at hl 1 rfl) ?_
  refine va_get (D := D) (ci := 2) (v := .int (nI (w 0))) (C := RX2) (T := TX2) (N := 9) hx hb hts nX2_become_0 hown hK.1 hP 5 rfl rfl 0 (by decide) (hts _ mX2_become_1) (fun _ h9 => h9) rfl dX2_become_2 ?_
  refine va_put (D := D) (ci := 2) (v := .int (nI (w 0))) (ty := .int) (C := RX2) (T := TX2) (N := 9) hx hb hts nX2_become_0 tyX2 tyX2_ok nmX2 hown hK.1 hP hD hS 0 rfl rfl 0 (by decide) (hts _ mX2_become_1) (fun _ h9 => h9) rfl (by decide +kernel) rfl rfl (Nat.le_of_ble_eq_true rfl) dX2_become_5 (fun H locs hP hD hS => ?_)
  have hP : va_P D vwCl [(j0, .inr (2, [.int (nI (w 0)), .int (x1), .int (x2), .int (x3), .int (x4), .ref jk, .ref jt, .ref je, .ref jo])), (jk, .inl (cy 0, 6, .inl gk)), (jt, .inl (cy 0, 6, .inl gt)), (je, .inl (cy 0, 6, .inl ge)), (jo, .inl (cy 0, 6, .inl go)), (h, .inr (2, [.int (nI (w 0)), .int (nI (w 1)), .int (nI (w 2)), .int (nI (w 4)), .int (nI (w 3)), .ref kA, .ref tA, .ref eA, .ref oA])), (kA, .inl (cy 0, 6, .inl fk)), (tA, .inl (cy 0, 6, .inl ft)), (eA, .inl (cy 0, 6, .inl fe)), (oA, .inl (cy 0, 6, .inl fo))] H := hP
  have hD : va_D A [(j0, .inr (2, [.int (nI (w 0)), .int (x1), .int (x2), .int (x3), .int (x4), .ref jk, .ref jt, .ref je, .ref jo])), (jk, .inl (cy 0, 6, .inl gk)), (jt, .inl (cy 0, 6, .inl gt)), (je, .inl (cy 0, 6, .inl ge)), (jo, .inl (cy 0, 6, .inl go)), (h, .inr (2, [.int (nI (w 0)), .int (nI (w 1)), .int (nI (w 2)), .int (nI (w 4)), .int (nI (w 3)), .ref kA, .ref tA, .ref eA, .ref oA])), (kA, .inl (cy 0, 6, .inl fk)), (tA, .inl (cy 0, 6, .inl ft)), (eA, .inl (cy 0, 6, .inl fe)), (oA, .inl (cy 0, 6, .inl fo))] := hD
  refine lv_aload_n hx hb dX2_become_8 rfl (lv_at hl 0 rfl) ?_
  refine lv_aload_n hx hb dX2_become_9 rfl (lv_at hl 1 rfl) ?_
  refine va_get (D := D) (ci := 2) (v := .int (nI (w 1))) (C := RX2) (T := TX2) (N := 9) hx hb hts nX2_become_0 hown hK.1 hP 5 rfl rfl 1 (by decide) (hts _ mX2_become_2) (fun _ h9 => h9) rfl dX2_become_10 ?_
  refine va_put (D := D) (ci := 2) (v := .int (nI (w 1))) (ty := .int) (C := RX2) (T := TX2) (N := 9) hx hb hts nX2_become_0 tyX2 tyX2_ok nmX2 hown hK.1 hP hD hS 0 rfl rfl 1 (by decide) (hts _ mX2_become_2) (fun _ h9 => h9) rfl (by decide +kernel) rfl rfl (Nat.le_of_ble_eq_true rfl) dX2_become_13 (fun H locs hP hD hS => ?_)
  have hP : va_P D vwCl [(j0, .inr (2, [.int (nI (w 0)), .int (nI (w 1)), .int (x2), .int (x3), .int (x4), .ref jk, .ref jt, .ref je, .ref jo])), (jk, .inl (cy 0, 6, .inl gk)), (jt, .inl (cy 0, 6, .inl gt)), (je, .inl (cy 0, 6, .inl ge)), (jo, .inl (cy 0, 6, .inl go)), (h, .inr (2, [.int (nI (w 0)), .int (nI (w 1)), .int (nI (w 2)), .int (nI (w 4)), .int (nI (w 3)), .ref kA, .ref tA, .ref eA, .ref oA])), (kA, .inl (cy 0, 6, .inl fk)), (tA, .inl (cy 0, 6, .inl ft)), (eA, .inl (cy 0, 6, .inl fe)), (oA, .inl (cy 0, 6, .inl fo))] H := hP
  have hD : va_D A [(j0, .inr (2, [.int (nI (w 0)), .int (nI (w 1)), .int (x2), .int (x3), .int (x4), .ref jk, .ref jt, .ref je, .ref jo])), (jk, .inl (cy 0, 6, .inl gk)), (jt, .inl (cy 0, 6, .inl gt)), (je, .inl (cy 0, 6, .inl ge)), (jo, .inl (cy 0, 6, .inl go)), (h, .inr (2, [.int (nI (w 0)), .int (nI (w 1)), .int (nI (w 2)), .int (nI (w 4)), .int (nI (w 3)), .ref kA, .ref tA, .ref eA, .ref oA])), (kA, .inl (cy 0, 6, .inl fk)), (tA, .inl (cy 0, 6, .inl ft)), (eA, .inl (cy 0, 6, .inl fe)), (oA, .inl (cy 0, 6, .inl fo))] := hD
  refine lv_aload_n hx hb dX2_become_16 rfl (lv_at hl 0 rfl) ?_
  refine lv_aload_n hx hb dX2_become_17 rfl (lv_at hl 1 rfl) ?_
  refine va_get (D := D) (ci := 2) (v := .int (nI (w 2))) (C := RX2) (T := TX2) (N := 9) hx hb hts nX2_become_0 hown hK.1 hP 5 rfl rfl 2 (by decide) (hts _ mX2_become_3) (fun _ h9 => h9) rfl dX2_become_18 ?_
  refine va_put (D := D) (ci := 2) (v := .int (nI (w 2))) (ty := .int) (C := RX2) (T := TX2) (N := 9) hx hb hts nX2_become_0 tyX2 tyX2_ok nmX2 hown hK.1 hP hD hS 0 rfl rfl 2 (by decide) (hts _ mX2_become_3) (fun _ h9 => h9) rfl (by decide +kernel) rfl rfl (Nat.le_of_ble_eq_true rfl) dX2_become_21 (fun H locs hP hD hS => ?_)
  have hP : va_P D vwCl [(j0, .inr (2, [.int (nI (w 0)), .int (nI (w 1)), .int (nI (w 2)), .int (x3), .int (x4), .ref jk, .ref jt, .ref je, .ref jo])), (jk, .inl (cy 0, 6, .inl gk)), (jt, .inl (cy 0, 6, .inl gt)), (je, .inl (cy 0, 6, .inl ge)), (jo, .inl (cy 0, 6, .inl go)), (h, .inr (2, [.int (nI (w 0)), .int (nI (w 1)), .int (nI (w 2)), .int (nI (w 4)), .int (nI (w 3)), .ref kA, .ref tA, .ref eA, .ref oA])), (kA, .inl (cy 0, 6, .inl fk)), (tA, .inl (cy 0, 6, .inl ft)), (eA, .inl (cy 0, 6, .inl fe)), (oA, .inl (cy 0, 6, .inl fo))] H := hP
  have hD : va_D A [(j0, .inr (2, [.int (nI (w 0)), .int (nI (w 1)), .int (nI (w 2)), .int (x3), .int (x4), .ref jk, .ref jt, .ref je, .ref jo])), (jk, .inl (cy 0, 6, .inl gk)), (jt, .inl (cy 0, 6, .inl gt)), (je, .inl (cy 0, 6, .inl ge)), (jo, .inl (cy 0, 6, .inl go)), (h, .inr (2, [.int (nI (w 0)), .int (nI (w 1)), .int (nI (w 2)), .int (nI (w 4)), .int (nI (w 3)), .ref kA, .ref tA, .ref eA, .ref oA])), (kA, .inl (cy 0, 6, .inl fk)), (tA, .inl (cy 0, 6, .inl ft)), (eA, .inl (cy 0, 6, .inl fe)), (oA, .inl (cy 0, 6, .inl fo))] := hD
  refine lv_aload_n hx hb dX2_become_24 rfl (lv_at hl 0 rfl) ?_
  refine lv_aload_n hx hb dX2_become_25 rfl (lv_at hl 1 rfl) ?_
  refine va_get (D := D) (ci := 2) (v := .int (nI (w 4))) (C := RX2) (T := TX2) (N := 9) hx hb hts nX2_become_0 hown hK.1 hP 5 rfl rfl 3 (by decide) (hts _ mX2_become_4) (fun _ h9 => h9) rfl dX2_become_26 ?_
  refine va_put (D := D) (ci := 2) (v := .int (nI (w 4))) (ty := .int) (C := RX2) (T := TX2) (N := 9) hx hb hts nX2_become_0 tyX2 tyX2_ok nmX2 hown hK.1 hP hD hS 0 rfl rfl 3 (by decide) (hts _ mX2_become_4) (fun _ h9 => h9) rfl (by decide +kernel) rfl rfl (Nat.le_of_ble_eq_true rfl) dX2_become_29 (fun H locs hP hD hS => ?_)
  have hP : va_P D vwCl [(j0, .inr (2, [.int (nI (w 0)), .int (nI (w 1)), .int (nI (w 2)), .int (nI (w 4)), .int (x4), .ref jk, .ref jt, .ref je, .ref jo])), (jk, .inl (cy 0, 6, .inl gk)), (jt, .inl (cy 0, 6, .inl gt)), (je, .inl (cy 0, 6, .inl ge)), (jo, .inl (cy 0, 6, .inl go)), (h, .inr (2, [.int (nI (w 0)), .int (nI (w 1)), .int (nI (w 2)), .int (nI (w 4)), .int (nI (w 3)), .ref kA, .ref tA, .ref eA, .ref oA])), (kA, .inl (cy 0, 6, .inl fk)), (tA, .inl (cy 0, 6, .inl ft)), (eA, .inl (cy 0, 6, .inl fe)), (oA, .inl (cy 0, 6, .inl fo))] H := hP
  have hD : va_D A [(j0, .inr (2, [.int (nI (w 0)), .int (nI (w 1)), .int (nI (w 2)), .int (nI (w 4)), .int (x4), .ref jk, .ref jt, .ref je, .ref jo])), (jk, .inl (cy 0, 6, .inl gk)), (jt, .inl (cy 0, 6, .inl gt)), (je, .inl (cy 0, 6, .inl ge)), (jo, .inl (cy 0, 6, .inl go)), (h, .inr (2, [.int (nI (w 0)), .int (nI (w 1)), .int (nI (w 2)), .int (nI (w 4)), .int (nI (w 3)), .ref kA, .ref tA, .ref eA, .ref oA])), (kA, .inl (cy 0, 6, .inl fk)), (tA, .inl (cy 0, 6, .inl ft)), (eA, .inl (cy 0, 6, .inl fe)), (oA, .inl (cy 0, 6, .inl fo))] := hD
  refine lv_aload_n hx hb dX2_become_32 rfl (lv_at hl 0 rfl) ?_
  refine lv_aload_n hx hb dX2_become_33 rfl (lv_at hl 1 rfl) ?_
  refine va_get (D := D) (ci := 2) (v := .int (nI (w 3))) (C := RX2) (T := TX2) (N := 9) hx hb hts nX2_become_0 hown hK.1 hP 5 rfl rfl 4 (by decide) (hts _ mX2_become_5) (fun _ h9 => h9) rfl dX2_become_34 ?_
  refine va_put (D := D) (ci := 2) (v := .int (nI (w 3))) (ty := .int) (C := RX2) (T := TX2) (N := 9) hx hb hts nX2_become_0 tyX2 tyX2_ok nmX2 hown hK.1 hP hD hS 0 rfl rfl 4 (by decide) (hts _ mX2_become_5) (fun _ h9 => h9) rfl (by decide +kernel) rfl rfl (Nat.le_of_ble_eq_true rfl) dX2_become_37 (fun H locs hP hD hS => ?_)
  have hP : va_P D vwCl [(j0, .inr (2, [.int (nI (w 0)), .int (nI (w 1)), .int (nI (w 2)), .int (nI (w 4)), .int (nI (w 3)), .ref jk, .ref jt, .ref je, .ref jo])), (jk, .inl (cy 0, 6, .inl gk)), (jt, .inl (cy 0, 6, .inl gt)), (je, .inl (cy 0, 6, .inl ge)), (jo, .inl (cy 0, 6, .inl go)), (h, .inr (2, [.int (nI (w 0)), .int (nI (w 1)), .int (nI (w 2)), .int (nI (w 4)), .int (nI (w 3)), .ref kA, .ref tA, .ref eA, .ref oA])), (kA, .inl (cy 0, 6, .inl fk)), (tA, .inl (cy 0, 6, .inl ft)), (eA, .inl (cy 0, 6, .inl fe)), (oA, .inl (cy 0, 6, .inl fo))] H := hP
  have hD : va_D A [(j0, .inr (2, [.int (nI (w 0)), .int (nI (w 1)), .int (nI (w 2)), .int (nI (w 4)), .int (nI (w 3)), .ref jk, .ref jt, .ref je, .ref jo])), (jk, .inl (cy 0, 6, .inl gk)), (jt, .inl (cy 0, 6, .inl gt)), (je, .inl (cy 0, 6, .inl ge)), (jo, .inl (cy 0, 6, .inl go)), (h, .inr (2, [.int (nI (w 0)), .int (nI (w 1)), .int (nI (w 2)), .int (nI (w 4)), .int (nI (w 3)), .ref kA, .ref tA, .ref eA, .ref oA])), (kA, .inl (cy 0, 6, .inl fk)), (tA, .inl (cy 0, 6, .inl ft)), (eA, .inl (cy 0, 6, .inl fe)), (oA, .inl (cy 0, 6, .inl fo))] := hD
  refine lv_aload_n hx hb dX2_become_40 rfl (lv_at hl 1 rfl) ?_
  refine va_get (D := D) (ci := 2) (v := .ref kA) (C := RX2) (T := TX2) (N := 9) hx hb hts nX2_become_0 hown hK.1 hP 5 rfl rfl 5 (by decide) (hts _ mX2_become_6) (fun _ h9 => h9) rfl dX2_become_41 ?_
  refine lv_iconst (v := nI 0) hx hb dX2_become_44 (by decide) ?_
  refine lv_aload_n hx hb dX2_become_45 rfl (lv_at hl 0 rfl) ?_
  refine va_get (D := D) (ci := 2) (v := .ref jk) (C := RX2) (T := TX2) (N := 9) hx hb hts nX2_become_0 hown hK.1 hP 0 rfl rfl 5 (by decide) (hts _ mX2_become_6) (fun _ h9 => h9) rfl dX2_become_46 ?_
  refine lv_iconst (v := nI 0) hx hb dX2_become_49 (by decide) ?_
  refine lv_bipush (v := nI 6) hx hb dX2_become_50 (by decide) ?_
  refine q_copy (sp := 0) (dp := 0) (n := 6) hx hb (hml.trans hl.1.symm) hown (hts _ mX2_become_7) (hts _ mX2_become_8) (hts _ mX2_become_9) (hts _ mX2_become_10) hK hP hD hS 6 1 rfl rfl (by decide) (by decide) (by decide) (by omega) (by omega) (Nat.le_of_ble_eq_true rfl) (by decide) dX2_become_52 (fun H locs hP hD hS => ?_)
  have hP : va_P D vwCl [(j0, .inr (2, [.int (nI (w 0)), .int (nI (w 1)), .int (nI (w 2)), .int (nI (w 4)), .int (nI (w 3)), .ref jk, .ref jt, .ref je, .ref jo])), (jk, .inl (cy 0, 6, .inl (va_cpy fk gk 0 0 6))), (jt, .inl (cy 0, 6, .inl gt)), (je, .inl (cy 0, 6, .inl ge)), (jo, .inl (cy 0, 6, .inl go)), (h, .inr (2, [.int (nI (w 0)), .int (nI (w 1)), .int (nI (w 2)), .int (nI (w 4)), .int (nI (w 3)), .ref kA, .ref tA, .ref eA, .ref oA])), (kA, .inl (cy 0, 6, .inl fk)), (tA, .inl (cy 0, 6, .inl ft)), (eA, .inl (cy 0, 6, .inl fe)), (oA, .inl (cy 0, 6, .inl fo))] H := hP
  have hD : va_D A [(j0, .inr (2, [.int (nI (w 0)), .int (nI (w 1)), .int (nI (w 2)), .int (nI (w 4)), .int (nI (w 3)), .ref jk, .ref jt, .ref je, .ref jo])), (jk, .inl (cy 0, 6, .inl (va_cpy fk gk 0 0 6))), (jt, .inl (cy 0, 6, .inl gt)), (je, .inl (cy 0, 6, .inl ge)), (jo, .inl (cy 0, 6, .inl go)), (h, .inr (2, [.int (nI (w 0)), .int (nI (w 1)), .int (nI (w 2)), .int (nI (w 4)), .int (nI (w 3)), .ref kA, .ref tA, .ref eA, .ref oA])), (kA, .inl (cy 0, 6, .inl fk)), (tA, .inl (cy 0, 6, .inl ft)), (eA, .inl (cy 0, 6, .inl fe)), (oA, .inl (cy 0, 6, .inl fo))] := hD
  refine lv_aload_n hx hb dX2_become_55 rfl (lv_at hl 1 rfl) ?_
  refine va_get (D := D) (ci := 2) (v := .ref tA) (C := RX2) (T := TX2) (N := 9) hx hb hts nX2_become_0 hown hK.1 hP 5 rfl rfl 6 (by decide) (hts _ mX2_become_11) (fun _ h9 => h9) rfl dX2_become_56 ?_
  refine lv_iconst (v := nI 0) hx hb dX2_become_59 (by decide) ?_
  refine lv_aload_n hx hb dX2_become_60 rfl (lv_at hl 0 rfl) ?_
  refine va_get (D := D) (ci := 2) (v := .ref jt) (C := RX2) (T := TX2) (N := 9) hx hb hts nX2_become_0 hown hK.1 hP 0 rfl rfl 6 (by decide) (hts _ mX2_become_11) (fun _ h9 => h9) rfl dX2_become_61 ?_
  refine lv_iconst (v := nI 0) hx hb dX2_become_64 (by decide) ?_
  refine lv_bipush (v := nI 6) hx hb dX2_become_65 (by decide) ?_
  refine q_copy (sp := 0) (dp := 0) (n := 6) hx hb (hml.trans hl.1.symm) hown (hts _ mX2_become_7) (hts _ mX2_become_8) (hts _ mX2_become_9) (hts _ mX2_become_10) hK hP hD hS 7 2 rfl rfl (by decide) (by decide) (by decide) (by omega) (by omega) (Nat.le_of_ble_eq_true rfl) (by decide) dX2_become_67 (fun H locs hP hD hS => ?_)
  have hP : va_P D vwCl [(j0, .inr (2, [.int (nI (w 0)), .int (nI (w 1)), .int (nI (w 2)), .int (nI (w 4)), .int (nI (w 3)), .ref jk, .ref jt, .ref je, .ref jo])), (jk, .inl (cy 0, 6, .inl (va_cpy fk gk 0 0 6))), (jt, .inl (cy 0, 6, .inl (va_cpy ft gt 0 0 6))), (je, .inl (cy 0, 6, .inl ge)), (jo, .inl (cy 0, 6, .inl go)), (h, .inr (2, [.int (nI (w 0)), .int (nI (w 1)), .int (nI (w 2)), .int (nI (w 4)), .int (nI (w 3)), .ref kA, .ref tA, .ref eA, .ref oA])), (kA, .inl (cy 0, 6, .inl fk)), (tA, .inl (cy 0, 6, .inl ft)), (eA, .inl (cy 0, 6, .inl fe)), (oA, .inl (cy 0, 6, .inl fo))] H := hP
  have hD : va_D A [(j0, .inr (2, [.int (nI (w 0)), .int (nI (w 1)), .int (nI (w 2)), .int (nI (w 4)), .int (nI (w 3)), .ref jk, .ref jt, .ref je, .ref jo])), (jk, .inl (cy 0, 6, .inl (va_cpy fk gk 0 0 6))), (jt, .inl (cy 0, 6, .inl (va_cpy ft gt 0 0 6))), (je, .inl (cy 0, 6, .inl ge)), (jo, .inl (cy 0, 6, .inl go)), (h, .inr (2, [.int (nI (w 0)), .int (nI (w 1)), .int (nI (w 2)), .int (nI (w 4)), .int (nI (w 3)), .ref kA, .ref tA, .ref eA, .ref oA])), (kA, .inl (cy 0, 6, .inl fk)), (tA, .inl (cy 0, 6, .inl ft)), (eA, .inl (cy 0, 6, .inl fe)), (oA, .inl (cy 0, 6, .inl fo))] := hD
  refine lv_aload_n hx hb dX2_become_70 rfl (lv_at hl 1 rfl) ?_
  refine va_get (D := D) (ci := 2) (v := .ref eA) (C := RX2) (T := TX2) (N := 9) hx hb hts nX2_become_0 hown hK.1 hP 5 rfl rfl 7 (by decide) (hts _ mX2_become_12) (fun _ h9 => h9) rfl dX2_become_71 ?_
  refine lv_iconst (v := nI 0) hx hb dX2_become_74 (by decide) ?_
  refine lv_aload_n hx hb dX2_become_75 rfl (lv_at hl 0 rfl) ?_
  refine va_get (D := D) (ci := 2) (v := .ref je) (C := RX2) (T := TX2) (N := 9) hx hb hts nX2_become_0 hown hK.1 hP 0 rfl rfl 7 (by decide) (hts _ mX2_become_12) (fun _ h9 => h9) rfl dX2_become_76 ?_
  refine lv_iconst (v := nI 0) hx hb dX2_become_79 (by decide) ?_
  refine lv_bipush (v := nI 6) hx hb dX2_become_80 (by decide) ?_
  refine q_copy (sp := 0) (dp := 0) (n := 6) hx hb (hml.trans hl.1.symm) hown (hts _ mX2_become_7) (hts _ mX2_become_8) (hts _ mX2_become_9) (hts _ mX2_become_10) hK hP hD hS 8 3 rfl rfl (by decide) (by decide) (by decide) (by omega) (by omega) (Nat.le_of_ble_eq_true rfl) (by decide) dX2_become_82 (fun H locs hP hD hS => ?_)
  have hP : va_P D vwCl [(j0, .inr (2, [.int (nI (w 0)), .int (nI (w 1)), .int (nI (w 2)), .int (nI (w 4)), .int (nI (w 3)), .ref jk, .ref jt, .ref je, .ref jo])), (jk, .inl (cy 0, 6, .inl (va_cpy fk gk 0 0 6))), (jt, .inl (cy 0, 6, .inl (va_cpy ft gt 0 0 6))), (je, .inl (cy 0, 6, .inl (va_cpy fe ge 0 0 6))), (jo, .inl (cy 0, 6, .inl go)), (h, .inr (2, [.int (nI (w 0)), .int (nI (w 1)), .int (nI (w 2)), .int (nI (w 4)), .int (nI (w 3)), .ref kA, .ref tA, .ref eA, .ref oA])), (kA, .inl (cy 0, 6, .inl fk)), (tA, .inl (cy 0, 6, .inl ft)), (eA, .inl (cy 0, 6, .inl fe)), (oA, .inl (cy 0, 6, .inl fo))] H := hP
  have hD : va_D A [(j0, .inr (2, [.int (nI (w 0)), .int (nI (w 1)), .int (nI (w 2)), .int (nI (w 4)), .int (nI (w 3)), .ref jk, .ref jt, .ref je, .ref jo])), (jk, .inl (cy 0, 6, .inl (va_cpy fk gk 0 0 6))), (jt, .inl (cy 0, 6, .inl (va_cpy ft gt 0 0 6))), (je, .inl (cy 0, 6, .inl (va_cpy fe ge 0 0 6))), (jo, .inl (cy 0, 6, .inl go)), (h, .inr (2, [.int (nI (w 0)), .int (nI (w 1)), .int (nI (w 2)), .int (nI (w 4)), .int (nI (w 3)), .ref kA, .ref tA, .ref eA, .ref oA])), (kA, .inl (cy 0, 6, .inl fk)), (tA, .inl (cy 0, 6, .inl ft)), (eA, .inl (cy 0, 6, .inl fe)), (oA, .inl (cy 0, 6, .inl fo))] := hD
  refine lv_aload_n hx hb dX2_become_85 rfl (lv_at hl 1 rfl) ?_
  refine va_get (D := D) (ci := 2) (v := .ref oA) (C := RX2) (T := TX2) (N := 9) hx hb hts nX2_become_0 hown hK.1 hP 5 rfl rfl 8 (by decide) (hts _ mX2_become_13) (fun _ h9 => h9) rfl dX2_become_86 ?_
  refine lv_iconst (v := nI 0) hx hb dX2_become_89 (by decide) ?_
  refine lv_aload_n hx hb dX2_become_90 rfl (lv_at hl 0 rfl) ?_
  refine va_get (D := D) (ci := 2) (v := .ref jo) (C := RX2) (T := TX2) (N := 9) hx hb hts nX2_become_0 hown hK.1 hP 0 rfl rfl 8 (by decide) (hts _ mX2_become_13) (fun _ h9 => h9) rfl dX2_become_91 ?_
  refine lv_iconst (v := nI 0) hx hb dX2_become_94 (by decide) ?_
  refine lv_bipush (v := nI 6) hx hb dX2_become_95 (by decide) ?_
  refine q_copy (sp := 0) (dp := 0) (n := 6) hx hb (hml.trans hl.1.symm) hown (hts _ mX2_become_7) (hts _ mX2_become_8) (hts _ mX2_become_9) (hts _ mX2_become_10) hK hP hD hS 9 4 rfl rfl (by decide) (by decide) (by decide) (by omega) (by omega) (Nat.le_of_ble_eq_true rfl) (by decide) dX2_become_97 (fun H locs hP hD hS => ?_)
  have hP : va_P D vwCl [(j0, .inr (2, [.int (nI (w 0)), .int (nI (w 1)), .int (nI (w 2)), .int (nI (w 4)), .int (nI (w 3)), .ref jk, .ref jt, .ref je, .ref jo])), (jk, .inl (cy 0, 6, .inl (va_cpy fk gk 0 0 6))), (jt, .inl (cy 0, 6, .inl (va_cpy ft gt 0 0 6))), (je, .inl (cy 0, 6, .inl (va_cpy fe ge 0 0 6))), (jo, .inl (cy 0, 6, .inl (va_cpy fo go 0 0 6))), (h, .inr (2, [.int (nI (w 0)), .int (nI (w 1)), .int (nI (w 2)), .int (nI (w 4)), .int (nI (w 3)), .ref kA, .ref tA, .ref eA, .ref oA])), (kA, .inl (cy 0, 6, .inl fk)), (tA, .inl (cy 0, 6, .inl ft)), (eA, .inl (cy 0, 6, .inl fe)), (oA, .inl (cy 0, 6, .inl fo))] H := hP
  have hD : va_D A [(j0, .inr (2, [.int (nI (w 0)), .int (nI (w 1)), .int (nI (w 2)), .int (nI (w 4)), .int (nI (w 3)), .ref jk, .ref jt, .ref je, .ref jo])), (jk, .inl (cy 0, 6, .inl (va_cpy fk gk 0 0 6))), (jt, .inl (cy 0, 6, .inl (va_cpy ft gt 0 0 6))), (je, .inl (cy 0, 6, .inl (va_cpy fe ge 0 0 6))), (jo, .inl (cy 0, 6, .inl (va_cpy fo go 0 0 6))), (h, .inr (2, [.int (nI (w 0)), .int (nI (w 1)), .int (nI (w 2)), .int (nI (w 4)), .int (nI (w 3)), .ref kA, .ref tA, .ref eA, .ref oA])), (kA, .inl (cy 0, 6, .inl fk)), (tA, .inl (cy 0, 6, .inl ft)), (eA, .inl (cy 0, 6, .inl fe)), (oA, .inl (cy 0, 6, .inl fo))] := hD
  have hP9 := hP
  have hD9 := hD
  exact q_wvret hx hb hr hlocks dX2_become_100 hP9 hD9 hS (⟨_, _, _, _, ctIs_cpy hw hv4, rfl⟩)
theorem nX2_clear_0 : ∀ w ∈ wsX20, w ∈ wsX2_clear := by decide +kernel
theorem mX2_clear_1 : Cond.fieldLink RX2 24 "ClueLeave$City" "suspects" "I" ∈ wsX2_clear := by decide +kernel
theorem mX2_clear_2 : Cond.fieldLink RX2 31 "ClueLeave$City" "sunday" "I" ∈ wsX2_clear := by decide +kernel
theorem mX2_clear_3 : Cond.fieldLink RX2 34 "ClueLeave$City" "day" "I" ∈ wsX2_clear := by decide +kernel
theorem mX2_clear_4 : Cond.fieldLink RX2 28 "ClueLeave$City" "clues" "I" ∈ wsX2_clear := by decide +kernel
theorem mX2_clear_5 : Cond.fieldLink RX2 37 "ClueLeave$City" "bribed" "I" ∈ wsX2_clear := by decide +kernel
set_option maxHeartbeats 4000000 in
set_option maxRecDepth 100000 in
theorem c_X2_clear (l : Launch) (D : va_G) (cy : Nat → ClassId) (j0 jk jt je jo : Nat) (x0 x1 x2 x3 x4 : Int32) (gk gt ge go : Nat → Int32) : q_Wv l yX2_clear wsX2_clear 1 D cy [(j0, .inr (2, [.int (x0), .int (x1), .int (x2), .int (x3), .int (x4), .ref jk, .ref jt, .ref je, .ref jo])), (jk, .inl (cy 0, 6, .inl gk)), (jt, .inl (cy 0, 6, .inl gt)), (je, .inl (cy 0, 6, .inl ge)), (jo, .inl (cy 0, 6, .inl go))] [.ref j0] (fun u => u = [(j0, .inr (2, [.int (nI 0), .int (nI 0), .int (nI 0), .int (nI 0), .int (nI 0), .ref jk, .ref jt, .ref je, .ref jo])), (jk, .inl (cy 0, 6, .inl gk)), (jt, .inl (cy 0, 6, .inl gt)), (je, .inl (cy 0, 6, .inl ge)), (jo, .inl (cy 0, 6, .inl go))]) := by
  refine q_wv_of (cc := cX2_clear) (maxL := 1) (ret := none) (by decide) rfl (Nat.le_of_ble_eq_true rfl) ?_
  intro pg en s mi args below meth cd A hC hA hK H locs hP hD hS ls hl
  obtain ⟨hx, hb, hr, hml, hown, hts, hlocks⟩ := hC
  have hl : lv_has ls 1 [(0, .ref j0)] := hl
  refine lv_aload_n hx hb dX2_clear_0 rfl (lv_at hl 0 rfl) ?_
  refine lv_iconst (v := nI 0) hx hb dX2_clear_1 (by decide) ?_
  refine va_put (D := D) (ci := 2) (v := .int (nI 0)) (ty := .int) (C := RX2) (T := TX2) (N := 9) hx hb hts nX2_clear_0 tyX2 tyX2_ok nmX2 hown hK.1 hP hD hS 0 rfl rfl 0 (by decide) (hts _ mX2_clear_1) (fun _ h9 => h9) rfl (by decide +kernel) rfl rfl (Nat.le_of_ble_eq_true rfl) dX2_clear_2 (fun H locs hP hD hS => ?_)
  have hP : va_P D vwCl [(j0, .inr (2, [.int (nI 0), .int (x1), .int (x2), .int (x3), .int (x4), .ref jk, .ref jt, .ref je, .ref jo])), (jk, .inl (cy 0, 6, .inl gk)), (jt, .inl (cy 0, 6, .inl gt)), (je, .inl (cy 0, 6, .inl ge)), (jo, .inl (cy 0, 6, .inl go))] H := hP
  have hD : va_D A [(j0, .inr (2, [.int (nI 0), .int (x1), .int (x2), .int (x3), .int (x4), .ref jk, .ref jt, .ref je, .ref jo])), (jk, .inl (cy 0, 6, .inl gk)), (jt, .inl (cy 0, 6, .inl gt)), (je, .inl (cy 0, 6, .inl ge)), (jo, .inl (cy 0, 6, .inl go))] := hD
  refine lv_aload_n hx hb dX2_clear_5 rfl (lv_at hl 0 rfl) ?_
  refine lv_iconst (v := nI 0) hx hb dX2_clear_6 (by decide) ?_
  refine va_put (D := D) (ci := 2) (v := .int (nI 0)) (ty := .int) (C := RX2) (T := TX2) (N := 9) hx hb hts nX2_clear_0 tyX2 tyX2_ok nmX2 hown hK.1 hP hD hS 0 rfl rfl 1 (by decide) (hts _ mX2_clear_2) (fun _ h9 => h9) rfl (by decide +kernel) rfl rfl (Nat.le_of_ble_eq_true rfl) dX2_clear_7 (fun H locs hP hD hS => ?_)
  have hP : va_P D vwCl [(j0, .inr (2, [.int (nI 0), .int (nI 0), .int (x2), .int (x3), .int (x4), .ref jk, .ref jt, .ref je, .ref jo])), (jk, .inl (cy 0, 6, .inl gk)), (jt, .inl (cy 0, 6, .inl gt)), (je, .inl (cy 0, 6, .inl ge)), (jo, .inl (cy 0, 6, .inl go))] H := hP
  have hD : va_D A [(j0, .inr (2, [.int (nI 0), .int (nI 0), .int (x2), .int (x3), .int (x4), .ref jk, .ref jt, .ref je, .ref jo])), (jk, .inl (cy 0, 6, .inl gk)), (jt, .inl (cy 0, 6, .inl gt)), (je, .inl (cy 0, 6, .inl ge)), (jo, .inl (cy 0, 6, .inl go))] := hD
  refine lv_aload_n hx hb dX2_clear_10 rfl (lv_at hl 0 rfl) ?_
  refine lv_iconst (v := nI 0) hx hb dX2_clear_11 (by decide) ?_
  refine va_put (D := D) (ci := 2) (v := .int (nI 0)) (ty := .int) (C := RX2) (T := TX2) (N := 9) hx hb hts nX2_clear_0 tyX2 tyX2_ok nmX2 hown hK.1 hP hD hS 0 rfl rfl 2 (by decide) (hts _ mX2_clear_3) (fun _ h9 => h9) rfl (by decide +kernel) rfl rfl (Nat.le_of_ble_eq_true rfl) dX2_clear_12 (fun H locs hP hD hS => ?_)
  have hP : va_P D vwCl [(j0, .inr (2, [.int (nI 0), .int (nI 0), .int (nI 0), .int (x3), .int (x4), .ref jk, .ref jt, .ref je, .ref jo])), (jk, .inl (cy 0, 6, .inl gk)), (jt, .inl (cy 0, 6, .inl gt)), (je, .inl (cy 0, 6, .inl ge)), (jo, .inl (cy 0, 6, .inl go))] H := hP
  have hD : va_D A [(j0, .inr (2, [.int (nI 0), .int (nI 0), .int (nI 0), .int (x3), .int (x4), .ref jk, .ref jt, .ref je, .ref jo])), (jk, .inl (cy 0, 6, .inl gk)), (jt, .inl (cy 0, 6, .inl gt)), (je, .inl (cy 0, 6, .inl ge)), (jo, .inl (cy 0, 6, .inl go))] := hD
  refine lv_aload_n hx hb dX2_clear_15 rfl (lv_at hl 0 rfl) ?_
  refine lv_iconst (v := nI 0) hx hb dX2_clear_16 (by decide) ?_
  refine va_put (D := D) (ci := 2) (v := .int (nI 0)) (ty := .int) (C := RX2) (T := TX2) (N := 9) hx hb hts nX2_clear_0 tyX2 tyX2_ok nmX2 hown hK.1 hP hD hS 0 rfl rfl 3 (by decide) (hts _ mX2_clear_4) (fun _ h9 => h9) rfl (by decide +kernel) rfl rfl (Nat.le_of_ble_eq_true rfl) dX2_clear_17 (fun H locs hP hD hS => ?_)
  have hP : va_P D vwCl [(j0, .inr (2, [.int (nI 0), .int (nI 0), .int (nI 0), .int (nI 0), .int (x4), .ref jk, .ref jt, .ref je, .ref jo])), (jk, .inl (cy 0, 6, .inl gk)), (jt, .inl (cy 0, 6, .inl gt)), (je, .inl (cy 0, 6, .inl ge)), (jo, .inl (cy 0, 6, .inl go))] H := hP
  have hD : va_D A [(j0, .inr (2, [.int (nI 0), .int (nI 0), .int (nI 0), .int (nI 0), .int (x4), .ref jk, .ref jt, .ref je, .ref jo])), (jk, .inl (cy 0, 6, .inl gk)), (jt, .inl (cy 0, 6, .inl gt)), (je, .inl (cy 0, 6, .inl ge)), (jo, .inl (cy 0, 6, .inl go))] := hD
  refine lv_aload_n hx hb dX2_clear_20 rfl (lv_at hl 0 rfl) ?_
  refine lv_iconst (v := nI 0) hx hb dX2_clear_21 (by decide) ?_
  refine va_put (D := D) (ci := 2) (v := .int (nI 0)) (ty := .int) (C := RX2) (T := TX2) (N := 9) hx hb hts nX2_clear_0 tyX2 tyX2_ok nmX2 hown hK.1 hP hD hS 0 rfl rfl 4 (by decide) (hts _ mX2_clear_5) (fun _ h9 => h9) rfl (by decide +kernel) rfl rfl (Nat.le_of_ble_eq_true rfl) dX2_clear_22 (fun H locs hP hD hS => ?_)
  have hP : va_P D vwCl [(j0, .inr (2, [.int (nI 0), .int (nI 0), .int (nI 0), .int (nI 0), .int (nI 0), .ref jk, .ref jt, .ref je, .ref jo])), (jk, .inl (cy 0, 6, .inl gk)), (jt, .inl (cy 0, 6, .inl gt)), (je, .inl (cy 0, 6, .inl ge)), (jo, .inl (cy 0, 6, .inl go))] H := hP
  have hD : va_D A [(j0, .inr (2, [.int (nI 0), .int (nI 0), .int (nI 0), .int (nI 0), .int (nI 0), .ref jk, .ref jt, .ref je, .ref jo])), (jk, .inl (cy 0, 6, .inl gk)), (jt, .inl (cy 0, 6, .inl gt)), (je, .inl (cy 0, 6, .inl ge)), (jo, .inl (cy 0, 6, .inl go))] := hD
  have hP9 := hP
  have hD9 := hD
  exact q_wvret hx hb hr hlocks dX2_clear_25 hP9 hD9 hS (rfl)
theorem nX2_add_0 : ∀ w ∈ wsX20, w ∈ wsX2_add := by decide +kernel
theorem mX2_add_1 : Cond.fieldLink RX2 9 "ClueLeave$City" "kinds" "[I" ∈ wsX2_add := by decide +kernel
theorem mX2_add_2 : Cond.fieldLink RX2 28 "ClueLeave$City" "clues" "I" ∈ wsX2_add := by decide +kernel
theorem mX2_add_3 : Cond.fieldLink RX2 15 "ClueLeave$City" "tells" "[I" ∈ wsX2_add := by decide +kernel
theorem mX2_add_4 : Cond.fieldLink RX2 18 "ClueLeave$City" "every" "[I" ∈ wsX2_add := by decide +kernel
theorem mX2_add_5 : Cond.fieldLink RX2 21 "ClueLeave$City" "off" "[I" ∈ wsX2_add := by decide +kernel
set_option maxHeartbeats 4000000 in
set_option maxRecDepth 100000 in
theorem c_X2_add (l : Launch) (D : va_G) (cy : Nat → ClassId) (j0 jk jt je jo : Nat) (x0 x1 x2 x4 : Int32) (gk gt ge go : Nat → Int32) (n : Nat) (hn : n < 6) (v1 v2 v3 v4 : Int32) : q_Wv l yX2_add wsX2_add 1 D cy [(j0, .inr (2, [.int (x0), .int (x1), .int (x2), .int (nI n), .int (x4), .ref jk, .ref jt, .ref je, .ref jo])), (jk, .inl (cy 0, 6, .inl gk)), (jt, .inl (cy 0, 6, .inl gt)), (je, .inl (cy 0, 6, .inl ge)), (jo, .inl (cy 0, 6, .inl go))] [.ref j0, .int (v1), .int (v2), .int (v3), .int (v4)] (fun u => u = [(j0, .inr (2, [.int (x0), .int (x1), .int (x2), .int (nI (n + 1)), .int (x4), .ref jk, .ref jt, .ref je, .ref jo])), (jk, .inl (cy 0, 6, .inl (upd gk n v1))), (jt, .inl (cy 0, 6, .inl (upd gt n v2))), (je, .inl (cy 0, 6, .inl (upd ge n v3))), (jo, .inl (cy 0, 6, .inl (upd go n v4)))]) := by
  refine q_wv_of (cc := cX2_add) (maxL := 5) (ret := none) (by decide) rfl (Nat.le_of_ble_eq_true rfl) ?_
  intro pg en s mi args below meth cd A hC hA hK H locs hP hD hS ls hl
  obtain ⟨hx, hb, hr, hml, hown, hts, hlocks⟩ := hC
  have hl : lv_has ls 5 [(0, .ref j0), (1, .int (v1)), (2, .int (v2)), (3, .int (v3)), (4, .int (v4))] := hl
  refine lv_aload_n hx hb dX2_add_0 rfl (lv_at hl 0 rfl) ?_
  refine va_get (D := D) (ci := 2) (v := .ref jk) (C := RX2) (T := TX2) (N := 9) hx hb hts nX2_add_0 hown hK.1 hP 0 rfl rfl 5 (by decide) (hts _ mX2_add_1) (fun _ h9 => h9) rfl dX2_add_1 ?_
  refine lv_aload_n hx hb dX2_add_4 rfl (lv_at hl 0 rfl) ?_
  refine va_get (D := D) (ci := 2) (v := .int (nI n)) (C := RX2) (T := TX2) (N := 9) hx hb hts nX2_add_0 hown hK.1 hP 0 rfl rfl 3 (by decide) (hts _ mX2_add_2) (fun _ h9 => h9) rfl dX2_add_5 ?_
  refine lv_iload_n hx hb dX2_add_8 rfl (lv_at hl 1 rfl) ?_
  refine q_iast (j := n) hx hb hK hP hD hS 1 rfl (by omega) (by decide) dX2_add_9 (fun H locs hP hD hS => ?_)
  have hP : va_P D vwCl [(j0, .inr (2, [.int (x0), .int (x1), .int (x2), .int (nI n), .int (x4), .ref jk, .ref jt, .ref je, .ref jo])), (jk, .inl (cy 0, 6, .inl (upd gk n v1))), (jt, .inl (cy 0, 6, .inl gt)), (je, .inl (cy 0, 6, .inl ge)), (jo, .inl (cy 0, 6, .inl go))] H := hP
  have hD : va_D A [(j0, .inr (2, [.int (x0), .int (x1), .int (x2), .int (nI n), .int (x4), .ref jk, .ref jt, .ref je, .ref jo])), (jk, .inl (cy 0, 6, .inl (upd gk n v1))), (jt, .inl (cy 0, 6, .inl gt)), (je, .inl (cy 0, 6, .inl ge)), (jo, .inl (cy 0, 6, .inl go))] := hD
  refine lv_aload_n hx hb dX2_add_10 rfl (lv_at hl 0 rfl) ?_
  refine va_get (D := D) (ci := 2) (v := .ref jt) (C := RX2) (T := TX2) (N := 9) hx hb hts nX2_add_0 hown hK.1 hP 0 rfl rfl 6 (by decide) (hts _ mX2_add_3) (fun _ h9 => h9) rfl dX2_add_11 ?_
  refine lv_aload_n hx hb dX2_add_14 rfl (lv_at hl 0 rfl) ?_
  refine va_get (D := D) (ci := 2) (v := .int (nI n)) (C := RX2) (T := TX2) (N := 9) hx hb hts nX2_add_0 hown hK.1 hP 0 rfl rfl 3 (by decide) (hts _ mX2_add_2) (fun _ h9 => h9) rfl dX2_add_15 ?_
  refine lv_iload_n hx hb dX2_add_18 rfl (lv_at hl 2 rfl) ?_
  refine q_iast (j := n) hx hb hK hP hD hS 2 rfl (by omega) (by decide) dX2_add_19 (fun H locs hP hD hS => ?_)
  have hP : va_P D vwCl [(j0, .inr (2, [.int (x0), .int (x1), .int (x2), .int (nI n), .int (x4), .ref jk, .ref jt, .ref je, .ref jo])), (jk, .inl (cy 0, 6, .inl (upd gk n v1))), (jt, .inl (cy 0, 6, .inl (upd gt n v2))), (je, .inl (cy 0, 6, .inl ge)), (jo, .inl (cy 0, 6, .inl go))] H := hP
  have hD : va_D A [(j0, .inr (2, [.int (x0), .int (x1), .int (x2), .int (nI n), .int (x4), .ref jk, .ref jt, .ref je, .ref jo])), (jk, .inl (cy 0, 6, .inl (upd gk n v1))), (jt, .inl (cy 0, 6, .inl (upd gt n v2))), (je, .inl (cy 0, 6, .inl ge)), (jo, .inl (cy 0, 6, .inl go))] := hD
  refine lv_aload_n hx hb dX2_add_20 rfl (lv_at hl 0 rfl) ?_
  refine va_get (D := D) (ci := 2) (v := .ref je) (C := RX2) (T := TX2) (N := 9) hx hb hts nX2_add_0 hown hK.1 hP 0 rfl rfl 7 (by decide) (hts _ mX2_add_4) (fun _ h9 => h9) rfl dX2_add_21 ?_
  refine lv_aload_n hx hb dX2_add_24 rfl (lv_at hl 0 rfl) ?_
  refine va_get (D := D) (ci := 2) (v := .int (nI n)) (C := RX2) (T := TX2) (N := 9) hx hb hts nX2_add_0 hown hK.1 hP 0 rfl rfl 3 (by decide) (hts _ mX2_add_2) (fun _ h9 => h9) rfl dX2_add_25 ?_
  refine lv_iload_n hx hb dX2_add_28 rfl (lv_at hl 3 rfl) ?_
  refine q_iast (j := n) hx hb hK hP hD hS 3 rfl (by omega) (by decide) dX2_add_29 (fun H locs hP hD hS => ?_)
  have hP : va_P D vwCl [(j0, .inr (2, [.int (x0), .int (x1), .int (x2), .int (nI n), .int (x4), .ref jk, .ref jt, .ref je, .ref jo])), (jk, .inl (cy 0, 6, .inl (upd gk n v1))), (jt, .inl (cy 0, 6, .inl (upd gt n v2))), (je, .inl (cy 0, 6, .inl (upd ge n v3))), (jo, .inl (cy 0, 6, .inl go))] H := hP
  have hD : va_D A [(j0, .inr (2, [.int (x0), .int (x1), .int (x2), .int (nI n), .int (x4), .ref jk, .ref jt, .ref je, .ref jo])), (jk, .inl (cy 0, 6, .inl (upd gk n v1))), (jt, .inl (cy 0, 6, .inl (upd gt n v2))), (je, .inl (cy 0, 6, .inl (upd ge n v3))), (jo, .inl (cy 0, 6, .inl go))] := hD
  refine lv_aload_n hx hb dX2_add_30 rfl (lv_at hl 0 rfl) ?_
  refine va_get (D := D) (ci := 2) (v := .ref jo) (C := RX2) (T := TX2) (N := 9) hx hb hts nX2_add_0 hown hK.1 hP 0 rfl rfl 8 (by decide) (hts _ mX2_add_5) (fun _ h9 => h9) rfl dX2_add_31 ?_
  refine lv_aload_n hx hb dX2_add_34 rfl (lv_at hl 0 rfl) ?_
  refine va_get (D := D) (ci := 2) (v := .int (nI n)) (C := RX2) (T := TX2) (N := 9) hx hb hts nX2_add_0 hown hK.1 hP 0 rfl rfl 3 (by decide) (hts _ mX2_add_2) (fun _ h9 => h9) rfl dX2_add_35 ?_
  refine lv_iload hx hb dX2_add_38 (lv_at hl 4 rfl) ?_
  refine q_iast (j := n) hx hb hK hP hD hS 4 rfl (by omega) (by decide) dX2_add_40 (fun H locs hP hD hS => ?_)
  have hP : va_P D vwCl [(j0, .inr (2, [.int (x0), .int (x1), .int (x2), .int (nI n), .int (x4), .ref jk, .ref jt, .ref je, .ref jo])), (jk, .inl (cy 0, 6, .inl (upd gk n v1))), (jt, .inl (cy 0, 6, .inl (upd gt n v2))), (je, .inl (cy 0, 6, .inl (upd ge n v3))), (jo, .inl (cy 0, 6, .inl (upd go n v4)))] H := hP
  have hD : va_D A [(j0, .inr (2, [.int (x0), .int (x1), .int (x2), .int (nI n), .int (x4), .ref jk, .ref jt, .ref je, .ref jo])), (jk, .inl (cy 0, 6, .inl (upd gk n v1))), (jt, .inl (cy 0, 6, .inl (upd gt n v2))), (je, .inl (cy 0, 6, .inl (upd ge n v3))), (jo, .inl (cy 0, 6, .inl (upd go n v4)))] := hD
  refine lv_aload_n hx hb dX2_add_41 rfl (lv_at hl 0 rfl) ?_
  refine lv_dup hx hb dX2_add_42 rfl ?_
  refine va_get (D := D) (ci := 2) (v := .int (nI n)) (C := RX2) (T := TX2) (N := 9) hx hb hts nX2_add_0 hown hK.1 hP 0 rfl rfl 3 (by decide) (hts _ mX2_add_2) (fun _ h9 => h9) rfl dX2_add_43 ?_
  refine lv_iconst (v := nI 1) hx hb dX2_add_46 (by decide) ?_
  refine lv_iadd hx hb dX2_add_47 ?_
  refine q_top (y := nI (n + 1)) (nI_add _ _) ?_
  refine va_put (D := D) (ci := 2) (v := .int (nI (n + 1))) (ty := .int) (C := RX2) (T := TX2) (N := 9) hx hb hts nX2_add_0 tyX2 tyX2_ok nmX2 hown hK.1 hP hD hS 0 rfl rfl 3 (by decide) (hts _ mX2_add_2) (fun _ h9 => h9) rfl (by decide +kernel) rfl rfl (Nat.le_of_ble_eq_true rfl) dX2_add_48 (fun H locs hP hD hS => ?_)
  have hP : va_P D vwCl [(j0, .inr (2, [.int (x0), .int (x1), .int (x2), .int (nI (n + 1)), .int (x4), .ref jk, .ref jt, .ref je, .ref jo])), (jk, .inl (cy 0, 6, .inl (upd gk n v1))), (jt, .inl (cy 0, 6, .inl (upd gt n v2))), (je, .inl (cy 0, 6, .inl (upd ge n v3))), (jo, .inl (cy 0, 6, .inl (upd go n v4)))] H := hP
  have hD : va_D A [(j0, .inr (2, [.int (x0), .int (x1), .int (x2), .int (nI (n + 1)), .int (x4), .ref jk, .ref jt, .ref je, .ref jo])), (jk, .inl (cy 0, 6, .inl (upd gk n v1))), (jt, .inl (cy 0, 6, .inl (upd gt n v2))), (je, .inl (cy 0, 6, .inl (upd ge n v3))), (jo, .inl (cy 0, 6, .inl (upd go n v4)))] := hD
  have hP9 := hP
  have hD9 := hD
  exact q_wvret hx hb hr hlocks dX2_add_51 hP9 hD9 hS (rfl)
theorem nX0_kept_0 : ∀ w ∈ wsX00, w ∈ wsX0_kept := by decide +kernel
theorem mX0_kept_1 : Cond.fieldLink RX0 19 "ClueLeave$Acts" "kept" "I" ∈ wsX0_kept := by decide +kernel
set_option maxHeartbeats 4000000 in
set_option maxRecDepth 100000 in
theorem c_X0_kept (l : Launch) (D : va_G) (cy : Nat → ClassId) (q qs qc qb : Nat) (fs fc fb : Nat → Int32) (nx kp : Nat) (hnx : nx < 24) (hkp : kp ≤ 24) : q_Rd l yX0_kept wsX0_kept 1 D cy [(q, .inr (0, [.ref qs, .ref qc, .ref qb, .int (nI nx), .int (nI kp)])), (qs, .inl (cy 0, 24, .inl fs)), (qc, .inl (cy 0, 24, .inl fc)), (qb, .inl (cy 0, 24, .inl fb))] [.ref q] (fun r => r = nI kp) := by
  refine q_rd_of (cc := cX0_kept) (maxL := 1) (ret := (some .int)) (by decide) rfl (Nat.le_of_ble_eq_true rfl) ?_
  intro pg en s mi args below meth cd hC hP hK ls hl
  obtain ⟨hx, hb, hr, hml, hown, hts, hlocks⟩ := hC
  have hl : lv_has ls 1 [(0, .ref q)] := hl
  refine lv_aload_n hx hb dX0_kept_0 rfl (lv_at hl 0 rfl) ?_
  refine va_get (D := D) (ci := 0) (v := .int (nI kp)) (C := RX0) (T := TX0) (N := 5) hx hb hts nX0_kept_0 hown hK.1 hP 0 rfl rfl 4 (by decide) (hts _ mX0_kept_1) (fun _ h9 => h9) rfl dX0_kept_1 ?_
  exact q_iret (v := nI kp) hx hb hr hlocks dX0_kept_4 (rfl)
theorem nX0_forgetAll_0 : ∀ w ∈ wsX00, w ∈ wsX0_forgetAll := by decide +kernel
theorem mX0_forgetAll_1 : Cond.fieldLink RX0 19 "ClueLeave$Acts" "kept" "I" ∈ wsX0_forgetAll := by decide +kernel
set_option maxHeartbeats 4000000 in
set_option maxRecDepth 100000 in
theorem c_X0_forgetAll (l : Launch) (D : va_G) (cy : Nat → ClassId) (q qs qc qb : Nat) (fs fc fb : Nat → Int32) (nx kp : Nat) (hnx : nx < 24) (hkp : kp ≤ 24) : q_Wv l yX0_forgetAll wsX0_forgetAll 1 D cy [(q, .inr (0, [.ref qs, .ref qc, .ref qb, .int (nI nx), .int (nI kp)])), (qs, .inl (cy 0, 24, .inl fs)), (qc, .inl (cy 0, 24, .inl fc)), (qb, .inl (cy 0, 24, .inl fb))] [.ref q] (fun u => u = [(q, .inr (0, [.ref qs, .ref qc, .ref qb, .int (nI nx), .int (nI 0)])), (qs, .inl (cy 0, 24, .inl fs)), (qc, .inl (cy 0, 24, .inl fc)), (qb, .inl (cy 0, 24, .inl fb))]) := by
  refine q_wv_of (cc := cX0_forgetAll) (maxL := 1) (ret := none) (by decide) rfl (Nat.le_of_ble_eq_true rfl) ?_
  intro pg en s mi args below meth cd A hC hA hK H locs hP hD hS ls hl
  obtain ⟨hx, hb, hr, hml, hown, hts, hlocks⟩ := hC
  have hl : lv_has ls 1 [(0, .ref q)] := hl
  refine lv_aload_n hx hb dX0_forgetAll_0 rfl (lv_at hl 0 rfl) ?_
  refine lv_iconst (v := nI 0) hx hb dX0_forgetAll_1 (by decide) ?_
  refine va_put (D := D) (ci := 0) (v := .int (nI 0)) (ty := .int) (C := RX0) (T := TX0) (N := 5) hx hb hts nX0_forgetAll_0 tyX0 tyX0_ok nmX0 hown hK.1 hP hD hS 0 rfl rfl 4 (by decide) (hts _ mX0_forgetAll_1) (fun _ h9 => h9) rfl (by decide +kernel) rfl rfl (Nat.le_of_ble_eq_true rfl) dX0_forgetAll_2 (fun H locs hP hD hS => ?_)
  have hP : va_P D vwCl [(q, .inr (0, [.ref qs, .ref qc, .ref qb, .int (nI nx), .int (nI 0)])), (qs, .inl (cy 0, 24, .inl fs)), (qc, .inl (cy 0, 24, .inl fc)), (qb, .inl (cy 0, 24, .inl fb))] H := hP
  have hD : va_D A [(q, .inr (0, [.ref qs, .ref qc, .ref qb, .int (nI nx), .int (nI 0)])), (qs, .inl (cy 0, 24, .inl fs)), (qc, .inl (cy 0, 24, .inl fc)), (qb, .inl (cy 0, 24, .inl fb))] := hD
  have hP9 := hP
  have hD9 := hD
  exact q_wvret hx hb hr hlocks dX0_forgetAll_5 hP9 hD9 hS (rfl)
theorem nX0_keep_0 : ∀ w ∈ wsX00, w ∈ wsX0_keep := by decide +kernel
theorem mX0_keep_1 : Cond.fieldLink RX0 9 "ClueLeave$Acts" "sorts" "[I" ∈ wsX0_keep := by decide +kernel
theorem mX0_keep_2 : Cond.fieldLink RX0 23 "ClueLeave$Acts" "next" "I" ∈ wsX0_keep := by decide +kernel
theorem mX0_keep_3 : Cond.fieldLink RX0 13 "ClueLeave$Acts" "clues" "[I" ∈ wsX0_keep := by decide +kernel
theorem mX0_keep_4 : Cond.fieldLink RX0 16 "ClueLeave$Acts" "before" "[I" ∈ wsX0_keep := by decide +kernel
theorem mX0_keep_5 : Cond.fieldLink RX0 19 "ClueLeave$Acts" "kept" "I" ∈ wsX0_keep := by decide +kernel
theorem mX0_keep_6 : Cond.methodLink RX0 26 Lib.Math.min.name ∈ wsX0_keep := by decide +kernel
theorem mX0_keep_7 : Cond.static Lib.Math.min.name ∈ wsX0_keep := by decide +kernel
theorem mX0_keep_8 : Cond.initialized "java/lang/Math" ∈ wsX0_keep := by decide +kernel
theorem mX0_keep_9 : Cond.code Lib.Math.min.name Lib.Math.min.code 2 (some .int) ∈ wsX0_keep := by decide +kernel
set_option maxHeartbeats 4000000 in
set_option maxRecDepth 100000 in
theorem c_X0_keep (l : Launch) (D : va_G) (cy : Nat → ClassId) (q qs qc qb : Nat) (fs fc fb : Nat → Int32) (nx kp : Nat) (hnx : nx < 24) (hkp : kp ≤ 24) (v1 v2 v3 : Int32) : q_Wv l yX0_keep wsX0_keep 1 D cy [(q, .inr (0, [.ref qs, .ref qc, .ref qb, .int (nI nx), .int (nI kp)])), (qs, .inl (cy 0, 24, .inl fs)), (qc, .inl (cy 0, 24, .inl fc)), (qb, .inl (cy 0, 24, .inl fb))] [.ref q, .int (v1), .int (v2), .int (v3)] (fun u => u = [(q, .inr (0, [.ref qs, .ref qc, .ref qb, .int (nI ((nx + 1) % 24)), .int (nI (min (kp + 1) 24))])), (qs, .inl (cy 0, 24, .inl (upd fs nx v1))), (qc, .inl (cy 0, 24, .inl (upd fc nx v2))), (qb, .inl (cy 0, 24, .inl (upd fb nx v3)))]) := by
  refine q_wv_of (cc := cX0_keep) (maxL := 4) (ret := none) (by decide) rfl (Nat.le_of_ble_eq_true rfl) ?_
  intro pg en s mi args below meth cd A hC hA hK H locs hP hD hS ls hl
  obtain ⟨hx, hb, hr, hml, hown, hts, hlocks⟩ := hC
  have hl : lv_has ls 4 [(0, .ref q), (1, .int (v1)), (2, .int (v2)), (3, .int (v3))] := hl
  refine lv_aload_n hx hb dX0_keep_0 rfl (lv_at hl 0 rfl) ?_
  refine va_get (D := D) (ci := 0) (v := .ref qs) (C := RX0) (T := TX0) (N := 5) hx hb hts nX0_keep_0 hown hK.1 hP 0 rfl rfl 0 (by decide) (hts _ mX0_keep_1) (fun _ h9 => h9) rfl dX0_keep_1 ?_
  refine lv_aload_n hx hb dX0_keep_4 rfl (lv_at hl 0 rfl) ?_
  refine va_get (D := D) (ci := 0) (v := .int (nI nx)) (C := RX0) (T := TX0) (N := 5) hx hb hts nX0_keep_0 hown hK.1 hP 0 rfl rfl 3 (by decide) (hts _ mX0_keep_2) (fun _ h9 => h9) rfl dX0_keep_5 ?_
  refine lv_iload_n hx hb dX0_keep_8 rfl (lv_at hl 1 rfl) ?_
  refine q_iast (j := nx) hx hb hK hP hD hS 1 rfl (by omega) (by decide) dX0_keep_9 (fun H locs hP hD hS => ?_)
  have hP : va_P D vwCl [(q, .inr (0, [.ref qs, .ref qc, .ref qb, .int (nI nx), .int (nI kp)])), (qs, .inl (cy 0, 24, .inl (upd fs nx v1))), (qc, .inl (cy 0, 24, .inl fc)), (qb, .inl (cy 0, 24, .inl fb))] H := hP
  have hD : va_D A [(q, .inr (0, [.ref qs, .ref qc, .ref qb, .int (nI nx), .int (nI kp)])), (qs, .inl (cy 0, 24, .inl (upd fs nx v1))), (qc, .inl (cy 0, 24, .inl fc)), (qb, .inl (cy 0, 24, .inl fb))] := hD
  refine lv_aload_n hx hb dX0_keep_10 rfl (lv_at hl 0 rfl) ?_
  refine va_get (D := D) (ci := 0) (v := .ref qc) (C := RX0) (T := TX0) (N := 5) hx hb hts nX0_keep_0 hown hK.1 hP 0 rfl rfl 1 (by decide) (hts _ mX0_keep_3) (fun _ h9 => h9) rfl dX0_keep_11 ?_
  refine lv_aload_n hx hb dX0_keep_14 rfl (lv_at hl 0 rfl) ?_
  refine va_get (D := D) (ci := 0) (v := .int (nI nx)) (C := RX0) (T := TX0) (N := 5) hx hb hts nX0_keep_0 hown hK.1 hP 0 rfl rfl 3 (by decide) (hts _ mX0_keep_2) (fun _ h9 => h9) rfl dX0_keep_15 ?_
  refine lv_iload_n hx hb dX0_keep_18 rfl (lv_at hl 2 rfl) ?_
  refine q_iast (j := nx) hx hb hK hP hD hS 2 rfl (by omega) (by decide) dX0_keep_19 (fun H locs hP hD hS => ?_)
  have hP : va_P D vwCl [(q, .inr (0, [.ref qs, .ref qc, .ref qb, .int (nI nx), .int (nI kp)])), (qs, .inl (cy 0, 24, .inl (upd fs nx v1))), (qc, .inl (cy 0, 24, .inl (upd fc nx v2))), (qb, .inl (cy 0, 24, .inl fb))] H := hP
  have hD : va_D A [(q, .inr (0, [.ref qs, .ref qc, .ref qb, .int (nI nx), .int (nI kp)])), (qs, .inl (cy 0, 24, .inl (upd fs nx v1))), (qc, .inl (cy 0, 24, .inl (upd fc nx v2))), (qb, .inl (cy 0, 24, .inl fb))] := hD
  refine lv_aload_n hx hb dX0_keep_20 rfl (lv_at hl 0 rfl) ?_
  refine va_get (D := D) (ci := 0) (v := .ref qb) (C := RX0) (T := TX0) (N := 5) hx hb hts nX0_keep_0 hown hK.1 hP 0 rfl rfl 2 (by decide) (hts _ mX0_keep_4) (fun _ h9 => h9) rfl dX0_keep_21 ?_
  refine lv_aload_n hx hb dX0_keep_24 rfl (lv_at hl 0 rfl) ?_
  refine va_get (D := D) (ci := 0) (v := .int (nI nx)) (C := RX0) (T := TX0) (N := 5) hx hb hts nX0_keep_0 hown hK.1 hP 0 rfl rfl 3 (by decide) (hts _ mX0_keep_2) (fun _ h9 => h9) rfl dX0_keep_25 ?_
  refine lv_iload_n hx hb dX0_keep_28 rfl (lv_at hl 3 rfl) ?_
  refine q_iast (j := nx) hx hb hK hP hD hS 3 rfl (by omega) (by decide) dX0_keep_29 (fun H locs hP hD hS => ?_)
  have hP : va_P D vwCl [(q, .inr (0, [.ref qs, .ref qc, .ref qb, .int (nI nx), .int (nI kp)])), (qs, .inl (cy 0, 24, .inl (upd fs nx v1))), (qc, .inl (cy 0, 24, .inl (upd fc nx v2))), (qb, .inl (cy 0, 24, .inl (upd fb nx v3)))] H := hP
  have hD : va_D A [(q, .inr (0, [.ref qs, .ref qc, .ref qb, .int (nI nx), .int (nI kp)])), (qs, .inl (cy 0, 24, .inl (upd fs nx v1))), (qc, .inl (cy 0, 24, .inl (upd fc nx v2))), (qb, .inl (cy 0, 24, .inl (upd fb nx v3)))] := hD
  refine lv_aload_n hx hb dX0_keep_30 rfl (lv_at hl 0 rfl) ?_
  refine lv_aload_n hx hb dX0_keep_31 rfl (lv_at hl 0 rfl) ?_
  refine va_get (D := D) (ci := 0) (v := .int (nI nx)) (C := RX0) (T := TX0) (N := 5) hx hb hts nX0_keep_0 hown hK.1 hP 0 rfl rfl 3 (by decide) (hts _ mX0_keep_2) (fun _ h9 => h9) rfl dX0_keep_32 ?_
  refine lv_iconst (v := nI 1) hx hb dX0_keep_35 (by decide) ?_
  refine lv_iadd hx hb dX0_keep_36 ?_
  refine q_top (y := nI (nx + 1)) (nI_add _ _) ?_
  refine lv_bipush (v := nI 24) hx hb dX0_keep_37 (by decide) ?_
  refine lv_irem hx hb dX0_keep_39 (by decide) ?_
  refine q_top (y := nI ((nx + 1) % 24)) (pk_rem (a := (nx + 1)) (d := 24) (by omega) (by omega) (by decide)) ?_
  refine va_put (D := D) (ci := 0) (v := .int (nI ((nx + 1) % 24))) (ty := .int) (C := RX0) (T := TX0) (N := 5) hx hb hts nX0_keep_0 tyX0 tyX0_ok nmX0 hown hK.1 hP hD hS 0 rfl rfl 3 (by decide) (hts _ mX0_keep_2) (fun _ h9 => h9) rfl (by decide +kernel) rfl rfl (Nat.le_of_ble_eq_true rfl) dX0_keep_40 (fun H locs hP hD hS => ?_)
  have hP : va_P D vwCl [(q, .inr (0, [.ref qs, .ref qc, .ref qb, .int (nI ((nx + 1) % 24)), .int (nI kp)])), (qs, .inl (cy 0, 24, .inl (upd fs nx v1))), (qc, .inl (cy 0, 24, .inl (upd fc nx v2))), (qb, .inl (cy 0, 24, .inl (upd fb nx v3)))] H := hP
  have hD : va_D A [(q, .inr (0, [.ref qs, .ref qc, .ref qb, .int (nI ((nx + 1) % 24)), .int (nI kp)])), (qs, .inl (cy 0, 24, .inl (upd fs nx v1))), (qc, .inl (cy 0, 24, .inl (upd fc nx v2))), (qb, .inl (cy 0, 24, .inl (upd fb nx v3)))] := hD
  refine lv_aload_n hx hb dX0_keep_43 rfl (lv_at hl 0 rfl) ?_
  refine lv_aload_n hx hb dX0_keep_44 rfl (lv_at hl 0 rfl) ?_
  refine va_get (D := D) (ci := 0) (v := .int (nI kp)) (C := RX0) (T := TX0) (N := 5) hx hb hts nX0_keep_0 hown hK.1 hP 0 rfl rfl 4 (by decide) (hts _ mX0_keep_5) (fun _ h9 => h9) rfl dX0_keep_45 ?_
  refine lv_iconst (v := nI 1) hx hb dX0_keep_48 (by decide) ?_
  refine lv_iadd hx hb dX0_keep_49 ?_
  refine q_top (y := nI (kp + 1)) (nI_add _ _) ?_
  refine lv_bipush (v := nI 24) hx hb dX0_keep_50 (by decide) ?_
  refine va_mmin hx hb (hml.trans hl.1.symm) hown (hts _ mX0_keep_6) (hts _ mX0_keep_7) (hts _ mX0_keep_8) (hts _ mX0_keep_9) (Nat.le_of_ble_eq_true rfl) (Nat.le_of_ble_eq_true rfl) (Nat.zero_le _) (Nat.zero_le _) dX0_keep_52 ?_
  refine q_top (y := nI (min (kp + 1) 24)) (q_min (by omega) (by decide)) ?_
  refine va_put (D := D) (ci := 0) (v := .int (nI (min (kp + 1) 24))) (ty := .int) (C := RX0) (T := TX0) (N := 5) hx hb hts nX0_keep_0 tyX0 tyX0_ok nmX0 hown hK.1 hP hD hS 0 rfl rfl 4 (by decide) (hts _ mX0_keep_5) (fun _ h9 => h9) rfl (by decide +kernel) rfl rfl (Nat.le_of_ble_eq_true rfl) dX0_keep_55 (fun H locs hP hD hS => ?_)
  have hP : va_P D vwCl [(q, .inr (0, [.ref qs, .ref qc, .ref qb, .int (nI ((nx + 1) % 24)), .int (nI (min (kp + 1) 24))])), (qs, .inl (cy 0, 24, .inl (upd fs nx v1))), (qc, .inl (cy 0, 24, .inl (upd fc nx v2))), (qb, .inl (cy 0, 24, .inl (upd fb nx v3)))] H := hP
  have hD : va_D A [(q, .inr (0, [.ref qs, .ref qc, .ref qb, .int (nI ((nx + 1) % 24)), .int (nI (min (kp + 1) 24))])), (qs, .inl (cy 0, 24, .inl (upd fs nx v1))), (qc, .inl (cy 0, 24, .inl (upd fc nx v2))), (qb, .inl (cy 0, 24, .inl (upd fb nx v3)))] := hD
  have hP9 := hP
  have hD9 := hD
  exact q_wvret hx hb hr hlocks dX0_keep_58 hP9 hD9 hS (rfl)

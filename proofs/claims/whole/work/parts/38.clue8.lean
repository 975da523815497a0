theorem q_03 {k : Nat} (h : k ≤ 3) : k = 0 ∨ k = 1 ∨ k = 2 ∨ k = 3 := by omega
/-- an act undone: its sort, the clue, what was before -/
def ctUn (w : Nat → Nat) (so cl be : Nat) : Nat → Nat := if so = 1 then (fun j => if j = 3 then be else w j) else if so = 2 then ctSet w (6 + 4 * cl) be else if so = 3 then ctSet w (8 + 4 * cl) be else (fun j => if j = 2 then w 2 - 1 else w j)
theorem ctIs_p {w w2 : Nat → Nat} {fk ft fe fo : Nat → Int32} (h : ctIs w fk ft fe fo) (e : ∀ j, 4 ≤ j → w2 j = w j) : ctIs w2 fk ft fe fo := fun z hz => by
  have := h z (by rw [← e 4 (by decide)]; exact hz)
  unfold ctK ctT ctE ctO at this ⊢
  rw [e _ (by omega), e _ (by omega), e _ (by omega), e _ (by omega)]
  exact this
/-- the KINDS (bits) that one of a KIND is -/
def asM (k : Nat) : Nat := [1, 3, 7, 11, 17, 49].getD k 0
theorem asM_lt (k : Nat) : asM k < 64 := by
  unfold asM
  rcases Nat.lt_or_ge k 6 with h | h
  · have : ∀ k, k < 6 → [1, 3, 7, 11, 17, 49].getD k 0 < 64 := by decide
    exact this k h
  · rw [List.getD_eq_getElem?_getD, List.getElem?_eq_none (by simpa using h)]; decide
def q_AsF : Nat → Value := fun j => .int (nI (asM j))
def oAs (w : Nat → Nat) (st x k : Int32) : Int32 × Int32 := if inC (w 4) x then if inW 5 k then if (asM (ctK w x.toNatClampNeg)).testBit k.toNatClampNeg = true then (x, nI 0) else (-1000013, nI 3) else (-1000001, st) else (-1000001, st)
def q_StA (A : Nat → Prop) (U : State) (H : Heap) : Prop := ∃ t : Nat, va_Z "ClueLeave" "IS_ALSO" "[I" (.ref t) A U H ∧ va_T .int t 6 q_AsF A U H
def q_WiA (l : Launch) (y : MethodName) (ws : List Cond) (d : Nat) (D : va_G) (cy : Nat → ClassId) (X : va_W) (av : List Value) (post : Int32 → va_W → Prop) : Prop :=
  ∀ sz : Nat, Met l y ws (q_rm d) (va_Pc av (fun U => U.heap.size = sz ∧ va_P D vwCl X U.heap ∧ q_K D cy U ∧ va_D (fun _ => True) X ∧ q_StA (va_A X sz) U U.heap)) (va_Qi post (fun (u : va_W) t => va_P D vwCl u t.heap ∧ va_D (va_A X sz) u) (va_A X sz)) 0 0 (va_A X sz)
theorem q_wia_of {l : Launch} {y : MethodName} {ws ws' : List Cond} {d : Nat} {D : va_G} {cy : Nat → ClassId} {X : va_W} {av : List Value} {post : Int32 → va_W → Prop} {cc : ByteArray} {maxL : Nat} {ret : Option FieldType} (hy : plainName y.cls = true) (hw : ws = Cond.code y cc maxL ret :: ws') (hlen : (lg_sl av).length ≤ maxL)
    (body : ∀ (p : Program) (e : Env) (s : State) (m : MethodId) (args : Array Value) (below : List Frame) (meth : Method) (c : Code) (A : Nat → Prop), q_C p s m args meth c y.cls cc maxL ret ws → (∀ q : Nat, s.heap.size ≤ q → A q) → q_K D cy s → q_StA A s s.heap → ∀ (H : Heap) (locs : List Loc), va_P D vwCl X H → va_D A X → va_S A s.heap H locs → ∀ ls : Array Slot, lv_has ls maxL (lv_args 0 av) →
      W p l e (q_rm d) s m args below meth c H locs 0 0 (MQ below (va_Qi post (fun (u : va_W) t => va_P D vwCl u t.heap ∧ va_D A u) A) args s 0 0 A) (F0 m 0 ls [])) : q_WiA l y ws d D cy X av post := by
  intro sz
  refine Met.ofW (cc := cc) (maxL := maxL) (ret := ret) hy hw ?_
  intro p e s m args below meth c s₁ B hml hv
  obtain ⟨rfl, hsz, hP, hK, hD0, hZ⟩ := hv
  subst hsz
  have hl := lv_entry av hlen
  rw [lg_entry_eq]
  exact body p e s m _ below meth c _ ⟨B.exec, B.bytes, B.returns, hml, findClass_of_methodNamed B.named, atoms_spec B.pre, B.notSynchronized⟩ (fun q h => Or.inr h) hK hZ _ _ hP hD0.self va_S.rf _ hl
/-- what an ask answers, and its trace -/
def askS (w : Nat → Nat) (c : Nat) : Int32 := if ctK w c = 1 then nI (ctT w c + (c + ctO w c)) else if ctK w c = 2 then -(nI (ctT w c + (2 * (c + ctO w c)))) else if ctK w c = 3 then (nI (ctT w c)) + (nI (c + ctO w c) - nI 1000) else if ctK w c = 4 then nI (ctT w c) - nI 100 else (nI 2) * (nI (ctT w c) - nI 100)
def askM (w : Nat → Nat) (c : Nat) : Int32 := if ctK w c = 1 then nI (c + ctO w c) else if ctK w c = 2 then nI (2 * (c + ctO w c)) else if ctK w c = 3 then nI (c + ctO w c) - nI 1000 else if ctK w c = 4 then (nI c) - (nI (ctT w c) - nI 100) else (nI c) - ((nI 2) * (nI (ctT w c) - nI 100))
def askSL (k : Nat) : List Nat := if k = 1 then [11, 10, 21, 20] else if k = 2 then [12, 11, 10, 24, 21, 20] else if k = 3 then [11, 10, 22, 21, 20] else if k = 4 then [13, 10] else [14, 13, 10]
def askML (k : Nat) : List Nat := if k = 1 then [21, 20] else if k = 2 then [24, 21, 20] else if k = 3 then [22, 21, 20] else if k = 4 then [23, 20, 13, 10] else [23, 20, 14, 13, 10]
def oAsk (w : Nat → Nat) (tf : Nat → Int32) (tn : Nat) (x y : Int32) : Int32 × (Nat → Int32) × Nat :=
  if inC (w 4) x then if inW 1 y then if y.toNatClampNeg = 0 then (askS w x.toNatClampNeg, trP tf 0 (askSL (ctK w x.toNatClampNeg)), (askSL (ctK w x.toNatClampNeg)).length) else (askM w x.toNatClampNeg, trP tf 0 (askML (ctK w x.toNatClampNeg)), (askML (ctK w x.toNatClampNeg)).length)
  else (-1000001, tf, tn) else (-1000001, tf, tn)
theorem nX0_takeBack_0 : ∀ w ∈ wsX00, w ∈ wsX0_takeBack := by decide +kernel
theorem mX0_takeBack_1 : Cond.fieldLink RX0 23 "ClueLeave$Acts" "next" "I" ∈ wsX0_takeBack := by decide +kernel
theorem mX0_takeBack_2 : Cond.fieldLink RX0 19 "ClueLeave$Acts" "kept" "I" ∈ wsX0_takeBack := by decide +kernel
theorem mX0_takeBack_3 : Cond.fieldLink RX0 9 "ClueLeave$Acts" "sorts" "[I" ∈ wsX0_takeBack := by decide +kernel
theorem nX0_takeBack_4 : ∀ w ∈ wsX20, w ∈ wsX0_takeBack := by decide +kernel
theorem mX0_takeBack_5 : Cond.fieldLink RX0 43 "ClueLeave$City" "day" "I" ∈ wsX0_takeBack := by decide +kernel
theorem mX0_takeBack_6 : Cond.fieldLink RX0 16 "ClueLeave$Acts" "before" "[I" ∈ wsX0_takeBack := by decide +kernel
theorem mX0_takeBack_7 : Cond.fieldLink RX0 32 "ClueLeave$City" "bribed" "I" ∈ wsX0_takeBack := by decide +kernel
theorem mX0_takeBack_8 : Cond.fieldLink RX0 37 "ClueLeave$City" "tells" "[I" ∈ wsX0_takeBack := by decide +kernel
theorem mX0_takeBack_9 : Cond.fieldLink RX0 13 "ClueLeave$Acts" "clues" "[I" ∈ wsX0_takeBack := by decide +kernel
theorem mX0_takeBack_10 : Cond.fieldLink RX0 40 "ClueLeave$City" "off" "[I" ∈ wsX0_takeBack := by decide +kernel
set_option maxHeartbeats 4000000 in
set_option maxRecDepth 100000 in
theorem c_X0_takeBack (l : Launch) (D : va_G) (cy : Nat → ClassId) (q qs qc qb : Nat) (fs fc fb : Nat → Int32) (nx kp : Nat) (hnx : nx < 24) (hkp : kp ≤ 24) (h kA tA eA oA : Nat) (w : Nat → Nat) (fk ft fe fo : Nat → Int32) (hw : ctIs w fk ft fe fo) (hv : ctOk w) (so cl be : Nat) (hu1 : fs ((nx + 24 - 1) % 24) = nI so) (hu2 : fc ((nx + 24 - 1) % 24) = nI cl) (hu3 : fb ((nx + 24 - 1) % 24) = nI be) (hso : so ≤ 3) (hcl : so = 2 ∨ so = 3 → cl < w 4) (hd : so = 0 → 1 ≤ w 2) (hk1 : 1 ≤ kp) : q_Wv l yX0_takeBack wsX0_takeBack 1 D cy [(q, .inr (0, [.ref qs, .ref qc, .ref qb, .int (nI nx), .int (nI kp)])), (qs, .inl (cy 0, 24, .inl fs)), (qc, .inl (cy 0, 24, .inl fc)), (qb, .inl (cy 0, 24, .inl fb)), (h, .inr (2, [.int (nI (w 0)), .int (nI (w 1)), .int (nI (w 2)), .int (nI (w 4)), .int (nI (w 3)), .ref kA, .ref tA, .ref eA, .ref oA])), (kA, .inl (cy 0, 6, .inl fk)), (tA, .inl (cy 0, 6, .inl ft)), (eA, .inl (cy 0, 6, .inl fe)), (oA, .inl (cy 0, 6, .inl fo))] [.ref q, .ref h] (fun u => ∃ ft2 fo2 : Nat → Int32, ctIs (ctUn w so cl be) fk ft2 fe fo2 ∧ u = [(q, .inr (0, [.ref qs, .ref qc, .ref qb, .int (nI ((nx + 24 - 1) % 24)), .int (nI (kp - 1))])), (qs, .inl (cy 0, 24, .inl fs)), (qc, .inl (cy 0, 24, .inl fc)), (qb, .inl (cy 0, 24, .inl fb)), (h, .inr (2, [.int (nI ((ctUn w so cl be) 0)), .int (nI ((ctUn w so cl be) 1)), .int (nI ((ctUn w so cl be) 2)), .int (nI ((ctUn w so cl be) 4)), .int (nI ((ctUn w so cl be) 3)), .ref kA, .ref tA, .ref eA, .ref oA])), (kA, .inl (cy 0, 6, .inl fk)), (tA, .inl (cy 0, 6, .inl ft2)), (eA, .inl (cy 0, 6, .inl fe)), (oA, .inl (cy 0, 6, .inl fo2))]) := by
  refine q_wv_of (cc := cX0_takeBack) (maxL := 2) (ret := none) (by decide) rfl (Nat.le_of_ble_eq_true rfl) ?_
  intro pg en s mi args below meth cd A hC hA hK H locs hP hD hS ls hl
  obtain ⟨hx, hb, hr, hml, hown, hts, hlocks⟩ := hC
  have hl : lv_has ls 2 [(0, .ref q), (1, .ref h)] := hl
  obtain ⟨hv0, hv1, hv2, hv3, hv4, hvc⟩ := id hv
  refine lv_aload_n hx hb dX0_takeBack_0 rfl (lv_at hl 0 rfl) ?_
  refine lv_aload_n hx hb dX0_takeBack_1 rfl (lv_at hl 0 rfl) ?_
  refine va_get (D := D) (ci := 0) (v := .int (nI nx)) (C := RX0) (T := TX0) (N := 5) hx hb hts nX0_takeBack_0 hown hK.1 hP 0 rfl rfl 3 (by decide) (hts _ mX0_takeBack_1) (fun _ h9 => h9) rfl dX0_takeBack_2 ?_
  refine lv_bipush (v := nI 24) hx hb dX0_takeBack_5 (by decide) ?_
  refine lv_iadd hx hb dX0_takeBack_7 ?_
  refine q_top (y := nI (nx + 24)) (nI_add _ _) ?_
  refine lv_iconst (v := nI 1) hx hb dX0_takeBack_8 (by decide) ?_
  refine lv_isub hx hb dX0_takeBack_9 ?_
  refine q_top (y := nI ((nx + 24) - 1)) (pk_sub (by omega)) ?_
  refine lv_bipush (v := nI 24) hx hb dX0_takeBack_10 (by decide) ?_
  refine lv_irem hx hb dX0_takeBack_12 (by decide) ?_
  refine q_top (y := nI (((nx + 24) - 1) % 24)) (pk_rem (a := ((nx + 24) - 1)) (d := 24) (by omega) (by omega) (by decide)) ?_
  refine va_put (D := D) (ci := 0) (v := .int (nI (((nx + 24) - 1) % 24))) (ty := .int) (C := RX0) (T := TX0) (N := 5) hx hb hts nX0_takeBack_0 tyX0 tyX0_ok nmX0 hown hK.1 hP hD hS 0 rfl rfl 3 (by decide) (hts _ mX0_takeBack_1) (fun _ h9 => h9) rfl (by decide +kernel) rfl rfl (Nat.le_of_ble_eq_true rfl) dX0_takeBack_13 (fun H locs hP hD hS => ?_)
  have hP : va_P D vwCl [(q, .inr (0, [.ref qs, .ref qc, .ref qb, .int (nI (((nx + 24) - 1) % 24)), .int (nI kp)])), (qs, .inl (cy 0, 24, .inl fs)), (qc, .inl (cy 0, 24, .inl fc)), (qb, .inl (cy 0, 24, .inl fb)), (h, .inr (2, [.int (nI (w 0)), .int (nI (w 1)), .int (nI (w 2)), .int (nI (w 4)), .int (nI (w 3)), .ref kA, .ref tA, .ref eA, .ref oA])), (kA, .inl (cy 0, 6, .inl fk)), (tA, .inl (cy 0, 6, .inl ft)), (eA, .inl (cy 0, 6, .inl fe)), (oA, .inl (cy 0, 6, .inl fo))] H := hP
  have hD : va_D A [(q, .inr (0, [.ref qs, .ref qc, .ref qb, .int (nI (((nx + 24) - 1) % 24)), .int (nI kp)])), (qs, .inl (cy 0, 24, .inl fs)), (qc, .inl (cy 0, 24, .inl fc)), (qb, .inl (cy 0, 24, .inl fb)), (h, .inr (2, [.int (nI (w 0)), .int (nI (w 1)), .int (nI (w 2)), .int (nI (w 4)), .int (nI (w 3)), .ref kA, .ref tA, .ref eA, .ref oA])), (kA, .inl (cy 0, 6, .inl fk)), (tA, .inl (cy 0, 6, .inl ft)), (eA, .inl (cy 0, 6, .inl fe)), (oA, .inl (cy 0, 6, .inl fo))] := hD
  refine lv_aload_n hx hb dX0_takeBack_16 rfl (lv_at hl 0 rfl) ?_
  refine lv_dup hx hb dX0_takeBack_17 rfl ?_
  refine va_get (D := D) (ci := 0) (v := .int (nI kp)) (C := RX0) (T := TX0) (N := 5) hx hb hts nX0_takeBack_0 hown hK.1 hP 0 rfl rfl 4 (by decide) (hts _ mX0_takeBack_2) (fun _ h9 => h9) rfl dX0_takeBack_18 ?_
  refine lv_iconst (v := nI 1) hx hb dX0_takeBack_21 (by decide) ?_
  refine lv_isub hx hb dX0_takeBack_22 ?_
  refine q_top (y := nI (kp - 1)) (pk_sub (by omega)) ?_
  refine va_put (D := D) (ci := 0) (v := .int (nI (kp - 1))) (ty := .int) (C := RX0) (T := TX0) (N := 5) hx hb hts nX0_takeBack_0 tyX0 tyX0_ok nmX0 hown hK.1 hP hD hS 0 rfl rfl 4 (by decide) (hts _ mX0_takeBack_2) (fun _ h9 => h9) rfl (by decide +kernel) rfl rfl (Nat.le_of_ble_eq_true rfl) dX0_takeBack_23 (fun H locs hP hD hS => ?_)
  have hP : va_P D vwCl [(q, .inr (0, [.ref qs, .ref qc, .ref qb, .int (nI (((nx + 24) - 1) % 24)), .int (nI (kp - 1))])), (qs, .inl (cy 0, 24, .inl fs)), (qc, .inl (cy 0, 24, .inl fc)), (qb, .inl (cy 0, 24, .inl fb)), (h, .inr (2, [.int (nI (w 0)), .int (nI (w 1)), .int (nI (w 2)), .int (nI (w 4)), .int (nI (w 3)), .ref kA, .ref tA, .ref eA, .ref oA])), (kA, .inl (cy 0, 6, .inl fk)), (tA, .inl (cy 0, 6, .inl ft)), (eA, .inl (cy 0, 6, .inl fe)), (oA, .inl (cy 0, 6, .inl fo))] H := hP
  have hD : va_D A [(q, .inr (0, [.ref qs, .ref qc, .ref qb, .int (nI (((nx + 24) - 1) % 24)), .int (nI (kp - 1))])), (qs, .inl (cy 0, 24, .inl fs)), (qc, .inl (cy 0, 24, .inl fc)), (qb, .inl (cy 0, 24, .inl fb)), (h, .inr (2, [.int (nI (w 0)), .int (nI (w 1)), .int (nI (w 2)), .int (nI (w 4)), .int (nI (w 3)), .ref kA, .ref tA, .ref eA, .ref oA])), (kA, .inl (cy 0, 6, .inl fk)), (tA, .inl (cy 0, 6, .inl ft)), (eA, .inl (cy 0, 6, .inl fe)), (oA, .inl (cy 0, 6, .inl fo))] := hD
  refine lv_aload_n hx hb dX0_takeBack_26 rfl (lv_at hl 0 rfl) ?_
  refine va_get (D := D) (ci := 0) (v := .ref qs) (C := RX0) (T := TX0) (N := 5) hx hb hts nX0_takeBack_0 hown hK.1 hP 0 rfl rfl 0 (by decide) (hts _ mX0_takeBack_3) (fun _ h9 => h9) rfl dX0_takeBack_27 ?_
  refine lv_aload_n hx hb dX0_takeBack_30 rfl (lv_at hl 0 rfl) ?_
  refine va_get (D := D) (ci := 0) (v := .int (nI (((nx + 24) - 1) % 24))) (C := RX0) (T := TX0) (N := 5) hx hb hts nX0_takeBack_0 hown hK.1 hP 0 rfl rfl 3 (by decide) (hts _ mX0_takeBack_1) (fun _ h9 => h9) rfl dX0_takeBack_31 ?_
  refine q_iald (j := (((nx + 24) - 1) % 24)) (v := fs (((nx + 24) - 1) % 24)) hx hb hK hP 1 rfl (by omega) (by decide) (rfl) dX0_takeBack_34 ?_
  refine q_top (y := nI so) hu1 ?_
  rcases q_03 hso with rfl | rfl | rfl | rfl
  · refine lv_tableOut (tgt := 128) hx hb dX0_takeBack_35 (by decide) (by decide) ?_
    refine lv_aload_n hx hb dX0_takeBack_128 rfl (lv_at hl 1 rfl) ?_
    refine lv_dup hx hb dX0_takeBack_129 rfl ?_
    have hd1 := hd rfl
    refine va_get (D := D) (ci := 2) (v := .int (nI (w 2))) (C := RX2) (T := TX2) (N := 9) hx hb hts nX0_takeBack_4 hown hK.1 hP 4 rfl rfl 2 (by decide) (hts _ mX0_takeBack_5) (fun _ h9 => h9) rfl dX0_takeBack_130 ?_
    refine lv_iconst (v := nI 1) hx hb dX0_takeBack_133 (by decide) ?_
    refine lv_isub hx hb dX0_takeBack_134 ?_
    refine q_top (y := nI ((w 2) - 1)) (pk_sub (by omega)) ?_
    refine va_put (D := D) (ci := 2) (v := .int (nI ((w 2) - 1))) (ty := .int) (C := RX2) (T := TX2) (N := 9) hx hb hts nX0_takeBack_4 tyX2 tyX2_ok nmX2 hown hK.1 hP hD hS 4 rfl rfl 2 (by decide) (hts _ mX0_takeBack_5) (fun _ h9 => h9) rfl (by decide +kernel) rfl rfl (Nat.le_of_ble_eq_true rfl) dX0_takeBack_135 (fun H locs hP hD hS => ?_)
    have hP : va_P D vwCl [(q, .inr (0, [.ref qs, .ref qc, .ref qb, .int (nI (((nx + 24) - 1) % 24)), .int (nI (kp - 1))])), (qs, .inl (cy 0, 24, .inl fs)), (qc, .inl (cy 0, 24, .inl fc)), (qb, .inl (cy 0, 24, .inl fb)), (h, .inr (2, [.int (nI (w 0)), .int (nI (w 1)), .int (nI ((w 2) - 1)), .int (nI (w 4)), .int (nI (w 3)), .ref kA, .ref tA, .ref eA, .ref oA])), (kA, .inl (cy 0, 6, .inl fk)), (tA, .inl (cy 0, 6, .inl ft)), (eA, .inl (cy 0, 6, .inl fe)), (oA, .inl (cy 0, 6, .inl fo))] H := hP
    have hD : va_D A [(q, .inr (0, [.ref qs, .ref qc, .ref qb, .int (nI (((nx + 24) - 1) % 24)), .int (nI (kp - 1))])), (qs, .inl (cy 0, 24, .inl fs)), (qc, .inl (cy 0, 24, .inl fc)), (qb, .inl (cy 0, 24, .inl fb)), (h, .inr (2, [.int (nI (w 0)), .int (nI (w 1)), .int (nI ((w 2) - 1)), .int (nI (w 4)), .int (nI (w 3)), .ref kA, .ref tA, .ref eA, .ref oA])), (kA, .inl (cy 0, 6, .inl fk)), (tA, .inl (cy 0, 6, .inl ft)), (eA, .inl (cy 0, 6, .inl fe)), (oA, .inl (cy 0, 6, .inl fo))] := hD
    have hP9 := hP
    have hD9 := hD
    exact q_wvret hx hb hr hlocks dX0_takeBack_138 hP9 hD9 hS (⟨ft, fo, ctIs_p hw (fun j hj => by show (if j = 2 then w 2 - 1 else w j) = w j; exact if_neg (by omega)), rfl⟩)
  · refine lv_tableIn (off := 25) (tgt := 60) hx hb dX0_takeBack_35 (by decide) (by decide) (by decide) (by decide) ?_
    refine lv_aload_n hx hb dX0_takeBack_60 rfl (lv_at hl 1 rfl) ?_
    refine lv_aload_n hx hb dX0_takeBack_61 rfl (lv_at hl 0 rfl) ?_
    refine va_get (D := D) (ci := 0) (v := .ref qb) (C := RX0) (T := TX0) (N := 5) hx hb hts nX0_takeBack_0 hown hK.1 hP 0 rfl rfl 2 (by decide) (hts _ mX0_takeBack_6) (fun _ h9 => h9) rfl dX0_takeBack_62 ?_
    refine lv_aload_n hx hb dX0_takeBack_65 rfl (lv_at hl 0 rfl) ?_
    refine va_get (D := D) (ci := 0) (v := .int (nI (((nx + 24) - 1) % 24))) (C := RX0) (T := TX0) (N := 5) hx hb hts nX0_takeBack_0 hown hK.1 hP 0 rfl rfl 3 (by decide) (hts _ mX0_takeBack_1) (fun _ h9 => h9) rfl dX0_takeBack_66 ?_
    refine q_iald (j := (((nx + 24) - 1) % 24)) (v := fb (((nx + 24) - 1) % 24)) hx hb hK hP 3 rfl (by omega) (by decide) (rfl) dX0_takeBack_69 ?_
    refine q_top (y := nI be) (hu3) ?_
    refine va_put (D := D) (ci := 2) (v := .int (nI be)) (ty := .int) (C := RX2) (T := TX2) (N := 9) hx hb hts nX0_takeBack_4 tyX2 tyX2_ok nmX2 hown hK.1 hP hD hS 4 rfl rfl 4 (by decide) (hts _ mX0_takeBack_7) (fun _ h9 => h9) rfl (by decide +kernel) rfl rfl (Nat.le_of_ble_eq_true rfl) dX0_takeBack_70 (fun H locs hP hD hS => ?_)
    have hP : va_P D vwCl [(q, .inr (0, [.ref qs, .ref qc, .ref qb, .int (nI (((nx + 24) - 1) % 24)), .int (nI (kp - 1))])), (qs, .inl (cy 0, 24, .inl fs)), (qc, .inl (cy 0, 24, .inl fc)), (qb, .inl (cy 0, 24, .inl fb)), (h, .inr (2, [.int (nI (w 0)), .int (nI (w 1)), .int (nI (w 2)), .int (nI (w 4)), .int (nI be), .ref kA, .ref tA, .ref eA, .ref oA])), (kA, .inl (cy 0, 6, .inl fk)), (tA, .inl (cy 0, 6, .inl ft)), (eA, .inl (cy 0, 6, .inl fe)), (oA, .inl (cy 0, 6, .inl fo))] H := hP
    have hD : va_D A [(q, .inr (0, [.ref qs, .ref qc, .ref qb, .int (nI (((nx + 24) - 1) % 24)), .int (nI (kp - 1))])), (qs, .inl (cy 0, 24, .inl fs)), (qc, .inl (cy 0, 24, .inl fc)), (qb, .inl (cy 0, 24, .inl fb)), (h, .inr (2, [.int (nI (w 0)), .int (nI (w 1)), .int (nI (w 2)), .int (nI (w 4)), .int (nI be), .ref kA, .ref tA, .ref eA, .ref oA])), (kA, .inl (cy 0, 6, .inl fk)), (tA, .inl (cy 0, 6, .inl ft)), (eA, .inl (cy 0, 6, .inl fe)), (oA, .inl (cy 0, 6, .inl fo))] := hD
    refine lv_goto (tgt := 138) hx hb dX0_takeBack_73 (by decide) ?_
    have hP9 := hP
    have hD9 := hD
    exact q_wvret hx hb hr hlocks dX0_takeBack_138 hP9 hD9 hS (⟨ft, fo, ctIs_p hw (fun j hj => by show (if j = 3 then be else w j) = w j; exact if_neg (by omega)), rfl⟩)
  · refine lv_tableIn (off := 41) (tgt := 76) hx hb dX0_takeBack_35 (by decide) (by decide) (by decide) (by decide) ?_
    refine lv_aload_n hx hb dX0_takeBack_76 rfl (lv_at hl 1 rfl) ?_
    refine va_get (D := D) (ci := 2) (v := .ref tA) (C := RX2) (T := TX2) (N := 9) hx hb hts nX0_takeBack_4 hown hK.1 hP 4 rfl rfl 6 (by decide) (hts _ mX0_takeBack_8) (fun _ h9 => h9) rfl dX0_takeBack_77 ?_
    refine lv_aload_n hx hb dX0_takeBack_80 rfl (lv_at hl 0 rfl) ?_
    refine va_get (D := D) (ci := 0) (v := .ref qc) (C := RX0) (T := TX0) (N := 5) hx hb hts nX0_takeBack_0 hown hK.1 hP 0 rfl rfl 1 (by decide) (hts _ mX0_takeBack_9) (fun _ h9 => h9) rfl dX0_takeBack_81 ?_
    refine lv_aload_n hx hb dX0_takeBack_84 rfl (lv_at hl 0 rfl) ?_
    refine va_get (D := D) (ci := 0) (v := .int (nI (((nx + 24) - 1) % 24))) (C := RX0) (T := TX0) (N := 5) hx hb hts nX0_takeBack_0 hown hK.1 hP 0 rfl rfl 3 (by decide) (hts _ mX0_takeBack_1) (fun _ h9 => h9) rfl dX0_takeBack_85 ?_
    refine q_iald (j := (((nx + 24) - 1) % 24)) (v := fc (((nx + 24) - 1) % 24)) hx hb hK hP 2 rfl (by omega) (by decide) (rfl) dX0_takeBack_88 ?_
    have hcl2 := hcl (by omega)
    refine q_top (y := nI cl) (hu2) ?_
    refine lv_aload_n hx hb dX0_takeBack_89 rfl (lv_at hl 0 rfl) ?_
    refine va_get (D := D) (ci := 0) (v := .ref qb) (C := RX0) (T := TX0) (N := 5) hx hb hts nX0_takeBack_0 hown hK.1 hP 0 rfl rfl 2 (by decide) (hts _ mX0_takeBack_6) (fun _ h9 => h9) rfl dX0_takeBack_90 ?_
    refine lv_aload_n hx hb dX0_takeBack_93 rfl (lv_at hl 0 rfl) ?_
    refine va_get (D := D) (ci := 0) (v := .int (nI (((nx + 24) - 1) % 24))) (C := RX0) (T := TX0) (N := 5) hx hb hts nX0_takeBack_0 hown hK.1 hP 0 rfl rfl 3 (by decide) (hts _ mX0_takeBack_1) (fun _ h9 => h9) rfl dX0_takeBack_94 ?_
    refine q_iald (j := (((nx + 24) - 1) % 24)) (v := fb (((nx + 24) - 1) % 24)) hx hb hK hP 3 rfl (by omega) (by decide) (rfl) dX0_takeBack_97 ?_
    refine q_top (y := nI be) (hu3) ?_
    refine q_iast (j := cl) hx hb hK hP hD hS 6 rfl (by omega) (by decide) dX0_takeBack_98 (fun H locs hP hD hS => ?_)
    have hP : va_P D vwCl [(q, .inr (0, [.ref qs, .ref qc, .ref qb, .int (nI (((nx + 24) - 1) % 24)), .int (nI (kp - 1))])), (qs, .inl (cy 0, 24, .inl fs)), (qc, .inl (cy 0, 24, .inl fc)), (qb, .inl (cy 0, 24, .inl fb)), (h, .inr (2, [.int (nI (w 0)), .int (nI (w 1)), .int (nI (w 2)), .int (nI (w 4)), .int (nI (w 3)), .ref kA, .ref tA, .ref eA, .ref oA])), (kA, .inl (cy 0, 6, .inl fk)), (tA, .inl (cy 0, 6, .inl (upd ft cl (nI be)))), (eA, .inl (cy 0, 6, .inl fe)), (oA, .inl (cy 0, 6, .inl fo))] H := hP
    have hD : va_D A [(q, .inr (0, [.ref qs, .ref qc, .ref qb, .int (nI (((nx + 24) - 1) % 24)), .int (nI (kp - 1))])), (qs, .inl (cy 0, 24, .inl fs)), (qc, .inl (cy 0, 24, .inl fc)), (qb, .inl (cy 0, 24, .inl fb)), (h, .inr (2, [.int (nI (w 0)), .int (nI (w 1)), .int (nI (w 2)), .int (nI (w 4)), .int (nI (w 3)), .ref kA, .ref tA, .ref eA, .ref oA])), (kA, .inl (cy 0, 6, .inl fk)), (tA, .inl (cy 0, 6, .inl (upd ft cl (nI be)))), (eA, .inl (cy 0, 6, .inl fe)), (oA, .inl (cy 0, 6, .inl fo))] := hD
    refine lv_goto (tgt := 138) hx hb dX0_takeBack_99 (by decide) ?_
    have hP9 := hP
    have hD9 := hD
    exact q_wvret hx hb hr hlocks dX0_takeBack_138 hP9 hD9 hS (⟨upd ft cl (nI be), fo, ctIs_T hw hcl2, rfl⟩)
  · refine lv_tableIn (off := 67) (tgt := 102) hx hb dX0_takeBack_35 (by decide) (by decide) (by decide) (by decide) ?_
    refine lv_aload_n hx hb dX0_takeBack_102 rfl (lv_at hl 1 rfl) ?_
    refine va_get (D := D) (ci := 2) (v := .ref oA) (C := RX2) (T := TX2) (N := 9) hx hb hts nX0_takeBack_4 hown hK.1 hP 4 rfl rfl 8 (by decide) (hts _ mX0_takeBack_10) (fun _ h9 => h9) rfl dX0_takeBack_103 ?_
    refine lv_aload_n hx hb dX0_takeBack_106 rfl (lv_at hl 0 rfl) ?_
    refine va_get (D := D) (ci := 0) (v := .ref qc) (C := RX0) (T := TX0) (N := 5) hx hb hts nX0_takeBack_0 hown hK.1 hP 0 rfl rfl 1 (by decide) (hts _ mX0_takeBack_9) (fun _ h9 => h9) rfl dX0_takeBack_107 ?_
    refine lv_aload_n hx hb dX0_takeBack_110 rfl (lv_at hl 0 rfl) ?_
    refine va_get (D := D) (ci := 0) (v := .int (nI (((nx + 24) - 1) % 24))) (C := RX0) (T := TX0) (N := 5) hx hb hts nX0_takeBack_0 hown hK.1 hP 0 rfl rfl 3 (by decide) (hts _ mX0_takeBack_1) (fun _ h9 => h9) rfl dX0_takeBack_111 ?_
    refine q_iald (j := (((nx + 24) - 1) % 24)) (v := fc (((nx + 24) - 1) % 24)) hx hb hK hP 2 rfl (by omega) (by decide) (rfl) dX0_takeBack_114 ?_
    have hcl2 := hcl (by omega)
    refine q_top (y := nI cl) (hu2) ?_
    refine lv_aload_n hx hb dX0_takeBack_115 rfl (lv_at hl 0 rfl) ?_
    refine va_get (D := D) (ci := 0) (v := .ref qb) (C := RX0) (T := TX0) (N := 5) hx hb hts nX0_takeBack_0 hown hK.1 hP 0 rfl rfl 2 (by decide) (hts _ mX0_takeBack_6) (fun _ h9 => h9) rfl dX0_takeBack_116 ?_
    refine lv_aload_n hx hb dX0_takeBack_119 rfl (lv_at hl 0 rfl) ?_
    refine va_get (D := D) (ci := 0) (v := .int (nI (((nx + 24) - 1) % 24))) (C := RX0) (T := TX0) (N := 5) hx hb hts nX0_takeBack_0 hown hK.1 hP 0 rfl rfl 3 (by decide) (hts _ mX0_takeBack_1) (fun _ h9 => h9) rfl dX0_takeBack_120 ?_
    refine q_iald (j := (((nx + 24) - 1) % 24)) (v := fb (((nx + 24) - 1) % 24)) hx hb hK hP 3 rfl (by omega) (by decide) (rfl) dX0_takeBack_123 ?_
    refine q_top (y := nI be) (hu3) ?_
    refine q_iast (j := cl) hx hb hK hP hD hS 8 rfl (by omega) (by decide) dX0_takeBack_124 (fun H locs hP hD hS => ?_)
    have hP : va_P D vwCl [(q, .inr (0, [.ref qs, .ref qc, .ref qb, .int (nI (((nx + 24) - 1) % 24)), .int (nI (kp - 1))])), (qs, .inl (cy 0, 24, .inl fs)), (qc, .inl (cy 0, 24, .inl fc)), (qb, .inl (cy 0, 24, .inl fb)), (h, .inr (2, [.int (nI (w 0)), .int (nI (w 1)), .int (nI (w 2)), .int (nI (w 4)), .int (nI (w 3)), .ref kA, .ref tA, .ref eA, .ref oA])), (kA, .inl (cy 0, 6, .inl fk)), (tA, .inl (cy 0, 6, .inl ft)), (eA, .inl (cy 0, 6, .inl fe)), (oA, .inl (cy 0, 6, .inl (upd fo cl (nI be))))] H := hP
    have hD : va_D A [(q, .inr (0, [.ref qs, .ref qc, .ref qb, .int (nI (((nx + 24) - 1) % 24)), .int (nI (kp - 1))])), (qs, .inl (cy 0, 24, .inl fs)), (qc, .inl (cy 0, 24, .inl fc)), (qb, .inl (cy 0, 24, .inl fb)), (h, .inr (2, [.int (nI (w 0)), .int (nI (w 1)), .int (nI (w 2)), .int (nI (w 4)), .int (nI (w 3)), .ref kA, .ref tA, .ref eA, .ref oA])), (kA, .inl (cy 0, 6, .inl fk)), (tA, .inl (cy 0, 6, .inl ft)), (eA, .inl (cy 0, 6, .inl fe)), (oA, .inl (cy 0, 6, .inl (upd fo cl (nI be))))] := hD
    refine lv_goto (tgt := 138) hx hb dX0_takeBack_125 (by decide) ?_
    have hP9 := hP
    have hD9 := hD
    exact q_wvret hx hb hr hlocks dX0_takeBack_138 hP9 hD9 hS (⟨ft, upd fo cl (nI be), ctIs_O hw hcl2, rfl⟩)
theorem nX6_undo_0 : ∀ w ∈ wsX60, w ∈ wsX6_undo := by decide +kernel
theorem mX6_undo_1 : Cond.fieldLink RX6 26 "ClueLeave" "acts" "LClueLeave$Acts;" ∈ wsX6_undo := by decide +kernel
theorem mX6_undo_2 : Cond.fieldLink RX6 47 "ClueLeave" "city" "LClueLeave$City;" ∈ wsX6_undo := by decide +kernel
theorem mX6_undo_3 : Cond.constant RX6 129 (-1000002) ∈ wsX6_undo := by decide +kernel
set_option maxHeartbeats 4000000 in
set_option maxRecDepth 100000 in
theorem c_X6_undo (l : Launch) (D : va_G) (cy : Nat → ClassId) (x0 r0 t0 s0 k0 j0 im : Nat) (st : Int32) (h kA tA eA oA : Nat) (w : Nat → Nat) (fk ft fe fo : Nat → Int32) (hw : ctIs w fk ft fe fo) (hv : ctOk w) (q qs qc qb : Nat) (fs fc fb : Nat → Int32) (nx kp : Nat) (hnx : nx < 24) (hkp : kp ≤ 24) (hU : 0 < kp → ∃ so cl be : Nat, fs ((nx + 24 - 1) % 24) = nI so ∧ fc ((nx + 24 - 1) % 24) = nI cl ∧ fb ((nx + 24 - 1) % 24) = nI be ∧ so ≤ 3 ∧ (so = 2 ∨ so = 3 → cl < w 4) ∧ (so = 0 → 1 ≤ w 2)) : q_Wi l yX6_undo wsX6_undo 2 D cy [(x0, .inr (6, [.ref r0, .ref t0, .ref q, .ref s0, .ref k0, .ref h, .ref j0, .ref im, .int (st)])), (h, .inr (2, [.int (nI (w 0)), .int (nI (w 1)), .int (nI (w 2)), .int (nI (w 4)), .int (nI (w 3)), .ref kA, .ref tA, .ref eA, .ref oA])), (kA, .inl (cy 0, 6, .inl fk)), (tA, .inl (cy 0, 6, .inl ft)), (eA, .inl (cy 0, 6, .inl fe)), (oA, .inl (cy 0, 6, .inl fo)), (q, .inr (0, [.ref qs, .ref qc, .ref qb, .int (nI nx), .int (nI kp)])), (qs, .inl (cy 0, 24, .inl fs)), (qc, .inl (cy 0, 24, .inl fc)), (qb, .inl (cy 0, 24, .inl fb))] [.ref x0] (fun r u => (kp = 0 ∧ r = -1000002 ∧ u = [(x0, .inr (6, [.ref r0, .ref t0, .ref q, .ref s0, .ref k0, .ref h, .ref j0, .ref im, .int (st)])), (h, .inr (2, [.int (nI (w 0)), .int (nI (w 1)), .int (nI (w 2)), .int (nI (w 4)), .int (nI (w 3)), .ref kA, .ref tA, .ref eA, .ref oA])), (kA, .inl (cy 0, 6, .inl fk)), (tA, .inl (cy 0, 6, .inl ft)), (eA, .inl (cy 0, 6, .inl fe)), (oA, .inl (cy 0, 6, .inl fo)), (q, .inr (0, [.ref qs, .ref qc, .ref qb, .int (nI nx), .int (nI kp)])), (qs, .inl (cy 0, 24, .inl fs)), (qc, .inl (cy 0, 24, .inl fc)), (qb, .inl (cy 0, 24, .inl fb))]) ∨ (∃ (so cl be : Nat) (ft2 fo2 : Nat → Int32), 0 < kp ∧ fs ((nx + 24 - 1) % 24) = nI so ∧ fc ((nx + 24 - 1) % 24) = nI cl ∧ fb ((nx + 24 - 1) % 24) = nI be ∧ ctIs (ctUn w so cl be) fk ft2 fe fo2 ∧ r = nI (kp - 1) ∧ u = [(x0, .inr (6, [.ref r0, .ref t0, .ref q, .ref s0, .ref k0, .ref h, .ref j0, .ref im, .int (st)])), (h, .inr (2, [.int (nI ((ctUn w so cl be) 0)), .int (nI ((ctUn w so cl be) 1)), .int (nI ((ctUn w so cl be) 2)), .int (nI ((ctUn w so cl be) 4)), .int (nI ((ctUn w so cl be) 3)), .ref kA, .ref tA, .ref eA, .ref oA])), (kA, .inl (cy 0, 6, .inl fk)), (tA, .inl (cy 0, 6, .inl ft2)), (eA, .inl (cy 0, 6, .inl fe)), (oA, .inl (cy 0, 6, .inl fo2)), (q, .inr (0, [.ref qs, .ref qc, .ref qb, .int (nI ((nx + 24 - 1) % 24)), .int (nI (kp - 1))])), (qs, .inl (cy 0, 24, .inl fs)), (qc, .inl (cy 0, 24, .inl fc)), (qb, .inl (cy 0, 24, .inl fb))])) := by
  refine q_wi_of (cc := cX6_undo) (maxL := 1) (ret := (some .int)) (by decide) rfl (Nat.le_of_ble_eq_true rfl) ?_
  intro pg en s mi args below meth cd A hC hA hK H locs hP hD hS ls hl
  obtain ⟨hx, hb, hr, hml, hown, hts, hlocks⟩ := hC
  have hl : lv_has ls 1 [(0, .ref x0)] := hl
  obtain ⟨hv0, hv1, hv2, hv3, hv4, hvc⟩ := id hv
  refine lv_aload_n hx hb dX6_undo_0 rfl (lv_at hl 0 rfl) ?_
  refine va_get (D := D) (ci := 6) (v := .ref q) (C := RX6) (T := TX6) (N := 9) hx hb hts nX6_undo_0 hown hK.1 hP 0 rfl rfl 2 (by decide) (hts _ mX6_undo_1) (fun _ h9 => h9) rfl dX6_undo_1 ?_
  refine q_rV (As := []) (rest := []) ⟨hx, hb, hml, hown, hts⟩ (c_X0_kept l D cy q qs qc qb fs fc fb nx kp hnx hkp) (cwV 0 hts gX6_undo_X0_kept rfl rfl rfl (by decide +kernel) ⟨Nat.le_of_ble_eq_true rfl, Nat.le_of_ble_eq_true rfl⟩) hP hK [6, 7, 8, 9] rfl 6 rfl rfl rfl rfl hl.1 rfl (Nat.le_of_ble_eq_true rfl) dX6_undo_4 ⟨Nat.zero_le _, Nat.zero_le _⟩ (fun r1 hr1 => ?_)
  obtain rfl := hr1
  refine q_if_ne (tgt := 13) hx hb dX6_undo_7 (by decide) (by omega) (fun c2 => ?_) (fun c2 => ?_)
  · obtain ⟨so, cl, be, hu1, hu2, hu3, hso, hcl, hd⟩ := hU (by omega)
    refine lv_aload_n hx hb dX6_undo_13 rfl (lv_at hl 0 rfl) ?_
    refine va_get (D := D) (ci := 6) (v := .ref q) (C := RX6) (T := TX6) (N := 9) hx hb hts nX6_undo_0 hown hK.1 hP 0 rfl rfl 2 (by decide) (hts _ mX6_undo_1) (fun _ h9 => h9) rfl dX6_undo_14 ?_
    refine lv_aload_n hx hb dX6_undo_17 rfl (lv_at hl 0 rfl) ?_
    refine va_get (D := D) (ci := 6) (v := .ref h) (C := RX6) (T := TX6) (N := 9) hx hb hts nX6_undo_0 hown hK.1 hP 0 rfl rfl 5 (by decide) (hts _ mX6_undo_2) (fun _ h9 => h9) rfl dX6_undo_18 ?_
    refine q_wvV (As := [.ref h]) (rest := []) (wr := [(x0, .inr (6, [.ref r0, .ref t0, .ref q, .ref s0, .ref k0, .ref h, .ref j0, .ref im, .int (st)]))]) ⟨hx, hb, hml, hown, hts⟩ (c_X0_takeBack l D cy q qs qc qb fs fc fb nx kp hnx hkp h kA tA eA oA w fk ft fe fo hw hv so cl be hu1 hu2 hu3 hso hcl hd (by omega)) (cwV 1 hts gX6_undo_X0_takeBack rfl rfl rfl (by decide +kernel) ⟨Nat.le_of_ble_eq_true rfl, Nat.le_of_ble_eq_true rfl⟩) hP hD hS hA hK [6, 7, 8, 9, 1, 2, 3, 4, 5] [0] rfl rfl (by decide) rfl (by decide) (by decide) 6 rfl rfl rfl rfl hl.1 rfl (Nat.le_of_ble_eq_true rfl) dX6_undo_21 ⟨Nat.zero_le _, Nat.zero_le _⟩ (fun u4 H locs hr3 hP hD hS => ?_)
    obtain ⟨ft2, fo2, hu8, rfl⟩ := hr3
    have hP : va_P D vwCl [(x0, .inr (6, [.ref r0, .ref t0, .ref q, .ref s0, .ref k0, .ref h, .ref j0, .ref im, .int (st)])), (q, .inr (0, [.ref qs, .ref qc, .ref qb, .int (nI ((nx + 24 - 1) % 24)), .int (nI (kp - 1))])), (qs, .inl (cy 0, 24, .inl fs)), (qc, .inl (cy 0, 24, .inl fc)), (qb, .inl (cy 0, 24, .inl fb)), (h, .inr (2, [.int (nI ((ctUn w so cl be) 0)), .int (nI ((ctUn w so cl be) 1)), .int (nI ((ctUn w so cl be) 2)), .int (nI ((ctUn w so cl be) 4)), .int (nI ((ctUn w so cl be) 3)), .ref kA, .ref tA, .ref eA, .ref oA])), (kA, .inl (cy 0, 6, .inl fk)), (tA, .inl (cy 0, 6, .inl ft2)), (eA, .inl (cy 0, 6, .inl fe)), (oA, .inl (cy 0, 6, .inl fo2))] H := hP
    have hD : va_D A [(x0, .inr (6, [.ref r0, .ref t0, .ref q, .ref s0, .ref k0, .ref h, .ref j0, .ref im, .int (st)])), (q, .inr (0, [.ref qs, .ref qc, .ref qb, .int (nI ((nx + 24 - 1) % 24)), .int (nI (kp - 1))])), (qs, .inl (cy 0, 24, .inl fs)), (qc, .inl (cy 0, 24, .inl fc)), (qb, .inl (cy 0, 24, .inl fb)), (h, .inr (2, [.int (nI ((ctUn w so cl be) 0)), .int (nI ((ctUn w so cl be) 1)), .int (nI ((ctUn w so cl be) 2)), .int (nI ((ctUn w so cl be) 4)), .int (nI ((ctUn w so cl be) 3)), .ref kA, .ref tA, .ref eA, .ref oA])), (kA, .inl (cy 0, 6, .inl fk)), (tA, .inl (cy 0, 6, .inl ft2)), (eA, .inl (cy 0, 6, .inl fe)), (oA, .inl (cy 0, 6, .inl fo2))] := hD
    refine lv_aload_n hx hb dX6_undo_24 rfl (lv_at hl 0 rfl) ?_
    refine va_get (D := D) (ci := 6) (v := .ref q) (C := RX6) (T := TX6) (N := 9) hx hb hts nX6_undo_0 hown hK.1 hP 0 rfl rfl 2 (by decide) (hts _ mX6_undo_1) (fun _ h9 => h9) rfl dX6_undo_25 ?_
    refine q_rV (As := []) (rest := []) ⟨hx, hb, hml, hown, hts⟩ (c_X0_kept l D cy q qs qc qb fs fc fb ((nx + 24 - 1) % 24) (kp - 1) (Nat.mod_lt _ (by decide)) (by omega)) (cwV 0 hts gX6_undo_X0_kept rfl rfl rfl (by decide +kernel) ⟨Nat.le_of_ble_eq_true rfl, Nat.le_of_ble_eq_true rfl⟩) hP hK [1, 2, 3, 4] rfl 1 rfl rfl rfl rfl hl.1 rfl (Nat.le_of_ble_eq_true rfl) dX6_undo_28 ⟨Nat.zero_le _, Nat.zero_le _⟩ (fun r5 hr5 => ?_)
    obtain rfl := hr5
    have hP9 := hP.sub (ws' := [(x0, .inr (6, [.ref r0, .ref t0, .ref q, .ref s0, .ref k0, .ref h, .ref j0, .ref im, .int (st)])), (h, .inr (2, [.int (nI ((ctUn w so cl be) 0)), .int (nI ((ctUn w so cl be) 1)), .int (nI ((ctUn w so cl be) 2)), .int (nI ((ctUn w so cl be) 4)), .int (nI ((ctUn w so cl be) 3)), .ref kA, .ref tA, .ref eA, .ref oA])), (kA, .inl (cy 0, 6, .inl fk)), (tA, .inl (cy 0, 6, .inl ft2)), (eA, .inl (cy 0, 6, .inl fe)), (oA, .inl (cy 0, 6, .inl fo2)), (q, .inr (0, [.ref qs, .ref qc, .ref qb, .int (nI ((nx + 24 - 1) % 24)), .int (nI (kp - 1))])), (qs, .inl (cy 0, 24, .inl fs)), (qc, .inl (cy 0, 24, .inl fc)), (qb, .inl (cy 0, 24, .inl fb))]) [0, 5, 6, 7, 8, 9, 1, 2, 3, 4] rfl
    have hD9 := hD.sub (ws' := [(x0, .inr (6, [.ref r0, .ref t0, .ref q, .ref s0, .ref k0, .ref h, .ref j0, .ref im, .int (st)])), (h, .inr (2, [.int (nI ((ctUn w so cl be) 0)), .int (nI ((ctUn w so cl be) 1)), .int (nI ((ctUn w so cl be) 2)), .int (nI ((ctUn w so cl be) 4)), .int (nI ((ctUn w so cl be) 3)), .ref kA, .ref tA, .ref eA, .ref oA])), (kA, .inl (cy 0, 6, .inl fk)), (tA, .inl (cy 0, 6, .inl ft2)), (eA, .inl (cy 0, 6, .inl fe)), (oA, .inl (cy 0, 6, .inl fo2)), (q, .inr (0, [.ref qs, .ref qc, .ref qb, .int (nI ((nx + 24 - 1) % 24)), .int (nI (kp - 1))])), (qs, .inl (cy 0, 24, .inl fs)), (qc, .inl (cy 0, 24, .inl fc)), (qb, .inl (cy 0, 24, .inl fb))]) [0, 5, 6, 7, 8, 9, 1, 2, 3, 4] (by decide) rfl
    exact q_wiret (v := nI (kp - 1)) hx hb hr hlocks dX6_undo_31 hP9 hD9 hS (Or.inr ⟨so, cl, be, ft2, fo2, by omega, hu1, hu2, hu3, hu8, rfl, rfl⟩)
  · refine lv_ldc (v := (-1000002)) hx hb hown (hts _ mX6_undo_3) dX6_undo_10 ?_
    have hP9 := hP
    have hD9 := hD
    exact q_wiret (v := (-1000002)) hx hb hr hlocks dX6_undo_12 hP9 hD9 hS (Or.inl ⟨by omega, rfl, rfl⟩)
theorem nX6_as_0 : ∀ w ∈ wsX60, w ∈ wsX6_as := by decide +kernel
theorem mX6_as_1 : Cond.fieldLink RX6 47 "ClueLeave" "city" "LClueLeave$City;" ∈ wsX6_as := by decide +kernel
theorem mX6_as_2 : Cond.fieldLink RX6 238 "ClueLeave" "IS_ALSO" "[I" ∈ wsX6_as := by decide +kernel
theorem nX6_as_3 : ∀ w ∈ wsX20, w ∈ wsX6_as := by decide +kernel
theorem mX6_as_4 : Cond.fieldLink RX6 216 "ClueLeave$City" "kinds" "[I" ∈ wsX6_as := by decide +kernel
theorem mX6_as_5 : Cond.constant RX6 66 (-1000001) ∈ wsX6_as := by decide +kernel
set_option maxHeartbeats 4000000 in
set_option maxRecDepth 100000 in
theorem c_X6_as (l : Launch) (D : va_G) (cy : Nat → ClassId) (x0 r0 t0 q s0 k0 j0 im : Nat) (st : Int32) (h kA tA eA oA : Nat) (w : Nat → Nat) (fk ft fe fo : Nat → Int32) (hw : ctIs w fk ft fe fo) (hv : ctOk w) (x k : Int32) : q_WiA l yX6_as wsX6_as 2 D cy [(x0, .inr (6, [.ref r0, .ref t0, .ref q, .ref s0, .ref k0, .ref h, .ref j0, .ref im, .int (st)])), (h, .inr (2, [.int (nI (w 0)), .int (nI (w 1)), .int (nI (w 2)), .int (nI (w 4)), .int (nI (w 3)), .ref kA, .ref tA, .ref eA, .ref oA])), (kA, .inl (cy 0, 6, .inl fk)), (tA, .inl (cy 0, 6, .inl ft)), (eA, .inl (cy 0, 6, .inl fe)), (oA, .inl (cy 0, 6, .inl fo))] [.ref x0, .int (x), .int (k)] (fun r u => ∃ st2 : Int32, oAs w st x k = (r, st2) ∧ u = [(x0, .inr (6, [.ref r0, .ref t0, .ref q, .ref s0, .ref k0, .ref h, .ref j0, .ref im, .int (st2)])), (h, .inr (2, [.int (nI (w 0)), .int (nI (w 1)), .int (nI (w 2)), .int (nI (w 4)), .int (nI (w 3)), .ref kA, .ref tA, .ref eA, .ref oA])), (kA, .inl (cy 0, 6, .inl fk)), (tA, .inl (cy 0, 6, .inl ft)), (eA, .inl (cy 0, 6, .inl fe)), (oA, .inl (cy 0, 6, .inl fo))]) := by
  refine q_wia_of (cc := cX6_as) (maxL := 3) (ret := (some .int)) (by decide) rfl (Nat.le_of_ble_eq_true rfl) ?_
  intro pg en s mi args below meth cd A hC hA hK hZ H locs hP hD hS ls hl
  obtain ⟨hx, hb, hr, hml, hown, hts, hlocks⟩ := hC
  have hl : lv_has ls 3 [(0, .ref x0), (1, .int (x)), (2, .int (k))] := hl
  obtain ⟨hv0, hv1, hv2, hv3, hv4, hvc⟩ := id hv
  obtain ⟨t1, hz1, hz2⟩ := id hZ
  refine lv_aload_n hx hb dX6_as_0 rfl (lv_at hl 0 rfl) ?_
  refine va_get (D := D) (ci := 6) (v := .ref h) (C := RX6) (T := TX6) (N := 9) hx hb hts nX6_as_0 hown hK.1 hP 0 rfl rfl 5 (by decide) (hts _ mX6_as_1) (fun _ h9 => h9) rfl dX6_as_1 ?_
  refine lv_iload_n hx hb dX6_as_4 rfl (lv_at hl 1 rfl) ?_
  refine q_rV (As := [.int (x)]) (rest := []) ⟨hx, hb, hml, hown, hts⟩ (c_X2_has l D cy h kA tA eA oA w fk ft fe fo hw hv x) (cwV 1 hts gX6_as_X2_has rfl rfl rfl (by decide +kernel) ⟨Nat.le_of_ble_eq_true rfl, Nat.le_of_ble_eq_true rfl⟩) hP hK [1, 2, 3, 4, 5] rfl 1 rfl rfl rfl rfl hl.1 rfl (Nat.le_of_ble_eq_true rfl) dX6_as_5 ⟨Nat.zero_le _, Nat.zero_le _⟩ (fun r1 hr1 => ?_)
  rcases hr1 with ⟨rfl, b2⟩ | ⟨rfl, b2⟩
  · replace b2 := (inC_i (by omega)).mp b2
    refine lv_if_eq (tgt := 20) hx hb dX6_as_8 (by decide) (fun c9 => absurd c9 (by decide)) (fun _ => ?_)
    obtain ⟨c, hc, rfl⟩ := (inC_i (by omega)).mpr b2
    obtain ⟨hk1, hk5, ht1, ht2, he2, he4, ho1⟩ := hvc c hc
    refine lv_iload_n hx hb dX6_as_11 rfl (lv_at hl 2 rfl) ?_
    refine lv_iconst (v := nI 0) hx hb dX6_as_12 (by decide) ?_
    refine lv_iconst (v := nI 5) hx hb dX6_as_13 (by decide) ?_
    refine q_rS (As := [.int (k), .int (nI 0), .int (nI 5)]) (rest := []) ⟨hx, hb, hml, hown, hts⟩ (c_X6_isWithin l D cy k (nI 0) (nI 5)) (va_cwS 3 hts gX6_as_X6_isWithin rfl rfl rfl (by decide +kernel) ⟨Nat.le_of_ble_eq_true rfl, Nat.le_of_ble_eq_true rfl⟩) hP hK [] rfl rfl hl.1 rfl (Nat.le_of_ble_eq_true rfl) dX6_as_14 ⟨Nat.zero_le _, Nat.zero_le _⟩ (fun r3 hr3 => ?_)
    rcases hr3 with ⟨rfl, b4⟩ | ⟨rfl, b4⟩
    · have _ := b4
      refine lv_if_ne (tgt := 23) hx hb dX6_as_17 (by decide) (fun _ => ?_) (fun c9 => absurd c9 (by decide))
      obtain ⟨m, -, hm, rfl⟩ := q_rng b4 (by decide) (by decide)
      refine va_gets (v := .ref t1) hx hb hz1 hS hown (hts _ mX6_as_2) (fun _ h9 => h9) dX6_as_23 ?_
      refine lv_aload_n hx hb dX6_as_26 rfl (lv_at hl 0 rfl) ?_
      refine va_get (D := D) (ci := 6) (v := .ref h) (C := RX6) (T := TX6) (N := 9) hx hb hts nX6_as_0 hown hK.1 hP 0 rfl rfl 5 (by decide) (hts _ mX6_as_1) (fun _ h9 => h9) rfl dX6_as_27 ?_
      refine va_get (D := D) (ci := 2) (v := .ref kA) (C := RX2) (T := TX2) (N := 9) hx hb hts nX6_as_3 hown hK.1 hP 1 rfl rfl 5 (by decide) (hts _ mX6_as_4) (fun _ h9 => h9) rfl dX6_as_30 ?_
      refine lv_iload_n hx hb dX6_as_33 rfl (lv_at hl 1 rfl) ?_
      refine q_iald (j := c) (v := nI (ctK w c)) hx hb hK hP 2 rfl (by omega) (by decide) (ctIs_0 hw (by omega)) dX6_as_34 ?_
      refine va_ti (v := .int (nI (asM (ctK w c)))) hx hb hz2 hS (vp_in_nI (by omega) (by decide)) (by rw [nI_clamp (by omega)]; rfl) dX6_as_35 ?_
      have ham := asM_lt (ctK w c)
      refine lv_iload_n hx hb dX6_as_36 rfl (lv_at hl 2 rfl) ?_
      refine q_rS (As := [.int (nI (asM (ctK w c))), .int (nI m)]) (rest := []) ⟨hx, hb, hml, hown, hts⟩ (c_X6_isIn l D cy (asM (ctK w c)) m (by omega) (by omega)) (va_cwS 2 hts gX6_as_X6_isIn rfl rfl rfl (by decide +kernel) ⟨Nat.le_of_ble_eq_true rfl, Nat.le_of_ble_eq_true rfl⟩) hP hK [] rfl rfl hl.1 rfl (Nat.le_of_ble_eq_true rfl) dX6_as_37 ⟨Nat.zero_le _, Nat.zero_le _⟩ (fun r5 hr5 => ?_)
      rcases hr5 with ⟨rfl, b6⟩ | ⟨rfl, b6⟩
      · have _ := b6
        refine lv_if_ne (tgt := 49) hx hb dX6_as_40 (by decide) (fun _ => ?_) (fun c9 => absurd c9 (by decide))
        refine lv_aload_n hx hb dX6_as_49 rfl (lv_at hl 0 rfl) ?_
        refine lv_iload_n hx hb dX6_as_50 rfl (lv_at hl 1 rfl) ?_
        refine q_wiV (As := [.int (nI c)]) (rest := []) (wr := [(h, .inr (2, [.int (nI (w 0)), .int (nI (w 1)), .int (nI (w 2)), .int (nI (w 4)), .int (nI (w 3)), .ref kA, .ref tA, .ref eA, .ref oA])), (kA, .inl (cy 0, 6, .inl fk)), (tA, .inl (cy 0, 6, .inl ft)), (eA, .inl (cy 0, 6, .inl fe)), (oA, .inl (cy 0, 6, .inl fo))]) ⟨hx, hb, hml, hown, hts⟩ (c_X6_sound l D cy x0 r0 t0 q s0 k0 h j0 im st (nI c)) (cwV 1 hts gX6_as_X6_sound rfl rfl rfl (by decide +kernel) ⟨Nat.le_of_ble_eq_true rfl, Nat.le_of_ble_eq_true rfl⟩) hP hD hS hA hK [0] [1, 2, 3, 4, 5] rfl rfl (by decide) rfl (by decide) (by decide) 0 rfl rfl rfl rfl hl.1 rfl (Nat.le_of_ble_eq_true rfl) dX6_as_51 ⟨Nat.zero_le _, Nat.zero_le _⟩ (fun r7 u8 H locs hr7 hP hD hS => ?_)
        obtain ⟨rfl, rfl⟩ := hr7
        have hP : va_P D vwCl [(h, .inr (2, [.int (nI (w 0)), .int (nI (w 1)), .int (nI (w 2)), .int (nI (w 4)), .int (nI (w 3)), .ref kA, .ref tA, .ref eA, .ref oA])), (kA, .inl (cy 0, 6, .inl fk)), (tA, .inl (cy 0, 6, .inl ft)), (eA, .inl (cy 0, 6, .inl fe)), (oA, .inl (cy 0, 6, .inl fo)), (x0, .inr (6, [.ref r0, .ref t0, .ref q, .ref s0, .ref k0, .ref h, .ref j0, .ref im, .int (nI 0)]))] H := hP
        have hD : va_D A [(h, .inr (2, [.int (nI (w 0)), .int (nI (w 1)), .int (nI (w 2)), .int (nI (w 4)), .int (nI (w 3)), .ref kA, .ref tA, .ref eA, .ref oA])), (kA, .inl (cy 0, 6, .inl fk)), (tA, .inl (cy 0, 6, .inl ft)), (eA, .inl (cy 0, 6, .inl fe)), (oA, .inl (cy 0, 6, .inl fo)), (x0, .inr (6, [.ref r0, .ref t0, .ref q, .ref s0, .ref k0, .ref h, .ref j0, .ref im, .int (nI 0)]))] := hD
        have hP9 := hP.sub (ws' := [(x0, .inr (6, [.ref r0, .ref t0, .ref q, .ref s0, .ref k0, .ref h, .ref j0, .ref im, .int (nI 0)])), (h, .inr (2, [.int (nI (w 0)), .int (nI (w 1)), .int (nI (w 2)), .int (nI (w 4)), .int (nI (w 3)), .ref kA, .ref tA, .ref eA, .ref oA])), (kA, .inl (cy 0, 6, .inl fk)), (tA, .inl (cy 0, 6, .inl ft)), (eA, .inl (cy 0, 6, .inl fe)), (oA, .inl (cy 0, 6, .inl fo))]) [5, 0, 1, 2, 3, 4] rfl
        have hD9 := hD.sub (ws' := [(x0, .inr (6, [.ref r0, .ref t0, .ref q, .ref s0, .ref k0, .ref h, .ref j0, .ref im, .int (nI 0)])), (h, .inr (2, [.int (nI (w 0)), .int (nI (w 1)), .int (nI (w 2)), .int (nI (w 4)), .int (nI (w 3)), .ref kA, .ref tA, .ref eA, .ref oA])), (kA, .inl (cy 0, 6, .inl fk)), (tA, .inl (cy 0, 6, .inl ft)), (eA, .inl (cy 0, 6, .inl fe)), (oA, .inl (cy 0, 6, .inl fo))]) [5, 0, 1, 2, 3, 4] (by decide) rfl
        exact q_wiret (v := nI c) hx hb hr hlocks dX6_as_54 hP9 hD9 hS (⟨_, by simp only [oAs, q_cl (by omega : c < 2147483648), q_cl (by omega : m < 2147483648), if_pos b2, if_pos b4, if_pos b6], rfl⟩)
      · have _ := b6
        refine lv_if_ne (tgt := 49) hx hb dX6_as_40 (by decide) (fun c9 => absurd (by decide) c9) (fun _ => ?_)
        refine lv_aload_n hx hb dX6_as_43 rfl (lv_at hl 0 rfl) ?_
        refine lv_iconst (v := nI 3) hx hb dX6_as_44 (by decide) ?_
        refine q_wiV (As := [.int (nI 3)]) (rest := []) (wr := [(h, .inr (2, [.int (nI (w 0)), .int (nI (w 1)), .int (nI (w 2)), .int (nI (w 4)), .int (nI (w 3)), .ref kA, .ref tA, .ref eA, .ref oA])), (kA, .inl (cy 0, 6, .inl fk)), (tA, .inl (cy 0, 6, .inl ft)), (eA, .inl (cy 0, 6, .inl fe)), (oA, .inl (cy 0, 6, .inl fo))]) ⟨hx, hb, hml, hown, hts⟩ (c_X6_found l D cy x0 r0 t0 q s0 k0 h j0 im st (nI 3)) (cwV 1 hts gX6_as_X6_found rfl rfl rfl (by decide +kernel) ⟨Nat.le_of_ble_eq_true rfl, Nat.le_of_ble_eq_true rfl⟩) hP hD hS hA hK [0] [1, 2, 3, 4, 5] rfl rfl (by decide) rfl (by decide) (by decide) 0 rfl rfl rfl rfl hl.1 rfl (Nat.le_of_ble_eq_true rfl) dX6_as_45 ⟨Nat.zero_le _, Nat.zero_le _⟩ (fun r9 u10 H locs hr9 hP hD hS => ?_)
        obtain ⟨rfl, rfl⟩ := hr9
        have hP : va_P D vwCl [(h, .inr (2, [.int (nI (w 0)), .int (nI (w 1)), .int (nI (w 2)), .int (nI (w 4)), .int (nI (w 3)), .ref kA, .ref tA, .ref eA, .ref oA])), (kA, .inl (cy 0, 6, .inl fk)), (tA, .inl (cy 0, 6, .inl ft)), (eA, .inl (cy 0, 6, .inl fe)), (oA, .inl (cy 0, 6, .inl fo)), (x0, .inr (6, [.ref r0, .ref t0, .ref q, .ref s0, .ref k0, .ref h, .ref j0, .ref im, .int (nI 3)]))] H := hP
        have hD : va_D A [(h, .inr (2, [.int (nI (w 0)), .int (nI (w 1)), .int (nI (w 2)), .int (nI (w 4)), .int (nI (w 3)), .ref kA, .ref tA, .ref eA, .ref oA])), (kA, .inl (cy 0, 6, .inl fk)), (tA, .inl (cy 0, 6, .inl ft)), (eA, .inl (cy 0, 6, .inl fe)), (oA, .inl (cy 0, 6, .inl fo)), (x0, .inr (6, [.ref r0, .ref t0, .ref q, .ref s0, .ref k0, .ref h, .ref j0, .ref im, .int (nI 3)]))] := hD
        refine q_top (y := (-1000013)) (by decide) ?_
        have hP9 := hP.sub (ws' := [(x0, .inr (6, [.ref r0, .ref t0, .ref q, .ref s0, .ref k0, .ref h, .ref j0, .ref im, .int (nI 3)])), (h, .inr (2, [.int (nI (w 0)), .int (nI (w 1)), .int (nI (w 2)), .int (nI (w 4)), .int (nI (w 3)), .ref kA, .ref tA, .ref eA, .ref oA])), (kA, .inl (cy 0, 6, .inl fk)), (tA, .inl (cy 0, 6, .inl ft)), (eA, .inl (cy 0, 6, .inl fe)), (oA, .inl (cy 0, 6, .inl fo))]) [5, 0, 1, 2, 3, 4] rfl
        have hD9 := hD.sub (ws' := [(x0, .inr (6, [.ref r0, .ref t0, .ref q, .ref s0, .ref k0, .ref h, .ref j0, .ref im, .int (nI 3)])), (h, .inr (2, [.int (nI (w 0)), .int (nI (w 1)), .int (nI (w 2)), .int (nI (w 4)), .int (nI (w 3)), .ref kA, .ref tA, .ref eA, .ref oA])), (kA, .inl (cy 0, 6, .inl fk)), (tA, .inl (cy 0, 6, .inl ft)), (eA, .inl (cy 0, 6, .inl fe)), (oA, .inl (cy 0, 6, .inl fo))]) [5, 0, 1, 2, 3, 4] (by decide) rfl
        exact q_wiret (v := (-1000013)) hx hb hr hlocks dX6_as_48 hP9 hD9 hS (⟨_, by simp only [oAs, q_cl (by omega : c < 2147483648), q_cl (by omega : m < 2147483648), if_pos b2, if_pos b4, if_neg b6], rfl⟩)
    · have _ := b4
      refine lv_if_ne (tgt := 23) hx hb dX6_as_17 (by decide) (fun c9 => absurd (by decide) c9) (fun _ => ?_)
      refine lv_ldc (v := (-1000001)) hx hb hown (hts _ mX6_as_5) dX6_as_20 ?_
      have hP9 := hP
      have hD9 := hD
      exact q_wiret (v := (-1000001)) hx hb hr hlocks dX6_as_22 hP9 hD9 hS (⟨_, by simp only [oAs, q_cl (by omega : c < 2147483648), if_pos b2, if_neg b4], rfl⟩)
  · replace b2 := fun q => b2 ((inC_i (by omega)).mpr q)
    refine lv_if_eq (tgt := 20) hx hb dX6_as_8 (by decide) (fun _ => ?_) (fun c9 => absurd (by decide) c9)
    refine lv_ldc (v := (-1000001)) hx hb hown (hts _ mX6_as_5) dX6_as_20 ?_
    have hP9 := hP
    have hD9 := hD
    exact q_wiret (v := (-1000001)) hx hb hr hlocks dX6_as_22 hP9 hD9 hS (⟨_, by simp only [oAs, if_neg b2], rfl⟩)
theorem nX6_ask_0 : ∀ w ∈ wsX60, w ∈ wsX6_ask := by decide +kernel
theorem mX6_ask_1 : Cond.fieldLink RX6 47 "ClueLeave" "city" "LClueLeave$City;" ∈ wsX6_ask := by decide +kernel
theorem mX6_ask_2 : Cond.fieldLink RX6 40 "ClueLeave" "asks" "LClueLeave$Asks;" ∈ wsX6_ask := by decide +kernel
theorem mX6_ask_3 : Cond.constant RX6 66 (-1000001) ∈ wsX6_ask := by decide +kernel
set_option maxHeartbeats 4000000 in
set_option maxRecDepth 100000 in
theorem c_X6_ask (l : Launch) (D : va_G) (cy : Nat → ClassId) (x0 r0 t0 q s0 j0 im : Nat) (st : Int32) (k0 kt : Nat) (tf : Nat → Int32) (tn : Nat) (h kA tA eA oA : Nat) (w : Nat → Nat) (fk ft fe fo : Nat → Int32) (hw : ctIs w fk ft fe fo) (hv : ctOk w) (x y : Int32) : q_WiZ l yX6_ask wsX6_ask 12 D cy [(x0, .inr (6, [.ref r0, .ref t0, .ref q, .ref s0, .ref k0, .ref h, .ref j0, .ref im, .int (st)])), (k0, .inr (1, [.ref kt, .int (nI tn)])), (kt, .inl (cy 0, 16, .inl tf)), (h, .inr (2, [.int (nI (w 0)), .int (nI (w 1)), .int (nI (w 2)), .int (nI (w 4)), .int (nI (w 3)), .ref kA, .ref tA, .ref eA, .ref oA])), (kA, .inl (cy 0, 6, .inl fk)), (tA, .inl (cy 0, 6, .inl ft)), (eA, .inl (cy 0, 6, .inl fe)), (oA, .inl (cy 0, 6, .inl fo))] [.ref x0, .int (x), .int (y)] (fun r u => ∃ (tf2 : Nat → Int32) (tn2 : Nat), oAsk w tf tn x y = (r, tf2, tn2) ∧ u = [(x0, .inr (6, [.ref r0, .ref t0, .ref q, .ref s0, .ref k0, .ref h, .ref j0, .ref im, .int (st)])), (k0, .inr (1, [.ref kt, .int (nI tn2)])), (kt, .inl (cy 0, 16, .inl tf2)), (h, .inr (2, [.int (nI (w 0)), .int (nI (w 1)), .int (nI (w 2)), .int (nI (w 4)), .int (nI (w 3)), .ref kA, .ref tA, .ref eA, .ref oA])), (kA, .inl (cy 0, 6, .inl fk)), (tA, .inl (cy 0, 6, .inl ft)), (eA, .inl (cy 0, 6, .inl fe)), (oA, .inl (cy 0, 6, .inl fo))]) := by
  refine q_wiz_of (cc := cX6_ask) (maxL := 3) (ret := (some .int)) (by decide) rfl (Nat.le_of_ble_eq_true rfl) ?_
  intro pg en s mi args below meth cd A hC hA hK hZ H locs hP hD hS ls hl
  obtain ⟨hx, hb, hr, hml, hown, hts, hlocks⟩ := hC
  have hl : lv_has ls 3 [(0, .ref x0), (1, .int (x)), (2, .int (y))] := hl
  obtain ⟨hv0, hv1, hv2, hv3, hv4, hvc⟩ := id hv
  refine lv_aload_n hx hb dX6_ask_0 rfl (lv_at hl 0 rfl) ?_
  refine va_get (D := D) (ci := 6) (v := .ref h) (C := RX6) (T := TX6) (N := 9) hx hb hts nX6_ask_0 hown hK.1 hP 0 rfl rfl 5 (by decide) (hts _ mX6_ask_1) (fun _ h9 => h9) rfl dX6_ask_1 ?_
  refine lv_iload_n hx hb dX6_ask_4 rfl (lv_at hl 1 rfl) ?_
  refine q_rV (As := [.int (x)]) (rest := []) ⟨hx, hb, hml, hown, hts⟩ (c_X2_has l D cy h kA tA eA oA w fk ft fe fo hw hv x) (cwV 1 hts gX6_ask_X2_has rfl rfl rfl (by decide +kernel) ⟨Nat.le_of_ble_eq_true rfl, Nat.le_of_ble_eq_true rfl⟩) hP hK [3, 4, 5, 6, 7] rfl 3 rfl rfl rfl rfl hl.1 rfl (Nat.le_of_ble_eq_true rfl) dX6_ask_5 ⟨Nat.zero_le _, Nat.zero_le _⟩ (fun r1 hr1 => ?_)
  rcases hr1 with ⟨rfl, b2⟩ | ⟨rfl, b2⟩
  · replace b2 := (inC_i (by omega)).mp b2
    refine lv_if_eq (tgt := 20) hx hb dX6_ask_8 (by decide) (fun c9 => absurd c9 (by decide)) (fun _ => ?_)
    obtain ⟨c, hc, rfl⟩ := (inC_i (by omega)).mpr b2
    obtain ⟨hk1, hk5, ht1, ht2, he2, he4, ho1⟩ := hvc c hc
    refine lv_iload_n hx hb dX6_ask_11 rfl (lv_at hl 2 rfl) ?_
    refine lv_iconst (v := nI 0) hx hb dX6_ask_12 (by decide) ?_
    refine lv_iconst (v := nI 1) hx hb dX6_ask_13 (by decide) ?_
    refine q_rS (As := [.int (y), .int (nI 0), .int (nI 1)]) (rest := []) ⟨hx, hb, hml, hown, hts⟩ (c_X6_isWithin l D cy y (nI 0) (nI 1)) (va_cwS 3 hts gX6_ask_X6_isWithin rfl rfl rfl (by decide +kernel) ⟨Nat.le_of_ble_eq_true rfl, Nat.le_of_ble_eq_true rfl⟩) hP hK [] rfl rfl hl.1 rfl (Nat.le_of_ble_eq_true rfl) dX6_ask_14 ⟨Nat.zero_le _, Nat.zero_le _⟩ (fun r3 hr3 => ?_)
    rcases hr3 with ⟨rfl, b4⟩ | ⟨rfl, b4⟩
    · have _ := b4
      refine lv_if_ne (tgt := 23) hx hb dX6_ask_17 (by decide) (fun _ => ?_) (fun c9 => absurd c9 (by decide))
      obtain ⟨m, -, hm, rfl⟩ := q_rng b4 (by decide) (by decide)
      rcases q_15 hk1 hk5 with hkd | hkd | hkd | hkd | hkd
      · rcases (show m = 0 ∨ m = 1 by omega) with rfl | rfl
        · refine lv_aload_n hx hb dX6_ask_23 rfl (lv_at hl 0 rfl) ?_
          refine va_get (D := D) (ci := 6) (v := .ref k0) (C := RX6) (T := TX6) (N := 9) hx hb hts nX6_ask_0 hown hK.1 hP 0 rfl rfl 4 (by decide) (hts _ mX6_ask_2) (fun _ h9 => h9) rfl dX6_ask_24 ?_
          refine lv_aload_n hx hb dX6_ask_27 rfl (lv_at hl 0 rfl) ?_
          refine va_get (D := D) (ci := 6) (v := .ref h) (C := RX6) (T := TX6) (N := 9) hx hb hts nX6_ask_0 hown hK.1 hP 0 rfl rfl 5 (by decide) (hts _ mX6_ask_1) (fun _ h9 => h9) rfl dX6_ask_28 ?_
          refine lv_iload_n hx hb dX6_ask_31 rfl (lv_at hl 1 rfl) ?_
          refine lv_iload_n hx hb dX6_ask_32 rfl (lv_at hl 2 rfl) ?_
          refine q_wizV (As := [.ref h, .int (nI c), .int (nI 0)]) (rest := []) (wr := [(x0, .inr (6, [.ref r0, .ref t0, .ref q, .ref s0, .ref k0, .ref h, .ref j0, .ref im, .int (st)]))]) ⟨hx, hb, hml, hown, hts⟩ (c_ans_0_1 l D cy k0 kt tf tn h kA tA eA oA w fk ft fe fo hw hv c hc hkd) (cwV 3 hts gX6_ask_X1_answer rfl rfl rfl (by decide +kernel) ⟨Nat.le_of_ble_eq_true rfl, Nat.le_of_ble_eq_true rfl⟩) hP hD hS hA hK hZ [1, 2, 3, 4, 5, 6, 7] [0] rfl rfl (by decide) rfl (by decide) (by decide) 1 rfl rfl rfl rfl hl.1 rfl (Nat.le_of_ble_eq_true rfl) dX6_ask_33 ⟨Nat.zero_le _, Nat.zero_le _⟩ (fun r5 u6 H locs hr5 hP hD hS => ?_)
          obtain ⟨rfl, rfl⟩ := hr5
          have hP : va_P D vwCl [(x0, .inr (6, [.ref r0, .ref t0, .ref q, .ref s0, .ref k0, .ref h, .ref j0, .ref im, .int (st)])), (k0, .inr (1, [.ref kt, .int (nI (0 + 4))])), (kt, .inl (cy 0, 16, .inl (trP tf 0 [11, 10, 21, 20]))), (h, .inr (2, [.int (nI (w 0)), .int (nI (w 1)), .int (nI (w 2)), .int (nI (w 4)), .int (nI (w 3)), .ref kA, .ref tA, .ref eA, .ref oA])), (kA, .inl (cy 0, 6, .inl fk)), (tA, .inl (cy 0, 6, .inl ft)), (eA, .inl (cy 0, 6, .inl fe)), (oA, .inl (cy 0, 6, .inl fo))] H := hP
          have hD : va_D A [(x0, .inr (6, [.ref r0, .ref t0, .ref q, .ref s0, .ref k0, .ref h, .ref j0, .ref im, .int (st)])), (k0, .inr (1, [.ref kt, .int (nI (0 + 4))])), (kt, .inl (cy 0, 16, .inl (trP tf 0 [11, 10, 21, 20]))), (h, .inr (2, [.int (nI (w 0)), .int (nI (w 1)), .int (nI (w 2)), .int (nI (w 4)), .int (nI (w 3)), .ref kA, .ref tA, .ref eA, .ref oA])), (kA, .inl (cy 0, 6, .inl fk)), (tA, .inl (cy 0, 6, .inl ft)), (eA, .inl (cy 0, 6, .inl fe)), (oA, .inl (cy 0, 6, .inl fo))] := hD
          have hP9 := hP
          have hD9 := hD
          exact q_wiret (v := nI (ctT w c + (c + ctO w c))) hx hb hr hlocks dX6_ask_36 hP9 hD9 hS (⟨_, _, by simp only [oAsk, if_pos b2, if_pos b4, q_cl (by omega : c < 2147483648), q_cl (by decide : 0 < 2147483648), askS, askM, askSL, askML, hkd]; rfl, rfl⟩)
        · refine lv_aload_n hx hb dX6_ask_23 rfl (lv_at hl 0 rfl) ?_
          refine va_get (D := D) (ci := 6) (v := .ref k0) (C := RX6) (T := TX6) (N := 9) hx hb hts nX6_ask_0 hown hK.1 hP 0 rfl rfl 4 (by decide) (hts _ mX6_ask_2) (fun _ h9 => h9) rfl dX6_ask_24 ?_
          refine lv_aload_n hx hb dX6_ask_27 rfl (lv_at hl 0 rfl) ?_
          refine va_get (D := D) (ci := 6) (v := .ref h) (C := RX6) (T := TX6) (N := 9) hx hb hts nX6_ask_0 hown hK.1 hP 0 rfl rfl 5 (by decide) (hts _ mX6_ask_1) (fun _ h9 => h9) rfl dX6_ask_28 ?_
          refine lv_iload_n hx hb dX6_ask_31 rfl (lv_at hl 1 rfl) ?_
          refine lv_iload_n hx hb dX6_ask_32 rfl (lv_at hl 2 rfl) ?_
          refine q_wizV (As := [.ref h, .int (nI c), .int (nI 1)]) (rest := []) (wr := [(x0, .inr (6, [.ref r0, .ref t0, .ref q, .ref s0, .ref k0, .ref h, .ref j0, .ref im, .int (st)]))]) ⟨hx, hb, hml, hown, hts⟩ (c_ans_1_1 l D cy k0 kt tf tn h kA tA eA oA w fk ft fe fo hw hv c hc hkd) (cwV 3 hts gX6_ask_X1_answer rfl rfl rfl (by decide +kernel) ⟨Nat.le_of_ble_eq_true rfl, Nat.le_of_ble_eq_true rfl⟩) hP hD hS hA hK hZ [1, 2, 3, 4, 5, 6, 7] [0] rfl rfl (by decide) rfl (by decide) (by decide) 1 rfl rfl rfl rfl hl.1 rfl (Nat.le_of_ble_eq_true rfl) dX6_ask_33 ⟨Nat.zero_le _, Nat.zero_le _⟩ (fun r7 u8 H locs hr7 hP hD hS => ?_)
          obtain ⟨rfl, rfl⟩ := hr7
          have hP : va_P D vwCl [(x0, .inr (6, [.ref r0, .ref t0, .ref q, .ref s0, .ref k0, .ref h, .ref j0, .ref im, .int (st)])), (k0, .inr (1, [.ref kt, .int (nI (0 + 2))])), (kt, .inl (cy 0, 16, .inl (trP tf 0 [21, 20]))), (h, .inr (2, [.int (nI (w 0)), .int (nI (w 1)), .int (nI (w 2)), .int (nI (w 4)), .int (nI (w 3)), .ref kA, .ref tA, .ref eA, .ref oA])), (kA, .inl (cy 0, 6, .inl fk)), (tA, .inl (cy 0, 6, .inl ft)), (eA, .inl (cy 0, 6, .inl fe)), (oA, .inl (cy 0, 6, .inl fo))] H := hP
          have hD : va_D A [(x0, .inr (6, [.ref r0, .ref t0, .ref q, .ref s0, .ref k0, .ref h, .ref j0, .ref im, .int (st)])), (k0, .inr (1, [.ref kt, .int (nI (0 + 2))])), (kt, .inl (cy 0, 16, .inl (trP tf 0 [21, 20]))), (h, .inr (2, [.int (nI (w 0)), .int (nI (w 1)), .int (nI (w 2)), .int (nI (w 4)), .int (nI (w 3)), .ref kA, .ref tA, .ref eA, .ref oA])), (kA, .inl (cy 0, 6, .inl fk)), (tA, .inl (cy 0, 6, .inl ft)), (eA, .inl (cy 0, 6, .inl fe)), (oA, .inl (cy 0, 6, .inl fo))] := hD
          have hP9 := hP
          have hD9 := hD
          exact q_wiret (v := nI (c + ctO w c)) hx hb hr hlocks dX6_ask_36 hP9 hD9 hS (⟨_, _, by simp only [oAsk, if_pos b2, if_pos b4, q_cl (by omega : c < 2147483648), q_cl (by decide : 1 < 2147483648), askS, askM, askSL, askML, hkd]; rfl, rfl⟩)
      · rcases (show m = 0 ∨ m = 1 by omega) with rfl | rfl
        · refine lv_aload_n hx hb dX6_ask_23 rfl (lv_at hl 0 rfl) ?_
          refine va_get (D := D) (ci := 6) (v := .ref k0) (C := RX6) (T := TX6) (N := 9) hx hb hts nX6_ask_0 hown hK.1 hP 0 rfl rfl 4 (by decide) (hts _ mX6_ask_2) (fun _ h9 => h9) rfl dX6_ask_24 ?_
          refine lv_aload_n hx hb dX6_ask_27 rfl (lv_at hl 0 rfl) ?_
          refine va_get (D := D) (ci := 6) (v := .ref h) (C := RX6) (T := TX6) (N := 9) hx hb hts nX6_ask_0 hown hK.1 hP 0 rfl rfl 5 (by decide) (hts _ mX6_ask_1) (fun _ h9 => h9) rfl dX6_ask_28 ?_
          refine lv_iload_n hx hb dX6_ask_31 rfl (lv_at hl 1 rfl) ?_
          refine lv_iload_n hx hb dX6_ask_32 rfl (lv_at hl 2 rfl) ?_
          refine q_wizV (As := [.ref h, .int (nI c), .int (nI 0)]) (rest := []) (wr := [(x0, .inr (6, [.ref r0, .ref t0, .ref q, .ref s0, .ref k0, .ref h, .ref j0, .ref im, .int (st)]))]) ⟨hx, hb, hml, hown, hts⟩ (c_ans_0_2 l D cy k0 kt tf tn h kA tA eA oA w fk ft fe fo hw hv c hc hkd) (cwV 3 hts gX6_ask_X1_answer rfl rfl rfl (by decide +kernel) ⟨Nat.le_of_ble_eq_true rfl, Nat.le_of_ble_eq_true rfl⟩) hP hD hS hA hK hZ [1, 2, 3, 4, 5, 6, 7] [0] rfl rfl (by decide) rfl (by decide) (by decide) 1 rfl rfl rfl rfl hl.1 rfl (Nat.le_of_ble_eq_true rfl) dX6_ask_33 ⟨Nat.zero_le _, Nat.zero_le _⟩ (fun r9 u10 H locs hr9 hP hD hS => ?_)
          obtain ⟨rfl, rfl⟩ := hr9
          have hP : va_P D vwCl [(x0, .inr (6, [.ref r0, .ref t0, .ref q, .ref s0, .ref k0, .ref h, .ref j0, .ref im, .int (st)])), (k0, .inr (1, [.ref kt, .int (nI (0 + 6))])), (kt, .inl (cy 0, 16, .inl (trP tf 0 [12, 11, 10, 24, 21, 20]))), (h, .inr (2, [.int (nI (w 0)), .int (nI (w 1)), .int (nI (w 2)), .int (nI (w 4)), .int (nI (w 3)), .ref kA, .ref tA, .ref eA, .ref oA])), (kA, .inl (cy 0, 6, .inl fk)), (tA, .inl (cy 0, 6, .inl ft)), (eA, .inl (cy 0, 6, .inl fe)), (oA, .inl (cy 0, 6, .inl fo))] H := hP
          have hD : va_D A [(x0, .inr (6, [.ref r0, .ref t0, .ref q, .ref s0, .ref k0, .ref h, .ref j0, .ref im, .int (st)])), (k0, .inr (1, [.ref kt, .int (nI (0 + 6))])), (kt, .inl (cy 0, 16, .inl (trP tf 0 [12, 11, 10, 24, 21, 20]))), (h, .inr (2, [.int (nI (w 0)), .int (nI (w 1)), .int (nI (w 2)), .int (nI (w 4)), .int (nI (w 3)), .ref kA, .ref tA, .ref eA, .ref oA])), (kA, .inl (cy 0, 6, .inl fk)), (tA, .inl (cy 0, 6, .inl ft)), (eA, .inl (cy 0, 6, .inl fe)), (oA, .inl (cy 0, 6, .inl fo))] := hD
          have hP9 := hP
          have hD9 := hD
          exact q_wiret (v := -(nI (ctT w c + (2 * (c + ctO w c))))) hx hb hr hlocks dX6_ask_36 hP9 hD9 hS (⟨_, _, by simp only [oAsk, if_pos b2, if_pos b4, q_cl (by omega : c < 2147483648), q_cl (by decide : 0 < 2147483648), askS, askM, askSL, askML, hkd]; rfl, rfl⟩)
        · refine lv_aload_n hx hb dX6_ask_23 rfl (lv_at hl 0 rfl) ?_
          refine va_get (D := D) (ci := 6) (v := .ref k0) (C := RX6) (T := TX6) (N := 9) hx hb hts nX6_ask_0 hown hK.1 hP 0 rfl rfl 4 (by decide) (hts _ mX6_ask_2) (fun _ h9 => h9) rfl dX6_ask_24 ?_
          refine lv_aload_n hx hb dX6_ask_27 rfl (lv_at hl 0 rfl) ?_
          refine va_get (D := D) (ci := 6) (v := .ref h) (C := RX6) (T := TX6) (N := 9) hx hb hts nX6_ask_0 hown hK.1 hP 0 rfl rfl 5 (by decide) (hts _ mX6_ask_1) (fun _ h9 => h9) rfl dX6_ask_28 ?_
          refine lv_iload_n hx hb dX6_ask_31 rfl (lv_at hl 1 rfl) ?_
          refine lv_iload_n hx hb dX6_ask_32 rfl (lv_at hl 2 rfl) ?_
          refine q_wizV (As := [.ref h, .int (nI c), .int (nI 1)]) (rest := []) (wr := [(x0, .inr (6, [.ref r0, .ref t0, .ref q, .ref s0, .ref k0, .ref h, .ref j0, .ref im, .int (st)]))]) ⟨hx, hb, hml, hown, hts⟩ (c_ans_1_2 l D cy k0 kt tf tn h kA tA eA oA w fk ft fe fo hw hv c hc hkd) (cwV 3 hts gX6_ask_X1_answer rfl rfl rfl (by decide +kernel) ⟨Nat.le_of_ble_eq_true rfl, Nat.le_of_ble_eq_true rfl⟩) hP hD hS hA hK hZ [1, 2, 3, 4, 5, 6, 7] [0] rfl rfl (by decide) rfl (by decide) (by decide) 1 rfl rfl rfl rfl hl.1 rfl (Nat.le_of_ble_eq_true rfl) dX6_ask_33 ⟨Nat.zero_le _, Nat.zero_le _⟩ (fun r11 u12 H locs hr11 hP hD hS => ?_)
          obtain ⟨rfl, rfl⟩ := hr11
          have hP : va_P D vwCl [(x0, .inr (6, [.ref r0, .ref t0, .ref q, .ref s0, .ref k0, .ref h, .ref j0, .ref im, .int (st)])), (k0, .inr (1, [.ref kt, .int (nI (0 + 3))])), (kt, .inl (cy 0, 16, .inl (trP tf 0 [24, 21, 20]))), (h, .inr (2, [.int (nI (w 0)), .int (nI (w 1)), .int (nI (w 2)), .int (nI (w 4)), .int (nI (w 3)), .ref kA, .ref tA, .ref eA, .ref oA])), (kA, .inl (cy 0, 6, .inl fk)), (tA, .inl (cy 0, 6, .inl ft)), (eA, .inl (cy 0, 6, .inl fe)), (oA, .inl (cy 0, 6, .inl fo))] H := hP
          have hD : va_D A [(x0, .inr (6, [.ref r0, .ref t0, .ref q, .ref s0, .ref k0, .ref h, .ref j0, .ref im, .int (st)])), (k0, .inr (1, [.ref kt, .int (nI (0 + 3))])), (kt, .inl (cy 0, 16, .inl (trP tf 0 [24, 21, 20]))), (h, .inr (2, [.int (nI (w 0)), .int (nI (w 1)), .int (nI (w 2)), .int (nI (w 4)), .int (nI (w 3)), .ref kA, .ref tA, .ref eA, .ref oA])), (kA, .inl (cy 0, 6, .inl fk)), (tA, .inl (cy 0, 6, .inl ft)), (eA, .inl (cy 0, 6, .inl fe)), (oA, .inl (cy 0, 6, .inl fo))] := hD
          have hP9 := hP
          have hD9 := hD
          exact q_wiret (v := nI (2 * (c + ctO w c))) hx hb hr hlocks dX6_ask_36 hP9 hD9 hS (⟨_, _, by simp only [oAsk, if_pos b2, if_pos b4, q_cl (by omega : c < 2147483648), q_cl (by decide : 1 < 2147483648), askS, askM, askSL, askML, hkd]; rfl, rfl⟩)
      · rcases (show m = 0 ∨ m = 1 by omega) with rfl | rfl
        · refine lv_aload_n hx hb dX6_ask_23 rfl (lv_at hl 0 rfl) ?_
          refine va_get (D := D) (ci := 6) (v := .ref k0) (C := RX6) (T := TX6) (N := 9) hx hb hts nX6_ask_0 hown hK.1 hP 0 rfl rfl 4 (by decide) (hts _ mX6_ask_2) (fun _ h9 => h9) rfl dX6_ask_24 ?_
          refine lv_aload_n hx hb dX6_ask_27 rfl (lv_at hl 0 rfl) ?_
          refine va_get (D := D) (ci := 6) (v := .ref h) (C := RX6) (T := TX6) (N := 9) hx hb hts nX6_ask_0 hown hK.1 hP 0 rfl rfl 5 (by decide) (hts _ mX6_ask_1) (fun _ h9 => h9) rfl dX6_ask_28 ?_
          refine lv_iload_n hx hb dX6_ask_31 rfl (lv_at hl 1 rfl) ?_
          refine lv_iload_n hx hb dX6_ask_32 rfl (lv_at hl 2 rfl) ?_
          refine q_wizV (As := [.ref h, .int (nI c), .int (nI 0)]) (rest := []) (wr := [(x0, .inr (6, [.ref r0, .ref t0, .ref q, .ref s0, .ref k0, .ref h, .ref j0, .ref im, .int (st)]))]) ⟨hx, hb, hml, hown, hts⟩ (c_ans_0_3 l D cy k0 kt tf tn h kA tA eA oA w fk ft fe fo hw hv c hc hkd) (cwV 3 hts gX6_ask_X1_answer rfl rfl rfl (by decide +kernel) ⟨Nat.le_of_ble_eq_true rfl, Nat.le_of_ble_eq_true rfl⟩) hP hD hS hA hK hZ [1, 2, 3, 4, 5, 6, 7] [0] rfl rfl (by decide) rfl (by decide) (by decide) 1 rfl rfl rfl rfl hl.1 rfl (Nat.le_of_ble_eq_true rfl) dX6_ask_33 ⟨Nat.zero_le _, Nat.zero_le _⟩ (fun r13 u14 H locs hr13 hP hD hS => ?_)
          obtain ⟨rfl, rfl⟩ := hr13
          have hP : va_P D vwCl [(x0, .inr (6, [.ref r0, .ref t0, .ref q, .ref s0, .ref k0, .ref h, .ref j0, .ref im, .int (st)])), (k0, .inr (1, [.ref kt, .int (nI (0 + 5))])), (kt, .inl (cy 0, 16, .inl (trP tf 0 [11, 10, 22, 21, 20]))), (h, .inr (2, [.int (nI (w 0)), .int (nI (w 1)), .int (nI (w 2)), .int (nI (w 4)), .int (nI (w 3)), .ref kA, .ref tA, .ref eA, .ref oA])), (kA, .inl (cy 0, 6, .inl fk)), (tA, .inl (cy 0, 6, .inl ft)), (eA, .inl (cy 0, 6, .inl fe)), (oA, .inl (cy 0, 6, .inl fo))] H := hP
          have hD : va_D A [(x0, .inr (6, [.ref r0, .ref t0, .ref q, .ref s0, .ref k0, .ref h, .ref j0, .ref im, .int (st)])), (k0, .inr (1, [.ref kt, .int (nI (0 + 5))])), (kt, .inl (cy 0, 16, .inl (trP tf 0 [11, 10, 22, 21, 20]))), (h, .inr (2, [.int (nI (w 0)), .int (nI (w 1)), .int (nI (w 2)), .int (nI (w 4)), .int (nI (w 3)), .ref kA, .ref tA, .ref eA, .ref oA])), (kA, .inl (cy 0, 6, .inl fk)), (tA, .inl (cy 0, 6, .inl ft)), (eA, .inl (cy 0, 6, .inl fe)), (oA, .inl (cy 0, 6, .inl fo))] := hD
          have hP9 := hP
          have hD9 := hD
          exact q_wiret (v := (nI (ctT w c)) + (nI (c + ctO w c) - nI 1000)) hx hb hr hlocks dX6_ask_36 hP9 hD9 hS (⟨_, _, by simp only [oAsk, if_pos b2, if_pos b4, q_cl (by omega : c < 2147483648), q_cl (by decide : 0 < 2147483648), askS, askM, askSL, askML, hkd]; rfl, rfl⟩)
        · refine lv_aload_n hx hb dX6_ask_23 rfl (lv_at hl 0 rfl) ?_
          refine va_get (D := D) (ci := 6) (v := .ref k0) (C := RX6) (T := TX6) (N := 9) hx hb hts nX6_ask_0 hown hK.1 hP 0 rfl rfl 4 (by decide) (hts _ mX6_ask_2) (fun _ h9 => h9) rfl dX6_ask_24 ?_
          refine lv_aload_n hx hb dX6_ask_27 rfl (lv_at hl 0 rfl) ?_
          refine va_get (D := D) (ci := 6) (v := .ref h) (C := RX6) (T := TX6) (N := 9) hx hb hts nX6_ask_0 hown hK.1 hP 0 rfl rfl 5 (by decide) (hts _ mX6_ask_1) (fun _ h9 => h9) rfl dX6_ask_28 ?_
          refine lv_iload_n hx hb dX6_ask_31 rfl (lv_at hl 1 rfl) ?_
          refine lv_iload_n hx hb dX6_ask_32 rfl (lv_at hl 2 rfl) ?_
          refine q_wizV (As := [.ref h, .int (nI c), .int (nI 1)]) (rest := []) (wr := [(x0, .inr (6, [.ref r0, .ref t0, .ref q, .ref s0, .ref k0, .ref h, .ref j0, .ref im, .int (st)]))]) ⟨hx, hb, hml, hown, hts⟩ (c_ans_1_3 l D cy k0 kt tf tn h kA tA eA oA w fk ft fe fo hw hv c hc hkd) (cwV 3 hts gX6_ask_X1_answer rfl rfl rfl (by decide +kernel) ⟨Nat.le_of_ble_eq_true rfl, Nat.le_of_ble_eq_true rfl⟩) hP hD hS hA hK hZ [1, 2, 3, 4, 5, 6, 7] [0] rfl rfl (by decide) rfl (by decide) (by decide) 1 rfl rfl rfl rfl hl.1 rfl (Nat.le_of_ble_eq_true rfl) dX6_ask_33 ⟨Nat.zero_le _, Nat.zero_le _⟩ (fun r15 u16 H locs hr15 hP hD hS => ?_)
          obtain ⟨rfl, rfl⟩ := hr15
          have hP : va_P D vwCl [(x0, .inr (6, [.ref r0, .ref t0, .ref q, .ref s0, .ref k0, .ref h, .ref j0, .ref im, .int (st)])), (k0, .inr (1, [.ref kt, .int (nI (0 + 3))])), (kt, .inl (cy 0, 16, .inl (trP tf 0 [22, 21, 20]))), (h, .inr (2, [.int (nI (w 0)), .int (nI (w 1)), .int (nI (w 2)), .int (nI (w 4)), .int (nI (w 3)), .ref kA, .ref tA, .ref eA, .ref oA])), (kA, .inl (cy 0, 6, .inl fk)), (tA, .inl (cy 0, 6, .inl ft)), (eA, .inl (cy 0, 6, .inl fe)), (oA, .inl (cy 0, 6, .inl fo))] H := hP
          have hD : va_D A [(x0, .inr (6, [.ref r0, .ref t0, .ref q, .ref s0, .ref k0, .ref h, .ref j0, .ref im, .int (st)])), (k0, .inr (1, [.ref kt, .int (nI (0 + 3))])), (kt, .inl (cy 0, 16, .inl (trP tf 0 [22, 21, 20]))), (h, .inr (2, [.int (nI (w 0)), .int (nI (w 1)), .int (nI (w 2)), .int (nI (w 4)), .int (nI (w 3)), .ref kA, .ref tA, .ref eA, .ref oA])), (kA, .inl (cy 0, 6, .inl fk)), (tA, .inl (cy 0, 6, .inl ft)), (eA, .inl (cy 0, 6, .inl fe)), (oA, .inl (cy 0, 6, .inl fo))] := hD
          have hP9 := hP
          have hD9 := hD
          exact q_wiret (v := nI (c + ctO w c) - nI 1000) hx hb hr hlocks dX6_ask_36 hP9 hD9 hS (⟨_, _, by simp only [oAsk, if_pos b2, if_pos b4, q_cl (by omega : c < 2147483648), q_cl (by decide : 1 < 2147483648), askS, askM, askSL, askML, hkd]; rfl, rfl⟩)
      · rcases (show m = 0 ∨ m = 1 by omega) with rfl | rfl
        · refine lv_aload_n hx hb dX6_ask_23 rfl (lv_at hl 0 rfl) ?_
          refine va_get (D := D) (ci := 6) (v := .ref k0) (C := RX6) (T := TX6) (N := 9) hx hb hts nX6_ask_0 hown hK.1 hP 0 rfl rfl 4 (by decide) (hts _ mX6_ask_2) (fun _ h9 => h9) rfl dX6_ask_24 ?_
          refine lv_aload_n hx hb dX6_ask_27 rfl (lv_at hl 0 rfl) ?_
          refine va_get (D := D) (ci := 6) (v := .ref h) (C := RX6) (T := TX6) (N := 9) hx hb hts nX6_ask_0 hown hK.1 hP 0 rfl rfl 5 (by decide) (hts _ mX6_ask_1) (fun _ h9 => h9) rfl dX6_ask_28 ?_
          refine lv_iload_n hx hb dX6_ask_31 rfl (lv_at hl 1 rfl) ?_
          refine lv_iload_n hx hb dX6_ask_32 rfl (lv_at hl 2 rfl) ?_
          refine q_wizV (As := [.ref h, .int (nI c), .int (nI 0)]) (rest := []) (wr := [(x0, .inr (6, [.ref r0, .ref t0, .ref q, .ref s0, .ref k0, .ref h, .ref j0, .ref im, .int (st)]))]) ⟨hx, hb, hml, hown, hts⟩ (c_ans_0_4 l D cy k0 kt tf tn h kA tA eA oA w fk ft fe fo hw hv c hc hkd) (cwV 3 hts gX6_ask_X1_answer rfl rfl rfl (by decide +kernel) ⟨Nat.le_of_ble_eq_true rfl, Nat.le_of_ble_eq_true rfl⟩) hP hD hS hA hK hZ [1, 2, 3, 4, 5, 6, 7] [0] rfl rfl (by decide) rfl (by decide) (by decide) 1 rfl rfl rfl rfl hl.1 rfl (Nat.le_of_ble_eq_true rfl) dX6_ask_33 ⟨Nat.zero_le _, Nat.zero_le _⟩ (fun r17 u18 H locs hr17 hP hD hS => ?_)
          obtain ⟨rfl, rfl⟩ := hr17
          have hP : va_P D vwCl [(x0, .inr (6, [.ref r0, .ref t0, .ref q, .ref s0, .ref k0, .ref h, .ref j0, .ref im, .int (st)])), (k0, .inr (1, [.ref kt, .int (nI (0 + 2))])), (kt, .inl (cy 0, 16, .inl (trP tf 0 [13, 10]))), (h, .inr (2, [.int (nI (w 0)), .int (nI (w 1)), .int (nI (w 2)), .int (nI (w 4)), .int (nI (w 3)), .ref kA, .ref tA, .ref eA, .ref oA])), (kA, .inl (cy 0, 6, .inl fk)), (tA, .inl (cy 0, 6, .inl ft)), (eA, .inl (cy 0, 6, .inl fe)), (oA, .inl (cy 0, 6, .inl fo))] H := hP
          have hD : va_D A [(x0, .inr (6, [.ref r0, .ref t0, .ref q, .ref s0, .ref k0, .ref h, .ref j0, .ref im, .int (st)])), (k0, .inr (1, [.ref kt, .int (nI (0 + 2))])), (kt, .inl (cy 0, 16, .inl (trP tf 0 [13, 10]))), (h, .inr (2, [.int (nI (w 0)), .int (nI (w 1)), .int (nI (w 2)), .int (nI (w 4)), .int (nI (w 3)), .ref kA, .ref tA, .ref eA, .ref oA])), (kA, .inl (cy 0, 6, .inl fk)), (tA, .inl (cy 0, 6, .inl ft)), (eA, .inl (cy 0, 6, .inl fe)), (oA, .inl (cy 0, 6, .inl fo))] := hD
          have hP9 := hP
          have hD9 := hD
          exact q_wiret (v := nI (ctT w c) - nI 100) hx hb hr hlocks dX6_ask_36 hP9 hD9 hS (⟨_, _, by simp only [oAsk, if_pos b2, if_pos b4, q_cl (by omega : c < 2147483648), q_cl (by decide : 0 < 2147483648), askS, askM, askSL, askML, hkd]; rfl, rfl⟩)
        · refine lv_aload_n hx hb dX6_ask_23 rfl (lv_at hl 0 rfl) ?_
          refine va_get (D := D) (ci := 6) (v := .ref k0) (C := RX6) (T := TX6) (N := 9) hx hb hts nX6_ask_0 hown hK.1 hP 0 rfl rfl 4 (by decide) (hts _ mX6_ask_2) (fun _ h9 => h9) rfl dX6_ask_24 ?_
          refine lv_aload_n hx hb dX6_ask_27 rfl (lv_at hl 0 rfl) ?_
          refine va_get (D := D) (ci := 6) (v := .ref h) (C := RX6) (T := TX6) (N := 9) hx hb hts nX6_ask_0 hown hK.1 hP 0 rfl rfl 5 (by decide) (hts _ mX6_ask_1) (fun _ h9 => h9) rfl dX6_ask_28 ?_
          refine lv_iload_n hx hb dX6_ask_31 rfl (lv_at hl 1 rfl) ?_
          refine lv_iload_n hx hb dX6_ask_32 rfl (lv_at hl 2 rfl) ?_
          refine q_wizV (As := [.ref h, .int (nI c), .int (nI 1)]) (rest := []) (wr := [(x0, .inr (6, [.ref r0, .ref t0, .ref q, .ref s0, .ref k0, .ref h, .ref j0, .ref im, .int (st)]))]) ⟨hx, hb, hml, hown, hts⟩ (c_ans_1_4 l D cy k0 kt tf tn h kA tA eA oA w fk ft fe fo hw hv c hc hkd) (cwV 3 hts gX6_ask_X1_answer rfl rfl rfl (by decide +kernel) ⟨Nat.le_of_ble_eq_true rfl, Nat.le_of_ble_eq_true rfl⟩) hP hD hS hA hK hZ [1, 2, 3, 4, 5, 6, 7] [0] rfl rfl (by decide) rfl (by decide) (by decide) 1 rfl rfl rfl rfl hl.1 rfl (Nat.le_of_ble_eq_true rfl) dX6_ask_33 ⟨Nat.zero_le _, Nat.zero_le _⟩ (fun r19 u20 H locs hr19 hP hD hS => ?_)
          obtain ⟨rfl, rfl⟩ := hr19
          have hP : va_P D vwCl [(x0, .inr (6, [.ref r0, .ref t0, .ref q, .ref s0, .ref k0, .ref h, .ref j0, .ref im, .int (st)])), (k0, .inr (1, [.ref kt, .int (nI (0 + 4))])), (kt, .inl (cy 0, 16, .inl (trP tf 0 [23, 20, 13, 10]))), (h, .inr (2, [.int (nI (w 0)), .int (nI (w 1)), .int (nI (w 2)), .int (nI (w 4)), .int (nI (w 3)), .ref kA, .ref tA, .ref eA, .ref oA])), (kA, .inl (cy 0, 6, .inl fk)), (tA, .inl (cy 0, 6, .inl ft)), (eA, .inl (cy 0, 6, .inl fe)), (oA, .inl (cy 0, 6, .inl fo))] H := hP
          have hD : va_D A [(x0, .inr (6, [.ref r0, .ref t0, .ref q, .ref s0, .ref k0, .ref h, .ref j0, .ref im, .int (st)])), (k0, .inr (1, [.ref kt, .int (nI (0 + 4))])), (kt, .inl (cy 0, 16, .inl (trP tf 0 [23, 20, 13, 10]))), (h, .inr (2, [.int (nI (w 0)), .int (nI (w 1)), .int (nI (w 2)), .int (nI (w 4)), .int (nI (w 3)), .ref kA, .ref tA, .ref eA, .ref oA])), (kA, .inl (cy 0, 6, .inl fk)), (tA, .inl (cy 0, 6, .inl ft)), (eA, .inl (cy 0, 6, .inl fe)), (oA, .inl (cy 0, 6, .inl fo))] := hD
          have hP9 := hP
          have hD9 := hD
          exact q_wiret (v := (nI c) - (nI (ctT w c) - nI 100)) hx hb hr hlocks dX6_ask_36 hP9 hD9 hS (⟨_, _, by simp only [oAsk, if_pos b2, if_pos b4, q_cl (by omega : c < 2147483648), q_cl (by decide : 1 < 2147483648), askS, askM, askSL, askML, hkd]; rfl, rfl⟩)
      · rcases (show m = 0 ∨ m = 1 by omega) with rfl | rfl
        · refine lv_aload_n hx hb dX6_ask_23 rfl (lv_at hl 0 rfl) ?_
          refine va_get (D := D) (ci := 6) (v := .ref k0) (C := RX6) (T := TX6) (N := 9) hx hb hts nX6_ask_0 hown hK.1 hP 0 rfl rfl 4 (by decide) (hts _ mX6_ask_2) (fun _ h9 => h9) rfl dX6_ask_24 ?_
          refine lv_aload_n hx hb dX6_ask_27 rfl (lv_at hl 0 rfl) ?_
          refine va_get (D := D) (ci := 6) (v := .ref h) (C := RX6) (T := TX6) (N := 9) hx hb hts nX6_ask_0 hown hK.1 hP 0 rfl rfl 5 (by decide) (hts _ mX6_ask_1) (fun _ h9 => h9) rfl dX6_ask_28 ?_
          refine lv_iload_n hx hb dX6_ask_31 rfl (lv_at hl 1 rfl) ?_
          refine lv_iload_n hx hb dX6_ask_32 rfl (lv_at hl 2 rfl) ?_
          refine q_wizV (As := [.ref h, .int (nI c), .int (nI 0)]) (rest := []) (wr := [(x0, .inr (6, [.ref r0, .ref t0, .ref q, .ref s0, .ref k0, .ref h, .ref j0, .ref im, .int (st)]))]) ⟨hx, hb, hml, hown, hts⟩ (c_ans_0_5 l D cy k0 kt tf tn h kA tA eA oA w fk ft fe fo hw hv c hc hkd) (cwV 3 hts gX6_ask_X1_answer rfl rfl rfl (by decide +kernel) ⟨Nat.le_of_ble_eq_true rfl, Nat.le_of_ble_eq_true rfl⟩) hP hD hS hA hK hZ [1, 2, 3, 4, 5, 6, 7] [0] rfl rfl (by decide) rfl (by decide) (by decide) 1 rfl rfl rfl rfl hl.1 rfl (Nat.le_of_ble_eq_true rfl) dX6_ask_33 ⟨Nat.zero_le _, Nat.zero_le _⟩ (fun r21 u22 H locs hr21 hP hD hS => ?_)
          obtain ⟨rfl, rfl⟩ := hr21
          have hP : va_P D vwCl [(x0, .inr (6, [.ref r0, .ref t0, .ref q, .ref s0, .ref k0, .ref h, .ref j0, .ref im, .int (st)])), (k0, .inr (1, [.ref kt, .int (nI (0 + 3))])), (kt, .inl (cy 0, 16, .inl (trP tf 0 [14, 13, 10]))), (h, .inr (2, [.int (nI (w 0)), .int (nI (w 1)), .int (nI (w 2)), .int (nI (w 4)), .int (nI (w 3)), .ref kA, .ref tA, .ref eA, .ref oA])), (kA, .inl (cy 0, 6, .inl fk)), (tA, .inl (cy 0, 6, .inl ft)), (eA, .inl (cy 0, 6, .inl fe)), (oA, .inl (cy 0, 6, .inl fo))] H := hP
          have hD : va_D A [(x0, .inr (6, [.ref r0, .ref t0, .ref q, .ref s0, .ref k0, .ref h, .ref j0, .ref im, .int (st)])), (k0, .inr (1, [.ref kt, .int (nI (0 + 3))])), (kt, .inl (cy 0, 16, .inl (trP tf 0 [14, 13, 10]))), (h, .inr (2, [.int (nI (w 0)), .int (nI (w 1)), .int (nI (w 2)), .int (nI (w 4)), .int (nI (w 3)), .ref kA, .ref tA, .ref eA, .ref oA])), (kA, .inl (cy 0, 6, .inl fk)), (tA, .inl (cy 0, 6, .inl ft)), (eA, .inl (cy 0, 6, .inl fe)), (oA, .inl (cy 0, 6, .inl fo))] := hD
          have hP9 := hP
          have hD9 := hD
          exact q_wiret (v := (nI 2) * (nI (ctT w c) - nI 100)) hx hb hr hlocks dX6_ask_36 hP9 hD9 hS (⟨_, _, by simp only [oAsk, if_pos b2, if_pos b4, q_cl (by omega : c < 2147483648), q_cl (by decide : 0 < 2147483648), askS, askM, askSL, askML, hkd]; rfl, rfl⟩)
        · refine lv_aload_n hx hb dX6_ask_23 rfl (lv_at hl 0 rfl) ?_
          refine va_get (D := D) (ci := 6) (v := .ref k0) (C := RX6) (T := TX6) (N := 9) hx hb hts nX6_ask_0 hown hK.1 hP 0 rfl rfl 4 (by decide) (hts _ mX6_ask_2) (fun _ h9 => h9) rfl dX6_ask_24 ?_
          refine lv_aload_n hx hb dX6_ask_27 rfl (lv_at hl 0 rfl) ?_
          refine va_get (D := D) (ci := 6) (v := .ref h) (C := RX6) (T := TX6) (N := 9) hx hb hts nX6_ask_0 hown hK.1 hP 0 rfl rfl 5 (by decide) (hts _ mX6_ask_1) (fun _ h9 => h9) rfl dX6_ask_28 ?_
          refine lv_iload_n hx hb dX6_ask_31 rfl (lv_at hl 1 rfl) ?_
          refine lv_iload_n hx hb dX6_ask_32 rfl (lv_at hl 2 rfl) ?_
          refine q_wizV (As := [.ref h, .int (nI c), .int (nI 1)]) (rest := []) (wr := [(x0, .inr (6, [.ref r0, .ref t0, .ref q, .ref s0, .ref k0, .ref h, .ref j0, .ref im, .int (st)]))]) ⟨hx, hb, hml, hown, hts⟩ (c_ans_1_5 l D cy k0 kt tf tn h kA tA eA oA w fk ft fe fo hw hv c hc hkd) (cwV 3 hts gX6_ask_X1_answer rfl rfl rfl (by decide +kernel) ⟨Nat.le_of_ble_eq_true rfl, Nat.le_of_ble_eq_true rfl⟩) hP hD hS hA hK hZ [1, 2, 3, 4, 5, 6, 7] [0] rfl rfl (by decide) rfl (by decide) (by decide) 1 rfl rfl rfl rfl hl.1 rfl (Nat.le_of_ble_eq_true rfl) dX6_ask_33 ⟨Nat.zero_le _, Nat.zero_le _⟩ (fun r23 u24 H locs hr23 hP hD hS => ?_)
          obtain ⟨rfl, rfl⟩ := hr23
          have hP : va_P D vwCl [(x0, .inr (6, [.ref r0, .ref t0, .ref q, .ref s0, .ref k0, .ref h, .ref j0, .ref im, .int (st)])), (k0, .inr (1, [.ref kt, .int (nI (0 + 5))])), (kt, .inl (cy 0, 16, .inl (trP tf 0 [23, 20, 14, 13, 10]))), (h, .inr (2, [.int (nI (w 0)), .int (nI (w 1)), .int (nI (w 2)), .int (nI (w 4)), .int (nI (w 3)), .ref kA, .ref tA, .ref eA, .ref oA])), (kA, .inl (cy 0, 6, .inl fk)), (tA, .inl (cy 0, 6, .inl ft)), (eA, .inl (cy 0, 6, .inl fe)), (oA, .inl (cy 0, 6, .inl fo))] H := hP
          have hD : va_D A [(x0, .inr (6, [.ref r0, .ref t0, .ref q, .ref s0, .ref k0, .ref h, .ref j0, .ref im, .int (st)])), (k0, .inr (1, [.ref kt, .int (nI (0 + 5))])), (kt, .inl (cy 0, 16, .inl (trP tf 0 [23, 20, 14, 13, 10]))), (h, .inr (2, [.int (nI (w 0)), .int (nI (w 1)), .int (nI (w 2)), .int (nI (w 4)), .int (nI (w 3)), .ref kA, .ref tA, .ref eA, .ref oA])), (kA, .inl (cy 0, 6, .inl fk)), (tA, .inl (cy 0, 6, .inl ft)), (eA, .inl (cy 0, 6, .inl fe)), (oA, .inl (cy 0, 6, .inl fo))] := hD
          have hP9 := hP
          have hD9 := hD
          exact q_wiret (v := (nI c) - ((nI 2) * (nI (ctT w c) - nI 100))) hx hb hr hlocks dX6_ask_36 hP9 hD9 hS (⟨_, _, by simp only [oAsk, if_pos b2, if_pos b4, q_cl (by omega : c < 2147483648), q_cl (by decide : 1 < 2147483648), askS, askM, askSL, askML, hkd]; rfl, rfl⟩)
    · have _ := b4
      refine lv_if_ne (tgt := 23) hx hb dX6_ask_17 (by decide) (fun c9 => absurd (by decide) c9) (fun _ => ?_)
      refine lv_ldc (v := (-1000001)) hx hb hown (hts _ mX6_ask_3) dX6_ask_20 ?_
      have hP9 := hP
      have hD9 := hD
      exact q_wiret (v := (-1000001)) hx hb hr hlocks dX6_ask_22 hP9 hD9 hS (⟨tf, tn, by simp only [oAsk, q_cl (by omega : c < 2147483648), if_pos b2, if_neg b4], rfl⟩)
  · replace b2 := fun q => b2 ((inC_i (by omega)).mpr q)
    refine lv_if_eq (tgt := 20) hx hb dX6_ask_8 (by decide) (fun _ => ?_) (fun c9 => absurd (by decide) c9)
    refine lv_ldc (v := (-1000001)) hx hb hown (hts _ mX6_ask_3) dX6_ask_20 ?_
    have hP9 := hP
    have hD9 := hD
    exact q_wiret (v := (-1000001)) hx hb hr hlocks dX6_ask_22 hP9 hD9 hS (⟨tf, tn, by simp only [oAsk, if_neg b2], rfl⟩)

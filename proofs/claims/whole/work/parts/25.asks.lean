/-! what the statics SIZES and MARKS hold; contracts of methods that read them -/
def q_SzF : Nat → Value := fun j => .int (nI ([10, 11, 12, 11, 13, 14].getD j 0))
def q_MkF : Nat → Value := fun j => .int (nI ([20, 21, 24, 22, 23, 23].getD j 0))
def q_St (A : Nat → Prop) (U : State) (H : Heap) : Prop := (∃ t : Nat, va_Z "ClueLeave$Asks" "SIZES" "[I" (.ref t) A U H ∧ va_T .int t 6 q_SzF A U H) ∧ (∃ t : Nat, va_Z "ClueLeave$Asks" "MARKS" "[I" (.ref t) A U H ∧ va_T .int t 6 q_MkF A U H)
theorem q_St.moved {A : Nat → Prop} {u U : State} {H : Heap} (hvm : u.vm.Alike U.vm) (h : q_St A u H) : q_St A U H := by
  obtain ⟨⟨t, h1, h2⟩, ⟨t2, h3, h4⟩⟩ := h
  exact ⟨⟨t, h1.moved hvm, h2.moved hvm⟩, ⟨t2, h3.moved hvm, h4.moved hvm⟩⟩
theorem q_St.kept {A : Nat → Prop} {U : State} {H H1 : Heap} (h : q_St A U H) (hq : ∀ a : Nat, a < H.size → ¬ A a → H1[a]? = H[a]?) : q_St A U H1 := by
  obtain ⟨⟨t, h1, h2⟩, ⟨t2, h3, h4⟩⟩ := h
  exact ⟨⟨t, h1.kept hq, h2.kept hq⟩, ⟨t2, h3.kept hq, h4.kept hq⟩⟩
theorem q_St.narrow {A B : Nat → Prop} {U : State} {H : Heap} (h : q_St A U H) (hAB : ∀ q, B q → A q) : q_St B U H := by
  obtain ⟨⟨t, h1, h2⟩, ⟨t2, h3, h4⟩⟩ := h
  exact ⟨⟨t, h1.narrow hAB, h2.narrow hAB⟩, ⟨t2, h3.narrow hAB, h4.narrow hAB⟩⟩
def q_WiZ (l : Launch) (y : MethodName) (ws : List Cond) (d : Nat) (D : va_G) (cy : Nat → ClassId) (X : va_W) (av : List Value) (post : Int32 → va_W → Prop) : Prop :=
  ∀ sz : Nat, Met l y ws (q_rm d) (va_Pc av (fun U => U.heap.size = sz ∧ va_P D vwCl X U.heap ∧ q_K D cy U ∧ va_D (fun _ => True) X ∧ q_St (va_A X sz) U U.heap)) (va_Qi post (fun (u : va_W) t => va_P D vwCl u t.heap ∧ va_D (va_A X sz) u) (va_A X sz)) 0 0 (va_A X sz)
theorem q_wiz_of {l : Launch} {y : MethodName} {ws ws' : List Cond} {d : Nat} {D : va_G} {cy : Nat → ClassId} {X : va_W} {av : List Value} {post : Int32 → va_W → Prop} {cc : ByteArray} {maxL : Nat} {ret : Option FieldType} (hy : plainName y.cls = true) (hw : ws = Cond.code y cc maxL ret :: ws') (hlen : (lg_sl av).length ≤ maxL)
    (body : ∀ (p : Program) (e : Env) (s : State) (m : MethodId) (args : Array Value) (below : List Frame) (meth : Method) (c : Code) (A : Nat → Prop), q_C p s m args meth c y.cls cc maxL ret ws → (∀ q : Nat, s.heap.size ≤ q → A q) → q_K D cy s → q_St A s s.heap → ∀ (H : Heap) (locs : List Loc), va_P D vwCl X H → va_D A X → va_S A s.heap H locs → ∀ ls : Array Slot, lv_has ls maxL (lv_args 0 av) →
      W p l e (q_rm d) s m args below meth c H locs 0 0 (MQ below (va_Qi post (fun (u : va_W) t => va_P D vwCl u t.heap ∧ va_D A u) A) args s 0 0 A) (F0 m 0 ls [])) : q_WiZ l y ws d D cy X av post := by
  intro sz
  refine Met.ofW (cc := cc) (maxL := maxL) (ret := ret) hy hw ?_
  intro p e s m args below meth c s₁ B hml hv
  obtain ⟨rfl, hsz, hP, hK, hD0, hZ⟩ := hv
  subst hsz
  have hl := lv_entry av hlen
  rw [lg_entry_eq]
  exact body p e s m _ below meth c _ ⟨B.exec, B.bytes, B.returns, hml, findClass_of_methodNamed B.named, atoms_spec B.pre, B.notSynchronized⟩ (fun q h => Or.inr h) hK hZ _ _ hP hD0.self va_S.rf _ hl
section Q7
variable {p : Program} {l : Launch} {e : Env} {R : Room} {s : State} {m : MethodId} {args : Array Value} {below : List Frame} {meth : Method} {c : Code} {H : Heap} {locs : List Loc} {cells slots : Nat} {Q : State → Prop}
variable {cc : ByteArray} {pc : Nat} {ls : Array Slot} {rest st0 : List Value} {D : va_G} {cy : Nat → ClassId} {A : Nat → Prop} {a : Nat} {ws X : va_W}
variable {y : MethodName} {bytes : ByteArray} {maxL nL n index d : Nat} {ret : Option FieldType} {wy : List Cond} {Ts : List Cond} {own C host : String} {b : Nat} {As : List Value}
theorem q_blindZ {av : List Value} {sz : Nat} : FrameBlind (va_Pc av (fun U => U.heap.size = sz ∧ va_P D vwCl X U.heap ∧ q_K D cy U ∧ va_D (fun _ => True) X ∧ q_St (va_A X sz) U U.heap)) := fun _ U g mk h => ⟨h.1, h.2.1, h.2.2.1, q_K.same (u := U) (U := U.calling g mk _) rfl h.2.2.2.1, h.2.2.2.2.1, q_St.moved (u := U) (U := U.calling g mk _) (Vm.Alike.refl U.vm) h.2.2.2.2.2⟩
theorem q_wizV {post : Int32 → va_W → Prop} {wr : va_W} (S : CallFix p m c cc nL s args Ts own) (hM : q_WiZ l y wy d D cy X (.ref b :: As) post) (cw : CallW R s args own C index y bytes maxL ret wy (q_rm d) 0 0 n) (hP : va_P D vwCl ws H) (hD : va_D A ws) (hS : va_S A s.heap H locs) (hA : ∀ q, s.heap.size ≤ q → A q) (hK : q_K D cy s) (hZ : q_St A s s.heap) (is ir : List Nat) (his : is.filterMap (fun i => ws[i]?) = X) (hC1 : is.map (fun i => ws[i]?) = X.map some) (hnd : va_nd is = true) (hR1 : ir.map (fun i => ws[i]?) = wr.map some) (hnr : va_nd ir = true) (hdis : ∀ i ∈ ir, i ∉ is) (q0 : Nat) {ci : Nat} {fs : List Value} (he : ws[q0]? = some (b, .inr (ci, fs))) {q : vw_C} (hc : vwCl[ci]? = some q) (hC : q.1 = C)
    (hn : As.length = n) (hsize : ls.size = nL) (hst : st0 = As.reverse ++ .ref b :: rest) (hW : (rest.map fun v => v.category).sum ≤ 8) (hdg : decode cc pc = .ok (.invokevirtual index, 3)) (hcs : cells ≤ R.cells ∧ slots ≤ R.slots) (kk : ∀ (r : Int32) (u : va_W) (H1 : Heap) (locs1 : List Loc), post r u → va_P D vwCl (wr ++ u) H1 → va_D A (wr ++ u) → va_S A s.heap H1 locs1 → W p l e R s m args below meth c H1 locs1 cells slots Q (F0 m (pc + 3) ls (.int r :: rest))) : W p l e R s m args below meth c H locs cells slots Q (F0 m pc ls st0) := by
  have hPc := hP.sub is his
  have hDc := hD.sub is hnd hC1
  have hFc := va_free hD hS hA is hC1
  have hZc : q_St (va_A X H.size) s H := (hZ.kept (fun a h1 h2 => hS.2.1 a h1 h2)).narrow hFc
  refine va_calli (va_runV S (hM H.size) cw ⟨q_blindZ, (by subst hC; exact va_recv hK.1 hP hc he), fun U hU hW => ⟨rfl, by rw [hU], by rw [hU]; exact hPc, hK.warm hW, hDc.weaken (fun _ _ _ _ => trivial), by rw [hU]; exact hZc.moved hW.alike⟩⟩ rfl hn hsize hst (lv_room hW) hdg hcs) hS (fun q _ h => hFc q h) hFc (fun r u t H1 locs1 ht hvm hw hB hz1 hk1 hS1 => ?_)
  obtain ⟨hP1, hD1⟩ := hB
  rw [ht] at hP1
  obtain ⟨hP2, hD2⟩ := va_join hP hD is ir hC1 hR1 hnr hdis hk1 hFc hP1 hD1
  exact kk r u H1 locs1 hw hP2 hD2 hS1
end Q7
/-- the trace, with the bodies L behind its first n -/
def trP : (Nat → Int32) → Nat → List Nat → (Nat → Int32)
  | f, _, [] => f
  | f, n, b :: L => trP (upd f n (nI b)) (n + 1) L
def trA (f : Nat → Int32) (n : Nat) (x : Int32) : Int32 := if 0 ≤ x.toInt ∧ x.toInt < n then f x.toNatClampNeg else -1000000
theorem trA_n {f : Nat → Int32} {n j : Nat} (h : j < n) (hn : n ≤ 16) : trA f n (nI j) = f j := by
  unfold trA
  rw [nI_toInt (by omega), nI_clamp (by omega), if_pos (by omega)]
theorem trA_0 {f : Nat → Int32} {n : Nat} {x : Int32} (h : x < 0) : trA f n x = -1000000 := by
  have h1 := Int32.lt_iff_toInt_lt.mp h
  rw [Int32.toInt_zero] at h1
  unfold trA
  rw [if_neg (by omega)]
theorem trA_1 {f : Nat → Int32} {n : Nat} {x : Int32} (h : nI n ≤ x) (hn : n ≤ 16) : trA f n x = -1000000 := by
  have h1 := Int32.le_iff_toInt_le.mp h
  rw [nI_toInt (by omega)] at h1
  unfold trA
  rw [if_neg (by omega)]
theorem mX1_traceAt_0 : Cond.constant RX1 19 (-1000000) ∈ wsX1_traceAt := by decide +kernel
theorem nX1_traceAt_1 : ∀ w ∈ wsX10, w ∈ wsX1_traceAt := by decide +kernel
theorem mX1_traceAt_2 : Cond.fieldLink RX1 15 "ClueLeave$Asks" "traced" "I" ∈ wsX1_traceAt := by decide +kernel
theorem mX1_traceAt_3 : Cond.fieldLink RX1 11 "ClueLeave$Asks" "trace" "[I" ∈ wsX1_traceAt := by decide +kernel
set_option maxHeartbeats 4000000 in
set_option maxRecDepth 100000 in
theorem c_X1_traceAt (l : Launch) (D : va_G) (cy : Nat → ClassId) (k0 kt : Nat) (tf : Nat → Int32) (tn : Nat) (htn : tn ≤ 16) (x : Int32) : q_Rd l yX1_traceAt wsX1_traceAt 1 D cy [(k0, .inr (1, [.ref kt, .int (nI tn)])), (kt, .inl (cy 0, 16, .inl tf))] [.ref k0, .int (x)] (fun r => r = trA tf tn x) := by
  refine q_rd_of (cc := cX1_traceAt) (maxL := 2) (ret := (some .int)) (by decide) rfl (Nat.le_of_ble_eq_true rfl) ?_
  intro pg en s mi args below meth cd hC hP hK ls hl
  obtain ⟨hx, hb, hr, hml, hown, hts, hlocks⟩ := hC
  have hl : lv_has ls 2 [(0, .ref k0), (1, .int (x))] := hl
  refine lv_iload_n hx hb dX1_traceAt_0 rfl (lv_at hl 1 rfl) ?_
  refine lv_if_lt (tgt := 21) hx hb dX1_traceAt_1 (by decide) (fun c1 => ?_) (fun c1 => ?_)
  · refine lv_ldc (v := (-1000000)) hx hb hown (hts _ mX1_traceAt_0) dX1_traceAt_21 ?_
    exact q_iret (v := (-1000000)) hx hb hr hlocks dX1_traceAt_23 ((trA_0 c1).symm)
  · refine lv_iload_n hx hb dX1_traceAt_4 rfl (lv_at hl 1 rfl) ?_
    refine lv_aload_n hx hb dX1_traceAt_5 rfl (lv_at hl 0 rfl) ?_
    refine va_get (D := D) (ci := 1) (v := .int (nI tn)) (C := RX1) (T := TX1) (N := 2) hx hb hts nX1_traceAt_1 hown hK.1 hP 0 rfl rfl 1 (by decide) (hts _ mX1_traceAt_2) (fun _ h9 => h9) rfl dX1_traceAt_6 ?_
    refine lv_icmp_ge (tgt := 21) hx hb dX1_traceAt_9 (by decide) (fun c2 => ?_) (fun c2 => ?_)
    · refine lv_ldc (v := (-1000000)) hx hb hown (hts _ mX1_traceAt_0) dX1_traceAt_21 ?_
      exact q_iret (v := (-1000000)) hx hb hr hlocks dX1_traceAt_23 ((trA_1 c2 (by omega)).symm)
    · obtain ⟨j, hj, rfl⟩ := q_has1 c1 c2 (by omega)
      refine lv_aload_n hx hb dX1_traceAt_12 rfl (lv_at hl 0 rfl) ?_
      refine va_get (D := D) (ci := 1) (v := .ref kt) (C := RX1) (T := TX1) (N := 2) hx hb hts nX1_traceAt_1 hown hK.1 hP 0 rfl rfl 0 (by decide) (hts _ mX1_traceAt_3) (fun _ h9 => h9) rfl dX1_traceAt_13 ?_
      refine lv_iload_n hx hb dX1_traceAt_16 rfl (lv_at hl 1 rfl) ?_
      refine q_iald (j := j) (v := tf j) hx hb hK hP 1 rfl (by omega) (by decide) (rfl) dX1_traceAt_17 ?_
      refine lv_goto (tgt := 23) hx hb dX1_traceAt_18 (by decide) ?_
      exact q_iret (v := tf j) hx hb hr hlocks dX1_traceAt_23 ((trA_n hj (by omega)).symm)
theorem nX1_leave_0 : ∀ w ∈ wsX10, w ∈ wsX1_leave := by decide +kernel
theorem mX1_leave_1 : Cond.fieldLink RX1 15 "ClueLeave$Asks" "traced" "I" ∈ wsX1_leave := by decide +kernel
theorem mX1_leave_2 : Cond.fieldLink RX1 11 "ClueLeave$Asks" "trace" "[I" ∈ wsX1_leave := by decide +kernel
set_option maxHeartbeats 4000000 in
set_option maxRecDepth 100000 in
theorem c_X1_leave (l : Launch) (D : va_G) (cy : Nat → ClassId) (k0 kt : Nat) (tf : Nat → Int32) (tn : Nat) (htn : tn < 16) (b : Nat) : q_Wv l yX1_leave wsX1_leave 1 D cy [(k0, .inr (1, [.ref kt, .int (nI tn)])), (kt, .inl (cy 0, 16, .inl tf))] [.ref k0, .int (nI b)] (fun u => u = [(k0, .inr (1, [.ref kt, .int (nI (tn + 1))])), (kt, .inl (cy 0, 16, .inl (upd tf tn (nI b))))]) := by
  refine q_wv_of (cc := cX1_leave) (maxL := 2) (ret := none) (by decide) rfl (Nat.le_of_ble_eq_true rfl) ?_
  intro pg en s mi args below meth cd A hC hA hK H locs hP hD hS ls hl
  obtain ⟨hx, hb, hr, hml, hown, hts, hlocks⟩ := hC
  have hl : lv_has ls 2 [(0, .ref k0), (1, .int (nI b))] := hl
  refine lv_aload_n hx hb dX1_leave_0 rfl (lv_at hl 0 rfl) ?_
  refine va_get (D := D) (ci := 1) (v := .int (nI tn)) (C := RX1) (T := TX1) (N := 2) hx hb hts nX1_leave_0 hown hK.1 hP 0 rfl rfl 1 (by decide) (hts _ mX1_leave_1) (fun _ h9 => h9) rfl dX1_leave_1 ?_
  refine lv_bipush (v := nI 16) hx hb dX1_leave_4 (by decide) ?_
  refine q_icmp_ge (tgt := 29) hx hb dX1_leave_6 (by decide) (by omega) (by decide) (fun c1 => absurd c1 (by omega)) (fun c1 => ?_)
  refine lv_aload_n hx hb dX1_leave_9 rfl (lv_at hl 0 rfl) ?_
  refine va_get (D := D) (ci := 1) (v := .ref kt) (C := RX1) (T := TX1) (N := 2) hx hb hts nX1_leave_0 hown hK.1 hP 0 rfl rfl 0 (by decide) (hts _ mX1_leave_2) (fun _ h9 => h9) rfl dX1_leave_10 ?_
  refine lv_aload_n hx hb dX1_leave_13 rfl (lv_at hl 0 rfl) ?_
  refine va_get (D := D) (ci := 1) (v := .int (nI tn)) (C := RX1) (T := TX1) (N := 2) hx hb hts nX1_leave_0 hown hK.1 hP 0 rfl rfl 1 (by decide) (hts _ mX1_leave_1) (fun _ h9 => h9) rfl dX1_leave_14 ?_
  refine lv_iload_n hx hb dX1_leave_17 rfl (lv_at hl 1 rfl) ?_
  refine q_iast (j := tn) hx hb hK hP hD hS 1 rfl (by omega) (by decide) dX1_leave_18 (fun H locs hP hD hS => ?_)
  have hP : va_P D vwCl [(k0, .inr (1, [.ref kt, .int (nI tn)])), (kt, .inl (cy 0, 16, .inl (upd tf tn (nI b))))] H := hP
  have hD : va_D A [(k0, .inr (1, [.ref kt, .int (nI tn)])), (kt, .inl (cy 0, 16, .inl (upd tf tn (nI b))))] := hD
  refine lv_aload_n hx hb dX1_leave_19 rfl (lv_at hl 0 rfl) ?_
  refine lv_dup hx hb dX1_leave_20 rfl ?_
  refine va_get (D := D) (ci := 1) (v := .int (nI tn)) (C := RX1) (T := TX1) (N := 2) hx hb hts nX1_leave_0 hown hK.1 hP 0 rfl rfl 1 (by decide) (hts _ mX1_leave_1) (fun _ h9 => h9) rfl dX1_leave_21 ?_
  refine lv_iconst (v := nI 1) hx hb dX1_leave_24 (by decide) ?_
  refine lv_iadd hx hb dX1_leave_25 ?_
  refine q_top (y := nI (tn + 1)) (nI_add _ _) ?_
  refine va_put (D := D) (ci := 1) (v := .int (nI (tn + 1))) (ty := .int) (C := RX1) (T := TX1) (N := 2) hx hb hts nX1_leave_0 tyX1 tyX1_ok nmX1 hown hK.1 hP hD hS 0 rfl rfl 1 (by decide) (hts _ mX1_leave_1) (fun _ h9 => h9) rfl (by decide +kernel) rfl rfl (Nat.le_of_ble_eq_true rfl) dX1_leave_26 (fun H locs hP hD hS => ?_)
  have hP : va_P D vwCl [(k0, .inr (1, [.ref kt, .int (nI (tn + 1))])), (kt, .inl (cy 0, 16, .inl (upd tf tn (nI b))))] H := hP
  have hD : va_D A [(k0, .inr (1, [.ref kt, .int (nI (tn + 1))])), (kt, .inl (cy 0, 16, .inl (upd tf tn (nI b))))] := hD
  have hP9 := hP
  have hD9 := hD
  exact q_wvret hx hb hr hlocks dX1_leave_29 hP9 hD9 hS (rfl)
theorem ng10_0 : ∀ w ∈ wsX20, w ∈ wsX1_give := by decide +kernel
theorem mg10_1 : Cond.fieldLink RX1 42 "ClueLeave$City" "tells" "[I" ∈ wsX1_give := by decide +kernel
set_option maxHeartbeats 4000000 in
set_option maxRecDepth 100000 in
theorem c_g10 (l : Launch) (D : va_G) (cy : Nat → ClassId) (k0 kt : Nat) (tf : Nat → Int32) (tn : Nat) (h kA tA eA oA : Nat) (w : Nat → Nat) (fk ft fe fo : Nat → Int32) (hw : ctIs w fk ft fe fo) (hv : ctOk w) (c : Nat) (hc : c < w 4) (hkd : True) (htn : tn + 1 ≤ 16) (dp : Nat) (hdp : dp + 0 ≤ 10) : q_WiZ l yX1_give wsX1_give 2 D cy [(k0, .inr (1, [.ref kt, .int (nI tn)])), (kt, .inl (cy 0, 16, .inl tf)), (h, .inr (2, [.int (nI (w 0)), .int (nI (w 1)), .int (nI (w 2)), .int (nI (w 4)), .int (nI (w 3)), .ref kA, .ref tA, .ref eA, .ref oA])), (kA, .inl (cy 0, 6, .inl fk)), (tA, .inl (cy 0, 6, .inl ft)), (eA, .inl (cy 0, 6, .inl fe)), (oA, .inl (cy 0, 6, .inl fo))] [.ref k0, .ref h, .int (nI c), .int (nI 10), .int (nI dp)] (fun r u => r = nI (ctT w c) ∧ u = [(k0, .inr (1, [.ref kt, .int (nI (tn + 1))])), (kt, .inl (cy 0, 16, .inl (trP tf tn [10]))), (h, .inr (2, [.int (nI (w 0)), .int (nI (w 1)), .int (nI (w 2)), .int (nI (w 4)), .int (nI (w 3)), .ref kA, .ref tA, .ref eA, .ref oA])), (kA, .inl (cy 0, 6, .inl fk)), (tA, .inl (cy 0, 6, .inl ft)), (eA, .inl (cy 0, 6, .inl fe)), (oA, .inl (cy 0, 6, .inl fo))]) := by
  refine q_wiz_of (cc := cX1_give) (maxL := 6) (ret := (some .int)) (by decide) rfl (Nat.le_of_ble_eq_true rfl) ?_
  intro pg en s mi args below meth cd A hC hA hK hZ H locs hP hD hS ls hl
  obtain ⟨hx, hb, hr, hml, hown, hts, hlocks⟩ := hC
  have hl : lv_has ls 6 [(0, .ref k0), (1, .ref h), (2, .int (nI c)), (3, .int (nI 10)), (4, .int (nI dp))] := hl
  obtain ⟨hv0, hv1, hv2, hv3, hv4, hvc⟩ := id hv
  obtain ⟨hk1, hk5, ht1, ht2, he2, he4, ho1⟩ := hvc c hc
  refine lv_iload hx hb dX1_give_0 (lv_at hl 4 rfl) ?_
  refine lv_bipush (v := nI 10) hx hb dX1_give_2 (by decide) ?_
  refine q_icmp_le (tgt := 9) hx hb dX1_give_4 (by decide) (by omega) (by decide) (fun c1 => ?_) (fun c1 => absurd c1 (by omega))
  refine lv_aload_n hx hb dX1_give_9 rfl (lv_at hl 0 rfl) ?_
  refine lv_iload_n hx hb dX1_give_10 rfl (lv_at hl 3 rfl) ?_
  refine q_wvV (As := [.int (nI 10)]) (rest := []) (wr := [(h, .inr (2, [.int (nI (w 0)), .int (nI (w 1)), .int (nI (w 2)), .int (nI (w 4)), .int (nI (w 3)), .ref kA, .ref tA, .ref eA, .ref oA])), (kA, .inl (cy 0, 6, .inl fk)), (tA, .inl (cy 0, 6, .inl ft)), (eA, .inl (cy 0, 6, .inl fe)), (oA, .inl (cy 0, 6, .inl fo))]) ⟨hx, hb, hml, hown, hts⟩ (c_X1_leave l D cy k0 kt tf tn (by omega) 10) (cwV 1 hts gX1_give_X1_leave rfl rfl rfl (by decide +kernel) ⟨Nat.le_of_ble_eq_true rfl, Nat.le_of_ble_eq_true rfl⟩) hP hD hS hA hK [0, 1] [2, 3, 4, 5, 6] rfl rfl (by decide) rfl (by decide) (by decide) 0 rfl rfl rfl rfl hl.1 rfl (Nat.le_of_ble_eq_true rfl) dX1_give_11 ⟨Nat.zero_le _, Nat.zero_le _⟩ (fun u3 H locs hr2 hP hD hS => ?_)
  obtain rfl := hr2
  have hP : va_P D vwCl [(h, .inr (2, [.int (nI (w 0)), .int (nI (w 1)), .int (nI (w 2)), .int (nI (w 4)), .int (nI (w 3)), .ref kA, .ref tA, .ref eA, .ref oA])), (kA, .inl (cy 0, 6, .inl fk)), (tA, .inl (cy 0, 6, .inl ft)), (eA, .inl (cy 0, 6, .inl fe)), (oA, .inl (cy 0, 6, .inl fo)), (k0, .inr (1, [.ref kt, .int (nI (tn + 1))])), (kt, .inl (cy 0, 16, .inl (upd tf tn (nI 10))))] H := hP
  have hD : va_D A [(h, .inr (2, [.int (nI (w 0)), .int (nI (w 1)), .int (nI (w 2)), .int (nI (w 4)), .int (nI (w 3)), .ref kA, .ref tA, .ref eA, .ref oA])), (kA, .inl (cy 0, 6, .inl fk)), (tA, .inl (cy 0, 6, .inl ft)), (eA, .inl (cy 0, 6, .inl fe)), (oA, .inl (cy 0, 6, .inl fo)), (k0, .inr (1, [.ref kt, .int (nI (tn + 1))])), (kt, .inl (cy 0, 16, .inl (upd tf tn (nI 10))))] := hD
  refine lv_iload hx hb dX1_give_14 (lv_at hl 4 rfl) ?_
  refine lv_iconst (v := nI 1) hx hb dX1_give_16 (by decide) ?_
  refine lv_iadd hx hb dX1_give_17 ?_
  refine q_top (y := nI (dp + 1)) (nI_add _ _) ?_
  refine lv_istore (lv' := [(5, .int (nI (dp + 1))), (0, .ref k0), (1, .ref h), (2, .int (nI c)), (3, .int (nI 10)), (4, .int (nI dp))]) hx hb dX1_give_18 hl (by decide) rfl (fun ls hl => ?_)
  refine lv_iload_n hx hb dX1_give_20 rfl (lv_at hl 4 rfl) ?_
  refine lv_tableIn (off := 75) (tgt := 96) hx hb dX1_give_21 (by decide) (by decide) (by decide) (by decide) ?_
  refine lv_aload_n hx hb dX1_give_96 rfl (lv_at hl 2 rfl) ?_
  refine va_get (D := D) (ci := 2) (v := .ref tA) (C := RX2) (T := TX2) (N := 9) hx hb hts ng10_0 hown hK.1 hP 0 rfl rfl 6 (by decide) (hts _ mg10_1) (fun _ h9 => h9) rfl dX1_give_97 ?_
  refine lv_iload_n hx hb dX1_give_100 rfl (lv_at hl 3 rfl) ?_
  refine q_iald (j := c) (v := nI (ctT w c)) hx hb hK hP 2 rfl (by omega) (by decide) (ctIs_1 hw (by omega)) dX1_give_101 ?_
  have hP9 := hP.sub (ws' := [(k0, .inr (1, [.ref kt, .int (nI (tn + 1))])), (kt, .inl (cy 0, 16, .inl (upd tf tn (nI 10)))), (h, .inr (2, [.int (nI (w 0)), .int (nI (w 1)), .int (nI (w 2)), .int (nI (w 4)), .int (nI (w 3)), .ref kA, .ref tA, .ref eA, .ref oA])), (kA, .inl (cy 0, 6, .inl fk)), (tA, .inl (cy 0, 6, .inl ft)), (eA, .inl (cy 0, 6, .inl fe)), (oA, .inl (cy 0, 6, .inl fo))]) [5, 6, 0, 1, 2, 3, 4] rfl
  have hD9 := hD.sub (ws' := [(k0, .inr (1, [.ref kt, .int (nI (tn + 1))])), (kt, .inl (cy 0, 16, .inl (upd tf tn (nI 10)))), (h, .inr (2, [.int (nI (w 0)), .int (nI (w 1)), .int (nI (w 2)), .int (nI (w 4)), .int (nI (w 3)), .ref kA, .ref tA, .ref eA, .ref oA])), (kA, .inl (cy 0, 6, .inl fk)), (tA, .inl (cy 0, 6, .inl ft)), (eA, .inl (cy 0, 6, .inl fe)), (oA, .inl (cy 0, 6, .inl fo))]) [5, 6, 0, 1, 2, 3, 4] (by decide) rfl
  exact q_wiret (v := nI (ctT w c)) hx hb hr hlocks dX1_give_102 hP9 hD9 hS (⟨rfl, rfl⟩)
set_option maxHeartbeats 4000000 in
set_option maxRecDepth 100000 in
theorem c_g20 (l : Launch) (D : va_G) (cy : Nat → ClassId) (k0 kt : Nat) (tf : Nat → Int32) (tn : Nat) (h kA tA eA oA : Nat) (w : Nat → Nat) (fk ft fe fo : Nat → Int32) (hw : ctIs w fk ft fe fo) (hv : ctOk w) (c : Nat) (hc : c < w 4) (hkd : True) (htn : tn + 1 ≤ 16) (dp : Nat) (hdp : dp + 0 ≤ 10) : q_WiZ l yX1_give wsX1_give 2 D cy [(k0, .inr (1, [.ref kt, .int (nI tn)])), (kt, .inl (cy 0, 16, .inl tf)), (h, .inr (2, [.int (nI (w 0)), .int (nI (w 1)), .int (nI (w 2)), .int (nI (w 4)), .int (nI (w 3)), .ref kA, .ref tA, .ref eA, .ref oA])), (kA, .inl (cy 0, 6, .inl fk)), (tA, .inl (cy 0, 6, .inl ft)), (eA, .inl (cy 0, 6, .inl fe)), (oA, .inl (cy 0, 6, .inl fo))] [.ref k0, .ref h, .int (nI c), .int (nI 20), .int (nI dp)] (fun r u => r = nI c ∧ u = [(k0, .inr (1, [.ref kt, .int (nI (tn + 1))])), (kt, .inl (cy 0, 16, .inl (trP tf tn [20]))), (h, .inr (2, [.int (nI (w 0)), .int (nI (w 1)), .int (nI (w 2)), .int (nI (w 4)), .int (nI (w 3)), .ref kA, .ref tA, .ref eA, .ref oA])), (kA, .inl (cy 0, 6, .inl fk)), (tA, .inl (cy 0, 6, .inl ft)), (eA, .inl (cy 0, 6, .inl fe)), (oA, .inl (cy 0, 6, .inl fo))]) := by
  refine q_wiz_of (cc := cX1_give) (maxL := 6) (ret := (some .int)) (by decide) rfl (Nat.le_of_ble_eq_true rfl) ?_
  intro pg en s mi args below meth cd A hC hA hK hZ H locs hP hD hS ls hl
  obtain ⟨hx, hb, hr, hml, hown, hts, hlocks⟩ := hC
  have hl : lv_has ls 6 [(0, .ref k0), (1, .ref h), (2, .int (nI c)), (3, .int (nI 20)), (4, .int (nI dp))] := hl
  obtain ⟨hv0, hv1, hv2, hv3, hv4, hvc⟩ := id hv
  obtain ⟨hk1, hk5, ht1, ht2, he2, he4, ho1⟩ := hvc c hc
  refine lv_iload hx hb dX1_give_0 (lv_at hl 4 rfl) ?_
  refine lv_bipush (v := nI 10) hx hb dX1_give_2 (by decide) ?_
  refine q_icmp_le (tgt := 9) hx hb dX1_give_4 (by decide) (by omega) (by decide) (fun c1 => ?_) (fun c1 => absurd c1 (by omega))
  refine lv_aload_n hx hb dX1_give_9 rfl (lv_at hl 0 rfl) ?_
  refine lv_iload_n hx hb dX1_give_10 rfl (lv_at hl 3 rfl) ?_
  refine q_wvV (As := [.int (nI 20)]) (rest := []) (wr := [(h, .inr (2, [.int (nI (w 0)), .int (nI (w 1)), .int (nI (w 2)), .int (nI (w 4)), .int (nI (w 3)), .ref kA, .ref tA, .ref eA, .ref oA])), (kA, .inl (cy 0, 6, .inl fk)), (tA, .inl (cy 0, 6, .inl ft)), (eA, .inl (cy 0, 6, .inl fe)), (oA, .inl (cy 0, 6, .inl fo))]) ⟨hx, hb, hml, hown, hts⟩ (c_X1_leave l D cy k0 kt tf tn (by omega) 20) (cwV 1 hts gX1_give_X1_leave rfl rfl rfl (by decide +kernel) ⟨Nat.le_of_ble_eq_true rfl, Nat.le_of_ble_eq_true rfl⟩) hP hD hS hA hK [0, 1] [2, 3, 4, 5, 6] rfl rfl (by decide) rfl (by decide) (by decide) 0 rfl rfl rfl rfl hl.1 rfl (Nat.le_of_ble_eq_true rfl) dX1_give_11 ⟨Nat.zero_le _, Nat.zero_le _⟩ (fun u3 H locs hr2 hP hD hS => ?_)
  obtain rfl := hr2
  have hP : va_P D vwCl [(h, .inr (2, [.int (nI (w 0)), .int (nI (w 1)), .int (nI (w 2)), .int (nI (w 4)), .int (nI (w 3)), .ref kA, .ref tA, .ref eA, .ref oA])), (kA, .inl (cy 0, 6, .inl fk)), (tA, .inl (cy 0, 6, .inl ft)), (eA, .inl (cy 0, 6, .inl fe)), (oA, .inl (cy 0, 6, .inl fo)), (k0, .inr (1, [.ref kt, .int (nI (tn + 1))])), (kt, .inl (cy 0, 16, .inl (upd tf tn (nI 20))))] H := hP
  have hD : va_D A [(h, .inr (2, [.int (nI (w 0)), .int (nI (w 1)), .int (nI (w 2)), .int (nI (w 4)), .int (nI (w 3)), .ref kA, .ref tA, .ref eA, .ref oA])), (kA, .inl (cy 0, 6, .inl fk)), (tA, .inl (cy 0, 6, .inl ft)), (eA, .inl (cy 0, 6, .inl fe)), (oA, .inl (cy 0, 6, .inl fo)), (k0, .inr (1, [.ref kt, .int (nI (tn + 1))])), (kt, .inl (cy 0, 16, .inl (upd tf tn (nI 20))))] := hD
  refine lv_iload hx hb dX1_give_14 (lv_at hl 4 rfl) ?_
  refine lv_iconst (v := nI 1) hx hb dX1_give_16 (by decide) ?_
  refine lv_iadd hx hb dX1_give_17 ?_
  refine q_top (y := nI (dp + 1)) (nI_add _ _) ?_
  refine lv_istore (lv' := [(5, .int (nI (dp + 1))), (0, .ref k0), (1, .ref h), (2, .int (nI c)), (3, .int (nI 20)), (4, .int (nI dp))]) hx hb dX1_give_18 hl (by decide) rfl (fun ls hl => ?_)
  refine lv_iload_n hx hb dX1_give_20 rfl (lv_at hl 4 rfl) ?_
  refine lv_tableIn (off := 142) (tgt := 163) hx hb dX1_give_21 (by decide) (by decide) (by decide) (by decide) ?_
  refine lv_iload_n hx hb dX1_give_163 rfl (lv_at hl 3 rfl) ?_
  have hP9 := hP.sub (ws' := [(k0, .inr (1, [.ref kt, .int (nI (tn + 1))])), (kt, .inl (cy 0, 16, .inl (upd tf tn (nI 20)))), (h, .inr (2, [.int (nI (w 0)), .int (nI (w 1)), .int (nI (w 2)), .int (nI (w 4)), .int (nI (w 3)), .ref kA, .ref tA, .ref eA, .ref oA])), (kA, .inl (cy 0, 6, .inl fk)), (tA, .inl (cy 0, 6, .inl ft)), (eA, .inl (cy 0, 6, .inl fe)), (oA, .inl (cy 0, 6, .inl fo))]) [5, 6, 0, 1, 2, 3, 4] rfl
  have hD9 := hD.sub (ws' := [(k0, .inr (1, [.ref kt, .int (nI (tn + 1))])), (kt, .inl (cy 0, 16, .inl (upd tf tn (nI 20)))), (h, .inr (2, [.int (nI (w 0)), .int (nI (w 1)), .int (nI (w 2)), .int (nI (w 4)), .int (nI (w 3)), .ref kA, .ref tA, .ref eA, .ref oA])), (kA, .inl (cy 0, 6, .inl fk)), (tA, .inl (cy 0, 6, .inl ft)), (eA, .inl (cy 0, 6, .inl fe)), (oA, .inl (cy 0, 6, .inl fo))]) [5, 6, 0, 1, 2, 3, 4] (by decide) rfl
  exact q_wiret (v := nI c) hx hb hr hlocks dX1_give_164 hP9 hD9 hS (⟨rfl, rfl⟩)
theorem ng21_0 : ∀ w ∈ wsX20, w ∈ wsX1_give := by decide +kernel
theorem mg21_1 : Cond.fieldLink RX1 45 "ClueLeave$City" "off" "[I" ∈ wsX1_give := by decide +kernel
set_option maxHeartbeats 4000000 in
set_option maxRecDepth 100000 in
theorem c_g21 (l : Launch) (D : va_G) (cy : Nat → ClassId) (k0 kt : Nat) (tf : Nat → Int32) (tn : Nat) (h kA tA eA oA : Nat) (w : Nat → Nat) (fk ft fe fo : Nat → Int32) (hw : ctIs w fk ft fe fo) (hv : ctOk w) (c : Nat) (hc : c < w 4) (hkd : True) (htn : tn + 2 ≤ 16) (dp : Nat) (hdp : dp + 1 ≤ 10) : q_WiZ l yX1_give wsX1_give 3 D cy [(k0, .inr (1, [.ref kt, .int (nI tn)])), (kt, .inl (cy 0, 16, .inl tf)), (h, .inr (2, [.int (nI (w 0)), .int (nI (w 1)), .int (nI (w 2)), .int (nI (w 4)), .int (nI (w 3)), .ref kA, .ref tA, .ref eA, .ref oA])), (kA, .inl (cy 0, 6, .inl fk)), (tA, .inl (cy 0, 6, .inl ft)), (eA, .inl (cy 0, 6, .inl fe)), (oA, .inl (cy 0, 6, .inl fo))] [.ref k0, .ref h, .int (nI c), .int (nI 21), .int (nI dp)] (fun r u => r = nI (c + ctO w c) ∧ u = [(k0, .inr (1, [.ref kt, .int (nI (tn + 2))])), (kt, .inl (cy 0, 16, .inl (trP tf tn [21, 20]))), (h, .inr (2, [.int (nI (w 0)), .int (nI (w 1)), .int (nI (w 2)), .int (nI (w 4)), .int (nI (w 3)), .ref kA, .ref tA, .ref eA, .ref oA])), (kA, .inl (cy 0, 6, .inl fk)), (tA, .inl (cy 0, 6, .inl ft)), (eA, .inl (cy 0, 6, .inl fe)), (oA, .inl (cy 0, 6, .inl fo))]) := by
  refine q_wiz_of (cc := cX1_give) (maxL := 6) (ret := (some .int)) (by decide) rfl (Nat.le_of_ble_eq_true rfl) ?_
  intro pg en s mi args below meth cd A hC hA hK hZ H locs hP hD hS ls hl
  obtain ⟨hx, hb, hr, hml, hown, hts, hlocks⟩ := hC
  have hl : lv_has ls 6 [(0, .ref k0), (1, .ref h), (2, .int (nI c)), (3, .int (nI 21)), (4, .int (nI dp))] := hl
  obtain ⟨hv0, hv1, hv2, hv3, hv4, hvc⟩ := id hv
  obtain ⟨hk1, hk5, ht1, ht2, he2, he4, ho1⟩ := hvc c hc
  refine lv_iload hx hb dX1_give_0 (lv_at hl 4 rfl) ?_
  refine lv_bipush (v := nI 10) hx hb dX1_give_2 (by decide) ?_
  refine q_icmp_le (tgt := 9) hx hb dX1_give_4 (by decide) (by omega) (by decide) (fun c1 => ?_) (fun c1 => absurd c1 (by omega))
  refine lv_aload_n hx hb dX1_give_9 rfl (lv_at hl 0 rfl) ?_
  refine lv_iload_n hx hb dX1_give_10 rfl (lv_at hl 3 rfl) ?_
  refine q_wvV (As := [.int (nI 21)]) (rest := []) (wr := [(h, .inr (2, [.int (nI (w 0)), .int (nI (w 1)), .int (nI (w 2)), .int (nI (w 4)), .int (nI (w 3)), .ref kA, .ref tA, .ref eA, .ref oA])), (kA, .inl (cy 0, 6, .inl fk)), (tA, .inl (cy 0, 6, .inl ft)), (eA, .inl (cy 0, 6, .inl fe)), (oA, .inl (cy 0, 6, .inl fo))]) ⟨hx, hb, hml, hown, hts⟩ (c_X1_leave l D cy k0 kt tf tn (by omega) 21) (cwV 1 hts gX1_give_X1_leave rfl rfl rfl (by decide +kernel) ⟨Nat.le_of_ble_eq_true rfl, Nat.le_of_ble_eq_true rfl⟩) hP hD hS hA hK [0, 1] [2, 3, 4, 5, 6] rfl rfl (by decide) rfl (by decide) (by decide) 0 rfl rfl rfl rfl hl.1 rfl (Nat.le_of_ble_eq_true rfl) dX1_give_11 ⟨Nat.zero_le _, Nat.zero_le _⟩ (fun u3 H locs hr2 hP hD hS => ?_)
  obtain rfl := hr2
  have hP : va_P D vwCl [(h, .inr (2, [.int (nI (w 0)), .int (nI (w 1)), .int (nI (w 2)), .int (nI (w 4)), .int (nI (w 3)), .ref kA, .ref tA, .ref eA, .ref oA])), (kA, .inl (cy 0, 6, .inl fk)), (tA, .inl (cy 0, 6, .inl ft)), (eA, .inl (cy 0, 6, .inl fe)), (oA, .inl (cy 0, 6, .inl fo)), (k0, .inr (1, [.ref kt, .int (nI (tn + 1))])), (kt, .inl (cy 0, 16, .inl (upd tf tn (nI 21))))] H := hP
  have hD : va_D A [(h, .inr (2, [.int (nI (w 0)), .int (nI (w 1)), .int (nI (w 2)), .int (nI (w 4)), .int (nI (w 3)), .ref kA, .ref tA, .ref eA, .ref oA])), (kA, .inl (cy 0, 6, .inl fk)), (tA, .inl (cy 0, 6, .inl ft)), (eA, .inl (cy 0, 6, .inl fe)), (oA, .inl (cy 0, 6, .inl fo)), (k0, .inr (1, [.ref kt, .int (nI (tn + 1))])), (kt, .inl (cy 0, 16, .inl (upd tf tn (nI 21))))] := hD
  refine lv_iload hx hb dX1_give_14 (lv_at hl 4 rfl) ?_
  refine lv_iconst (v := nI 1) hx hb dX1_give_16 (by decide) ?_
  refine lv_iadd hx hb dX1_give_17 ?_
  refine q_top (y := nI (dp + 1)) (nI_add _ _) ?_
  refine lv_istore (lv' := [(5, .int (nI (dp + 1))), (0, .ref k0), (1, .ref h), (2, .int (nI c)), (3, .int (nI 21)), (4, .int (nI dp))]) hx hb dX1_give_18 hl (by decide) rfl (fun ls hl => ?_)
  refine lv_iload_n hx hb dX1_give_20 rfl (lv_at hl 4 rfl) ?_
  refine lv_tableIn (off := 144) (tgt := 165) hx hb dX1_give_21 (by decide) (by decide) (by decide) (by decide) ?_
  refine lv_aload_n hx hb dX1_give_165 rfl (lv_at hl 1 rfl) ?_
  refine lv_aload_n hx hb dX1_give_166 rfl (lv_at hl 2 rfl) ?_
  refine lv_iload_n hx hb dX1_give_167 rfl (lv_at hl 3 rfl) ?_
  refine lv_bipush (v := nI 20) hx hb dX1_give_168 (by decide) ?_
  refine lv_iload hx hb dX1_give_170 (lv_at hl 0 rfl) ?_
  refine q_wizV (As := [.ref h, .int (nI c), .int (nI 20), .int (nI (dp + 1))]) (rest := []) (wr := []) ⟨hx, hb, hml, hown, hts⟩ (c_g20 l D cy k0 kt (upd tf tn (nI 21)) (tn + 1) h kA tA eA oA w fk ft fe fo hw hv c hc trivial (by omega) (dp + 1) (by omega)) (cwV 4 hts gX1_give_X1_give rfl rfl rfl (by decide +kernel) ⟨Nat.le_of_ble_eq_true rfl, Nat.le_of_ble_eq_true rfl⟩) hP hD hS hA hK hZ [5, 6, 0, 1, 2, 3, 4] [] rfl rfl (by decide) rfl (by decide) (by decide) 5 rfl rfl rfl rfl hl.1 rfl (Nat.le_of_ble_eq_true rfl) dX1_give_172 ⟨Nat.zero_le _, Nat.zero_le _⟩ (fun r4 u5 H locs hr4 hP hD hS => ?_)
  obtain ⟨rfl, rfl⟩ := hr4
  have hP : va_P D vwCl [(k0, .inr (1, [.ref kt, .int (nI ((tn + 1) + 1))])), (kt, .inl (cy 0, 16, .inl (trP (upd tf tn (nI 21)) (tn + 1) [20]))), (h, .inr (2, [.int (nI (w 0)), .int (nI (w 1)), .int (nI (w 2)), .int (nI (w 4)), .int (nI (w 3)), .ref kA, .ref tA, .ref eA, .ref oA])), (kA, .inl (cy 0, 6, .inl fk)), (tA, .inl (cy 0, 6, .inl ft)), (eA, .inl (cy 0, 6, .inl fe)), (oA, .inl (cy 0, 6, .inl fo))] H := hP
  have hD : va_D A [(k0, .inr (1, [.ref kt, .int (nI ((tn + 1) + 1))])), (kt, .inl (cy 0, 16, .inl (trP (upd tf tn (nI 21)) (tn + 1) [20]))), (h, .inr (2, [.int (nI (w 0)), .int (nI (w 1)), .int (nI (w 2)), .int (nI (w 4)), .int (nI (w 3)), .ref kA, .ref tA, .ref eA, .ref oA])), (kA, .inl (cy 0, 6, .inl fk)), (tA, .inl (cy 0, 6, .inl ft)), (eA, .inl (cy 0, 6, .inl fe)), (oA, .inl (cy 0, 6, .inl fo))] := hD
  refine lv_aload_n hx hb dX1_give_175 rfl (lv_at hl 2 rfl) ?_
  refine va_get (D := D) (ci := 2) (v := .ref oA) (C := RX2) (T := TX2) (N := 9) hx hb hts ng21_0 hown hK.1 hP 2 rfl rfl 8 (by decide) (hts _ mg21_1) (fun _ h9 => h9) rfl dX1_give_176 ?_
  refine lv_iload_n hx hb dX1_give_179 rfl (lv_at hl 3 rfl) ?_
  refine q_iald (j := c) (v := nI (ctO w c)) hx hb hK hP 6 rfl (by omega) (by decide) (ctIs_3 hw (by omega)) dX1_give_180 ?_
  refine lv_iadd hx hb dX1_give_181 ?_
  refine q_top (y := nI (c + (ctO w c))) (nI_add _ _) ?_
  have hP9 := hP
  have hD9 := hD
  exact q_wiret (v := nI (c + (ctO w c))) hx hb hr hlocks dX1_give_182 hP9 hD9 hS (⟨rfl, rfl⟩)
set_option maxHeartbeats 4000000 in
set_option maxRecDepth 100000 in
theorem c_g22 (l : Launch) (D : va_G) (cy : Nat → ClassId) (k0 kt : Nat) (tf : Nat → Int32) (tn : Nat) (h kA tA eA oA : Nat) (w : Nat → Nat) (fk ft fe fo : Nat → Int32) (hw : ctIs w fk ft fe fo) (hv : ctOk w) (c : Nat) (hc : c < w 4) (hkd : True) (htn : tn + 3 ≤ 16) (dp : Nat) (hdp : dp + 2 ≤ 10) : q_WiZ l yX1_give wsX1_give 4 D cy [(k0, .inr (1, [.ref kt, .int (nI tn)])), (kt, .inl (cy 0, 16, .inl tf)), (h, .inr (2, [.int (nI (w 0)), .int (nI (w 1)), .int (nI (w 2)), .int (nI (w 4)), .int (nI (w 3)), .ref kA, .ref tA, .ref eA, .ref oA])), (kA, .inl (cy 0, 6, .inl fk)), (tA, .inl (cy 0, 6, .inl ft)), (eA, .inl (cy 0, 6, .inl fe)), (oA, .inl (cy 0, 6, .inl fo))] [.ref k0, .ref h, .int (nI c), .int (nI 22), .int (nI dp)] (fun r u => r = nI (c + ctO w c) - nI 1000 ∧ u = [(k0, .inr (1, [.ref kt, .int (nI (tn + 3))])), (kt, .inl (cy 0, 16, .inl (trP tf tn [22, 21, 20]))), (h, .inr (2, [.int (nI (w 0)), .int (nI (w 1)), .int (nI (w 2)), .int (nI (w 4)), .int (nI (w 3)), .ref kA, .ref tA, .ref eA, .ref oA])), (kA, .inl (cy 0, 6, .inl fk)), (tA, .inl (cy 0, 6, .inl ft)), (eA, .inl (cy 0, 6, .inl fe)), (oA, .inl (cy 0, 6, .inl fo))]) := by
  refine q_wiz_of (cc := cX1_give) (maxL := 6) (ret := (some .int)) (by decide) rfl (Nat.le_of_ble_eq_true rfl) ?_
  intro pg en s mi args below meth cd A hC hA hK hZ H locs hP hD hS ls hl
  obtain ⟨hx, hb, hr, hml, hown, hts, hlocks⟩ := hC
  have hl : lv_has ls 6 [(0, .ref k0), (1, .ref h), (2, .int (nI c)), (3, .int (nI 22)), (4, .int (nI dp))] := hl
  obtain ⟨hv0, hv1, hv2, hv3, hv4, hvc⟩ := id hv
  obtain ⟨hk1, hk5, ht1, ht2, he2, he4, ho1⟩ := hvc c hc
  refine lv_iload hx hb dX1_give_0 (lv_at hl 4 rfl) ?_
  refine lv_bipush (v := nI 10) hx hb dX1_give_2 (by decide) ?_
  refine q_icmp_le (tgt := 9) hx hb dX1_give_4 (by decide) (by omega) (by decide) (fun c1 => ?_) (fun c1 => absurd c1 (by omega))
  refine lv_aload_n hx hb dX1_give_9 rfl (lv_at hl 0 rfl) ?_
  refine lv_iload_n hx hb dX1_give_10 rfl (lv_at hl 3 rfl) ?_
  refine q_wvV (As := [.int (nI 22)]) (rest := []) (wr := [(h, .inr (2, [.int (nI (w 0)), .int (nI (w 1)), .int (nI (w 2)), .int (nI (w 4)), .int (nI (w 3)), .ref kA, .ref tA, .ref eA, .ref oA])), (kA, .inl (cy 0, 6, .inl fk)), (tA, .inl (cy 0, 6, .inl ft)), (eA, .inl (cy 0, 6, .inl fe)), (oA, .inl (cy 0, 6, .inl fo))]) ⟨hx, hb, hml, hown, hts⟩ (c_X1_leave l D cy k0 kt tf tn (by omega) 22) (cwV 1 hts gX1_give_X1_leave rfl rfl rfl (by decide +kernel) ⟨Nat.le_of_ble_eq_true rfl, Nat.le_of_ble_eq_true rfl⟩) hP hD hS hA hK [0, 1] [2, 3, 4, 5, 6] rfl rfl (by decide) rfl (by decide) (by decide) 0 rfl rfl rfl rfl hl.1 rfl (Nat.le_of_ble_eq_true rfl) dX1_give_11 ⟨Nat.zero_le _, Nat.zero_le _⟩ (fun u3 H locs hr2 hP hD hS => ?_)
  obtain rfl := hr2
  have hP : va_P D vwCl [(h, .inr (2, [.int (nI (w 0)), .int (nI (w 1)), .int (nI (w 2)), .int (nI (w 4)), .int (nI (w 3)), .ref kA, .ref tA, .ref eA, .ref oA])), (kA, .inl (cy 0, 6, .inl fk)), (tA, .inl (cy 0, 6, .inl ft)), (eA, .inl (cy 0, 6, .inl fe)), (oA, .inl (cy 0, 6, .inl fo)), (k0, .inr (1, [.ref kt, .int (nI (tn + 1))])), (kt, .inl (cy 0, 16, .inl (upd tf tn (nI 22))))] H := hP
  have hD : va_D A [(h, .inr (2, [.int (nI (w 0)), .int (nI (w 1)), .int (nI (w 2)), .int (nI (w 4)), .int (nI (w 3)), .ref kA, .ref tA, .ref eA, .ref oA])), (kA, .inl (cy 0, 6, .inl fk)), (tA, .inl (cy 0, 6, .inl ft)), (eA, .inl (cy 0, 6, .inl fe)), (oA, .inl (cy 0, 6, .inl fo)), (k0, .inr (1, [.ref kt, .int (nI (tn + 1))])), (kt, .inl (cy 0, 16, .inl (upd tf tn (nI 22))))] := hD
  refine lv_iload hx hb dX1_give_14 (lv_at hl 4 rfl) ?_
  refine lv_iconst (v := nI 1) hx hb dX1_give_16 (by decide) ?_
  refine lv_iadd hx hb dX1_give_17 ?_
  refine q_top (y := nI (dp + 1)) (nI_add _ _) ?_
  refine lv_istore (lv' := [(5, .int (nI (dp + 1))), (0, .ref k0), (1, .ref h), (2, .int (nI c)), (3, .int (nI 22)), (4, .int (nI dp))]) hx hb dX1_give_18 hl (by decide) rfl (fun ls hl => ?_)
  refine lv_iload_n hx hb dX1_give_20 rfl (lv_at hl 4 rfl) ?_
  refine lv_tableIn (off := 162) (tgt := 183) hx hb dX1_give_21 (by decide) (by decide) (by decide) (by decide) ?_
  refine lv_aload_n hx hb dX1_give_183 rfl (lv_at hl 1 rfl) ?_
  refine lv_aload_n hx hb dX1_give_184 rfl (lv_at hl 2 rfl) ?_
  refine lv_iload_n hx hb dX1_give_185 rfl (lv_at hl 3 rfl) ?_
  refine lv_bipush (v := nI 21) hx hb dX1_give_186 (by decide) ?_
  refine lv_iload hx hb dX1_give_188 (lv_at hl 0 rfl) ?_
  refine q_wizV (As := [.ref h, .int (nI c), .int (nI 21), .int (nI (dp + 1))]) (rest := []) (wr := []) ⟨hx, hb, hml, hown, hts⟩ (c_g21 l D cy k0 kt (upd tf tn (nI 22)) (tn + 1) h kA tA eA oA w fk ft fe fo hw hv c hc trivial (by omega) (dp + 1) (by omega)) (cwV 4 hts gX1_give_X1_give rfl rfl rfl (by decide +kernel) ⟨Nat.le_of_ble_eq_true rfl, Nat.le_of_ble_eq_true rfl⟩) hP hD hS hA hK hZ [5, 6, 0, 1, 2, 3, 4] [] rfl rfl (by decide) rfl (by decide) (by decide) 5 rfl rfl rfl rfl hl.1 rfl (Nat.le_of_ble_eq_true rfl) dX1_give_190 ⟨Nat.zero_le _, Nat.zero_le _⟩ (fun r4 u5 H locs hr4 hP hD hS => ?_)
  obtain ⟨rfl, rfl⟩ := hr4
  have hP : va_P D vwCl [(k0, .inr (1, [.ref kt, .int (nI ((tn + 1) + 2))])), (kt, .inl (cy 0, 16, .inl (trP (upd tf tn (nI 22)) (tn + 1) [21, 20]))), (h, .inr (2, [.int (nI (w 0)), .int (nI (w 1)), .int (nI (w 2)), .int (nI (w 4)), .int (nI (w 3)), .ref kA, .ref tA, .ref eA, .ref oA])), (kA, .inl (cy 0, 6, .inl fk)), (tA, .inl (cy 0, 6, .inl ft)), (eA, .inl (cy 0, 6, .inl fe)), (oA, .inl (cy 0, 6, .inl fo))] H := hP
  have hD : va_D A [(k0, .inr (1, [.ref kt, .int (nI ((tn + 1) + 2))])), (kt, .inl (cy 0, 16, .inl (trP (upd tf tn (nI 22)) (tn + 1) [21, 20]))), (h, .inr (2, [.int (nI (w 0)), .int (nI (w 1)), .int (nI (w 2)), .int (nI (w 4)), .int (nI (w 3)), .ref kA, .ref tA, .ref eA, .ref oA])), (kA, .inl (cy 0, 6, .inl fk)), (tA, .inl (cy 0, 6, .inl ft)), (eA, .inl (cy 0, 6, .inl fe)), (oA, .inl (cy 0, 6, .inl fo))] := hD
  refine lv_sipush (v := nI 1000) hx hb dX1_give_193 (by decide) ?_
  refine lv_isub hx hb dX1_give_196 ?_
  have hP9 := hP
  have hD9 := hD
  exact q_wiret (v := (nI (c + ctO w c)) - (nI 1000)) hx hb hr hlocks dX1_give_197 hP9 hD9 hS (⟨rfl, rfl⟩)
set_option maxHeartbeats 4000000 in
set_option maxRecDepth 100000 in
theorem c_g24 (l : Launch) (D : va_G) (cy : Nat → ClassId) (k0 kt : Nat) (tf : Nat → Int32) (tn : Nat) (h kA tA eA oA : Nat) (w : Nat → Nat) (fk ft fe fo : Nat → Int32) (hw : ctIs w fk ft fe fo) (hv : ctOk w) (c : Nat) (hc : c < w 4) (hkd : True) (htn : tn + 3 ≤ 16) (dp : Nat) (hdp : dp + 2 ≤ 10) : q_WiZ l yX1_give wsX1_give 4 D cy [(k0, .inr (1, [.ref kt, .int (nI tn)])), (kt, .inl (cy 0, 16, .inl tf)), (h, .inr (2, [.int (nI (w 0)), .int (nI (w 1)), .int (nI (w 2)), .int (nI (w 4)), .int (nI (w 3)), .ref kA, .ref tA, .ref eA, .ref oA])), (kA, .inl (cy 0, 6, .inl fk)), (tA, .inl (cy 0, 6, .inl ft)), (eA, .inl (cy 0, 6, .inl fe)), (oA, .inl (cy 0, 6, .inl fo))] [.ref k0, .ref h, .int (nI c), .int (nI 24), .int (nI dp)] (fun r u => r = nI (2 * (c + ctO w c)) ∧ u = [(k0, .inr (1, [.ref kt, .int (nI (tn + 3))])), (kt, .inl (cy 0, 16, .inl (trP tf tn [24, 21, 20]))), (h, .inr (2, [.int (nI (w 0)), .int (nI (w 1)), .int (nI (w 2)), .int (nI (w 4)), .int (nI (w 3)), .ref kA, .ref tA, .ref eA, .ref oA])), (kA, .inl (cy 0, 6, .inl fk)), (tA, .inl (cy 0, 6, .inl ft)), (eA, .inl (cy 0, 6, .inl fe)), (oA, .inl (cy 0, 6, .inl fo))]) := by
  refine q_wiz_of (cc := cX1_give) (maxL := 6) (ret := (some .int)) (by decide) rfl (Nat.le_of_ble_eq_true rfl) ?_
  intro pg en s mi args below meth cd A hC hA hK hZ H locs hP hD hS ls hl
  obtain ⟨hx, hb, hr, hml, hown, hts, hlocks⟩ := hC
  have hl : lv_has ls 6 [(0, .ref k0), (1, .ref h), (2, .int (nI c)), (3, .int (nI 24)), (4, .int (nI dp))] := hl
  obtain ⟨hv0, hv1, hv2, hv3, hv4, hvc⟩ := id hv
  obtain ⟨hk1, hk5, ht1, ht2, he2, he4, ho1⟩ := hvc c hc
  refine lv_iload hx hb dX1_give_0 (lv_at hl 4 rfl) ?_
  refine lv_bipush (v := nI 10) hx hb dX1_give_2 (by decide) ?_
  refine q_icmp_le (tgt := 9) hx hb dX1_give_4 (by decide) (by omega) (by decide) (fun c1 => ?_) (fun c1 => absurd c1 (by omega))
  refine lv_aload_n hx hb dX1_give_9 rfl (lv_at hl 0 rfl) ?_
  refine lv_iload_n hx hb dX1_give_10 rfl (lv_at hl 3 rfl) ?_
  refine q_wvV (As := [.int (nI 24)]) (rest := []) (wr := [(h, .inr (2, [.int (nI (w 0)), .int (nI (w 1)), .int (nI (w 2)), .int (nI (w 4)), .int (nI (w 3)), .ref kA, .ref tA, .ref eA, .ref oA])), (kA, .inl (cy 0, 6, .inl fk)), (tA, .inl (cy 0, 6, .inl ft)), (eA, .inl (cy 0, 6, .inl fe)), (oA, .inl (cy 0, 6, .inl fo))]) ⟨hx, hb, hml, hown, hts⟩ (c_X1_leave l D cy k0 kt tf tn (by omega) 24) (cwV 1 hts gX1_give_X1_leave rfl rfl rfl (by decide +kernel) ⟨Nat.le_of_ble_eq_true rfl, Nat.le_of_ble_eq_true rfl⟩) hP hD hS hA hK [0, 1] [2, 3, 4, 5, 6] rfl rfl (by decide) rfl (by decide) (by decide) 0 rfl rfl rfl rfl hl.1 rfl (Nat.le_of_ble_eq_true rfl) dX1_give_11 ⟨Nat.zero_le _, Nat.zero_le _⟩ (fun u3 H locs hr2 hP hD hS => ?_)
  obtain rfl := hr2
  have hP : va_P D vwCl [(h, .inr (2, [.int (nI (w 0)), .int (nI (w 1)), .int (nI (w 2)), .int (nI (w 4)), .int (nI (w 3)), .ref kA, .ref tA, .ref eA, .ref oA])), (kA, .inl (cy 0, 6, .inl fk)), (tA, .inl (cy 0, 6, .inl ft)), (eA, .inl (cy 0, 6, .inl fe)), (oA, .inl (cy 0, 6, .inl fo)), (k0, .inr (1, [.ref kt, .int (nI (tn + 1))])), (kt, .inl (cy 0, 16, .inl (upd tf tn (nI 24))))] H := hP
  have hD : va_D A [(h, .inr (2, [.int (nI (w 0)), .int (nI (w 1)), .int (nI (w 2)), .int (nI (w 4)), .int (nI (w 3)), .ref kA, .ref tA, .ref eA, .ref oA])), (kA, .inl (cy 0, 6, .inl fk)), (tA, .inl (cy 0, 6, .inl ft)), (eA, .inl (cy 0, 6, .inl fe)), (oA, .inl (cy 0, 6, .inl fo)), (k0, .inr (1, [.ref kt, .int (nI (tn + 1))])), (kt, .inl (cy 0, 16, .inl (upd tf tn (nI 24))))] := hD
  refine lv_iload hx hb dX1_give_14 (lv_at hl 4 rfl) ?_
  refine lv_iconst (v := nI 1) hx hb dX1_give_16 (by decide) ?_
  refine lv_iadd hx hb dX1_give_17 ?_
  refine q_top (y := nI (dp + 1)) (nI_add _ _) ?_
  refine lv_istore (lv' := [(5, .int (nI (dp + 1))), (0, .ref k0), (1, .ref h), (2, .int (nI c)), (3, .int (nI 24)), (4, .int (nI dp))]) hx hb dX1_give_18 hl (by decide) rfl (fun ls hl => ?_)
  refine lv_iload_n hx hb dX1_give_20 rfl (lv_at hl 4 rfl) ?_
  refine lv_tableIn (off := 198) (tgt := 219) hx hb dX1_give_21 (by decide) (by decide) (by decide) (by decide) ?_
  refine lv_iconst (v := nI 2) hx hb dX1_give_219 (by decide) ?_
  refine lv_aload_n hx hb dX1_give_220 rfl (lv_at hl 1 rfl) ?_
  refine lv_aload_n hx hb dX1_give_221 rfl (lv_at hl 2 rfl) ?_
  refine lv_iload_n hx hb dX1_give_222 rfl (lv_at hl 3 rfl) ?_
  refine lv_bipush (v := nI 21) hx hb dX1_give_223 (by decide) ?_
  refine lv_iload hx hb dX1_give_225 (lv_at hl 0 rfl) ?_
  refine q_wizV (As := [.ref h, .int (nI c), .int (nI 21), .int (nI (dp + 1))]) (rest := [.int (nI 2)]) (wr := []) ⟨hx, hb, hml, hown, hts⟩ (c_g21 l D cy k0 kt (upd tf tn (nI 24)) (tn + 1) h kA tA eA oA w fk ft fe fo hw hv c hc trivial (by omega) (dp + 1) (by omega)) (cwV 4 hts gX1_give_X1_give rfl rfl rfl (by decide +kernel) ⟨Nat.le_of_ble_eq_true rfl, Nat.le_of_ble_eq_true rfl⟩) hP hD hS hA hK hZ [5, 6, 0, 1, 2, 3, 4] [] rfl rfl (by decide) rfl (by decide) (by decide) 5 rfl rfl rfl rfl hl.1 rfl (Nat.le_of_ble_eq_true rfl) dX1_give_227 ⟨Nat.zero_le _, Nat.zero_le _⟩ (fun r4 u5 H locs hr4 hP hD hS => ?_)
  obtain ⟨rfl, rfl⟩ := hr4
  have hP : va_P D vwCl [(k0, .inr (1, [.ref kt, .int (nI ((tn + 1) + 2))])), (kt, .inl (cy 0, 16, .inl (trP (upd tf tn (nI 24)) (tn + 1) [21, 20]))), (h, .inr (2, [.int (nI (w 0)), .int (nI (w 1)), .int (nI (w 2)), .int (nI (w 4)), .int (nI (w 3)), .ref kA, .ref tA, .ref eA, .ref oA])), (kA, .inl (cy 0, 6, .inl fk)), (tA, .inl (cy 0, 6, .inl ft)), (eA, .inl (cy 0, 6, .inl fe)), (oA, .inl (cy 0, 6, .inl fo))] H := hP
  have hD : va_D A [(k0, .inr (1, [.ref kt, .int (nI ((tn + 1) + 2))])), (kt, .inl (cy 0, 16, .inl (trP (upd tf tn (nI 24)) (tn + 1) [21, 20]))), (h, .inr (2, [.int (nI (w 0)), .int (nI (w 1)), .int (nI (w 2)), .int (nI (w 4)), .int (nI (w 3)), .ref kA, .ref tA, .ref eA, .ref oA])), (kA, .inl (cy 0, 6, .inl fk)), (tA, .inl (cy 0, 6, .inl ft)), (eA, .inl (cy 0, 6, .inl fe)), (oA, .inl (cy 0, 6, .inl fo))] := hD
  refine lv_imul hx hb dX1_give_230 ?_
  refine q_top (y := nI (2 * (c + ctO w c))) (pk_mul _ _) ?_
  have hP9 := hP
  have hD9 := hD
  exact q_wiret (v := nI (2 * (c + ctO w c))) hx hb hr hlocks dX1_give_231 hP9 hD9 hS (⟨rfl, rfl⟩)
theorem nb1_1_0 : ∀ w ∈ wsX20, w ∈ wsX1_begin := by decide +kernel
theorem mb1_1_1 : Cond.fieldLink RX1 24 "ClueLeave$City" "kinds" "[I" ∈ wsX1_begin := by decide +kernel
theorem mb1_1_2 : Cond.fieldLink RX1 32 "ClueLeave$Asks" "MARKS" "[I" ∈ wsX1_begin := by decide +kernel
set_option maxHeartbeats 4000000 in
set_option maxRecDepth 100000 in
theorem c_b1_1 (l : Launch) (D : va_G) (cy : Nat → ClassId) (k0 kt : Nat) (tf : Nat → Int32) (tn : Nat) (h kA tA eA oA : Nat) (w : Nat → Nat) (fk ft fe fo : Nat → Int32) (hw : ctIs w fk ft fe fo) (hv : ctOk w) (c : Nat) (hc : c < w 4) (hkd : ctK w c = 1) (htn : tn + 2 ≤ 16) (dp : Nat) (hdp : dp + 3 ≤ 10) : q_WiZ l yX1_begin wsX1_begin 5 D cy [(k0, .inr (1, [.ref kt, .int (nI tn)])), (kt, .inl (cy 0, 16, .inl tf)), (h, .inr (2, [.int (nI (w 0)), .int (nI (w 1)), .int (nI (w 2)), .int (nI (w 4)), .int (nI (w 3)), .ref kA, .ref tA, .ref eA, .ref oA])), (kA, .inl (cy 0, 6, .inl fk)), (tA, .inl (cy 0, 6, .inl ft)), (eA, .inl (cy 0, 6, .inl fe)), (oA, .inl (cy 0, 6, .inl fo))] [.ref k0, .ref h, .int (nI c), .int (nI 1), .int (nI dp)] (fun r u => r = nI (c + ctO w c) ∧ u = [(k0, .inr (1, [.ref kt, .int (nI (tn + 2))])), (kt, .inl (cy 0, 16, .inl (trP tf tn [21, 20]))), (h, .inr (2, [.int (nI (w 0)), .int (nI (w 1)), .int (nI (w 2)), .int (nI (w 4)), .int (nI (w 3)), .ref kA, .ref tA, .ref eA, .ref oA])), (kA, .inl (cy 0, 6, .inl fk)), (tA, .inl (cy 0, 6, .inl ft)), (eA, .inl (cy 0, 6, .inl fe)), (oA, .inl (cy 0, 6, .inl fo))]) := by
  refine q_wiz_of (cc := cX1_begin) (maxL := 6) (ret := (some .int)) (by decide) rfl (Nat.le_of_ble_eq_true rfl) ?_
  intro pg en s mi args below meth cd A hC hA hK hZ H locs hP hD hS ls hl
  obtain ⟨hx, hb, hr, hml, hown, hts, hlocks⟩ := hC
  have hl : lv_has ls 6 [(0, .ref k0), (1, .ref h), (2, .int (nI c)), (3, .int (nI 1)), (4, .int (nI dp))] := hl
  obtain ⟨hv0, hv1, hv2, hv3, hv4, hvc⟩ := id hv
  obtain ⟨⟨t1, hz1, hz2⟩, ⟨t2, hz3, hz4⟩⟩ := id hZ
  refine lv_aload_n hx hb dX1_begin_0 rfl (lv_at hl 1 rfl) ?_
  refine va_get (D := D) (ci := 2) (v := .ref kA) (C := RX2) (T := TX2) (N := 9) hx hb hts nb1_1_0 hown hK.1 hP 2 rfl rfl 5 (by decide) (hts _ mb1_1_1) (fun _ h9 => h9) rfl dX1_begin_1 ?_
  refine lv_iload_n hx hb dX1_begin_4 rfl (lv_at hl 2 rfl) ?_
  refine q_iald (j := c) (v := nI (ctK w c)) hx hb hK hP 3 rfl (by omega) (by decide) (ctIs_0 hw (by omega)) dX1_begin_5 ?_
  refine q_top (y := nI 1) (congrArg nI hkd) ?_
  refine lv_istore (lv' := [(5, .int (nI 1)), (0, .ref k0), (1, .ref h), (2, .int (nI c)), (3, .int (nI 1)), (4, .int (nI dp))]) hx hb dX1_begin_6 hl (by decide) rfl (fun ls hl => ?_)
  refine lv_aload_n hx hb dX1_begin_8 rfl (lv_at hl 1 rfl) ?_
  refine lv_aload_n hx hb dX1_begin_9 rfl (lv_at hl 2 rfl) ?_
  refine lv_iload_n hx hb dX1_begin_10 rfl (lv_at hl 3 rfl) ?_
  refine lv_iload_n hx hb dX1_begin_11 rfl (lv_at hl 4 rfl) ?_
  refine lv_if_ne (tgt := 24) hx hb dX1_begin_12 (by decide) (fun _ => ?_) (fun c9 => absurd c9 (by decide))
  refine va_gets (v := .ref t2) hx hb hz3 hS hown (hts _ mb1_1_2) (fun _ h9 => h9) dX1_begin_24 ?_
  refine lv_iload hx hb dX1_begin_27 (lv_at hl 0 rfl) ?_
  refine va_ti (v := .int (nI 21)) hx hb hz4 hS (vp_in_nI (by omega) (by decide)) (by rw [nI_clamp (by decide)]; rfl) dX1_begin_29 ?_
  refine lv_iload hx hb dX1_begin_30 (lv_at hl 5 rfl) ?_
  refine q_wizV (As := [.ref h, .int (nI c), .int (nI 21), .int (nI dp)]) (rest := []) (wr := []) ⟨hx, hb, hml, hown, hts⟩ (c_g21 l D cy k0 kt tf tn h kA tA eA oA w fk ft fe fo hw hv c hc trivial (by omega) dp (by omega)) (cwV 4 hts gX1_begin_X1_give rfl rfl rfl (by decide +kernel) ⟨Nat.le_of_ble_eq_true rfl, Nat.le_of_ble_eq_true rfl⟩) hP hD hS hA hK hZ [0, 1, 2, 3, 4, 5, 6] [] rfl rfl (by decide) rfl (by decide) (by decide) 0 rfl rfl rfl rfl hl.1 rfl (Nat.le_of_ble_eq_true rfl) dX1_begin_32 ⟨Nat.zero_le _, Nat.zero_le _⟩ (fun r1 u2 H locs hr1 hP hD hS => ?_)
  obtain ⟨rfl, rfl⟩ := hr1
  have hP : va_P D vwCl [(k0, .inr (1, [.ref kt, .int (nI (tn + 2))])), (kt, .inl (cy 0, 16, .inl (trP tf tn [21, 20]))), (h, .inr (2, [.int (nI (w 0)), .int (nI (w 1)), .int (nI (w 2)), .int (nI (w 4)), .int (nI (w 3)), .ref kA, .ref tA, .ref eA, .ref oA])), (kA, .inl (cy 0, 6, .inl fk)), (tA, .inl (cy 0, 6, .inl ft)), (eA, .inl (cy 0, 6, .inl fe)), (oA, .inl (cy 0, 6, .inl fo))] H := hP
  have hD : va_D A [(k0, .inr (1, [.ref kt, .int (nI (tn + 2))])), (kt, .inl (cy 0, 16, .inl (trP tf tn [21, 20]))), (h, .inr (2, [.int (nI (w 0)), .int (nI (w 1)), .int (nI (w 2)), .int (nI (w 4)), .int (nI (w 3)), .ref kA, .ref tA, .ref eA, .ref oA])), (kA, .inl (cy 0, 6, .inl fk)), (tA, .inl (cy 0, 6, .inl ft)), (eA, .inl (cy 0, 6, .inl fe)), (oA, .inl (cy 0, 6, .inl fo))] := hD
  have hP9 := hP
  have hD9 := hD
  exact q_wiret (v := nI (c + ctO w c)) hx hb hr hlocks dX1_begin_35 hP9 hD9 hS (⟨rfl, rfl⟩)
theorem nb1_2_0 : ∀ w ∈ wsX20, w ∈ wsX1_begin := by decide +kernel
theorem mb1_2_1 : Cond.fieldLink RX1 24 "ClueLeave$City" "kinds" "[I" ∈ wsX1_begin := by decide +kernel
theorem mb1_2_2 : Cond.fieldLink RX1 32 "ClueLeave$Asks" "MARKS" "[I" ∈ wsX1_begin := by decide +kernel
set_option maxHeartbeats 4000000 in
set_option maxRecDepth 100000 in
theorem c_b1_2 (l : Launch) (D : va_G) (cy : Nat → ClassId) (k0 kt : Nat) (tf : Nat → Int32) (tn : Nat) (h kA tA eA oA : Nat) (w : Nat → Nat) (fk ft fe fo : Nat → Int32) (hw : ctIs w fk ft fe fo) (hv : ctOk w) (c : Nat) (hc : c < w 4) (hkd : ctK w c = 2) (htn : tn + 3 ≤ 16) (dp : Nat) (hdp : dp + 3 ≤ 10) : q_WiZ l yX1_begin wsX1_begin 5 D cy [(k0, .inr (1, [.ref kt, .int (nI tn)])), (kt, .inl (cy 0, 16, .inl tf)), (h, .inr (2, [.int (nI (w 0)), .int (nI (w 1)), .int (nI (w 2)), .int (nI (w 4)), .int (nI (w 3)), .ref kA, .ref tA, .ref eA, .ref oA])), (kA, .inl (cy 0, 6, .inl fk)), (tA, .inl (cy 0, 6, .inl ft)), (eA, .inl (cy 0, 6, .inl fe)), (oA, .inl (cy 0, 6, .inl fo))] [.ref k0, .ref h, .int (nI c), .int (nI 1), .int (nI dp)] (fun r u => r = nI (2 * (c + ctO w c)) ∧ u = [(k0, .inr (1, [.ref kt, .int (nI (tn + 3))])), (kt, .inl (cy 0, 16, .inl (trP tf tn [24, 21, 20]))), (h, .inr (2, [.int (nI (w 0)), .int (nI (w 1)), .int (nI (w 2)), .int (nI (w 4)), .int (nI (w 3)), .ref kA, .ref tA, .ref eA, .ref oA])), (kA, .inl (cy 0, 6, .inl fk)), (tA, .inl (cy 0, 6, .inl ft)), (eA, .inl (cy 0, 6, .inl fe)), (oA, .inl (cy 0, 6, .inl fo))]) := by
  refine q_wiz_of (cc := cX1_begin) (maxL := 6) (ret := (some .int)) (by decide) rfl (Nat.le_of_ble_eq_true rfl) ?_
  intro pg en s mi args below meth cd A hC hA hK hZ H locs hP hD hS ls hl
  obtain ⟨hx, hb, hr, hml, hown, hts, hlocks⟩ := hC
  have hl : lv_has ls 6 [(0, .ref k0), (1, .ref h), (2, .int (nI c)), (3, .int (nI 1)), (4, .int (nI dp))] := hl
  obtain ⟨hv0, hv1, hv2, hv3, hv4, hvc⟩ := id hv
  obtain ⟨⟨t1, hz1, hz2⟩, ⟨t2, hz3, hz4⟩⟩ := id hZ
  refine lv_aload_n hx hb dX1_begin_0 rfl (lv_at hl 1 rfl) ?_
  refine va_get (D := D) (ci := 2) (v := .ref kA) (C := RX2) (T := TX2) (N := 9) hx hb hts nb1_2_0 hown hK.1 hP 2 rfl rfl 5 (by decide) (hts _ mb1_2_1) (fun _ h9 => h9) rfl dX1_begin_1 ?_
  refine lv_iload_n hx hb dX1_begin_4 rfl (lv_at hl 2 rfl) ?_
  refine q_iald (j := c) (v := nI (ctK w c)) hx hb hK hP 3 rfl (by omega) (by decide) (ctIs_0 hw (by omega)) dX1_begin_5 ?_
  refine q_top (y := nI 2) (congrArg nI hkd) ?_
  refine lv_istore (lv' := [(5, .int (nI 2)), (0, .ref k0), (1, .ref h), (2, .int (nI c)), (3, .int (nI 1)), (4, .int (nI dp))]) hx hb dX1_begin_6 hl (by decide) rfl (fun ls hl => ?_)
  refine lv_aload_n hx hb dX1_begin_8 rfl (lv_at hl 1 rfl) ?_
  refine lv_aload_n hx hb dX1_begin_9 rfl (lv_at hl 2 rfl) ?_
  refine lv_iload_n hx hb dX1_begin_10 rfl (lv_at hl 3 rfl) ?_
  refine lv_iload_n hx hb dX1_begin_11 rfl (lv_at hl 4 rfl) ?_
  refine lv_if_ne (tgt := 24) hx hb dX1_begin_12 (by decide) (fun _ => ?_) (fun c9 => absurd c9 (by decide))
  refine va_gets (v := .ref t2) hx hb hz3 hS hown (hts _ mb1_2_2) (fun _ h9 => h9) dX1_begin_24 ?_
  refine lv_iload hx hb dX1_begin_27 (lv_at hl 0 rfl) ?_
  refine va_ti (v := .int (nI 24)) hx hb hz4 hS (vp_in_nI (by omega) (by decide)) (by rw [nI_clamp (by decide)]; rfl) dX1_begin_29 ?_
  refine lv_iload hx hb dX1_begin_30 (lv_at hl 5 rfl) ?_
  refine q_wizV (As := [.ref h, .int (nI c), .int (nI 24), .int (nI dp)]) (rest := []) (wr := []) ⟨hx, hb, hml, hown, hts⟩ (c_g24 l D cy k0 kt tf tn h kA tA eA oA w fk ft fe fo hw hv c hc trivial (by omega) dp (by omega)) (cwV 4 hts gX1_begin_X1_give rfl rfl rfl (by decide +kernel) ⟨Nat.le_of_ble_eq_true rfl, Nat.le_of_ble_eq_true rfl⟩) hP hD hS hA hK hZ [0, 1, 2, 3, 4, 5, 6] [] rfl rfl (by decide) rfl (by decide) (by decide) 0 rfl rfl rfl rfl hl.1 rfl (Nat.le_of_ble_eq_true rfl) dX1_begin_32 ⟨Nat.zero_le _, Nat.zero_le _⟩ (fun r1 u2 H locs hr1 hP hD hS => ?_)
  obtain ⟨rfl, rfl⟩ := hr1
  have hP : va_P D vwCl [(k0, .inr (1, [.ref kt, .int (nI (tn + 3))])), (kt, .inl (cy 0, 16, .inl (trP tf tn [24, 21, 20]))), (h, .inr (2, [.int (nI (w 0)), .int (nI (w 1)), .int (nI (w 2)), .int (nI (w 4)), .int (nI (w 3)), .ref kA, .ref tA, .ref eA, .ref oA])), (kA, .inl (cy 0, 6, .inl fk)), (tA, .inl (cy 0, 6, .inl ft)), (eA, .inl (cy 0, 6, .inl fe)), (oA, .inl (cy 0, 6, .inl fo))] H := hP
  have hD : va_D A [(k0, .inr (1, [.ref kt, .int (nI (tn + 3))])), (kt, .inl (cy 0, 16, .inl (trP tf tn [24, 21, 20]))), (h, .inr (2, [.int (nI (w 0)), .int (nI (w 1)), .int (nI (w 2)), .int (nI (w 4)), .int (nI (w 3)), .ref kA, .ref tA, .ref eA, .ref oA])), (kA, .inl (cy 0, 6, .inl fk)), (tA, .inl (cy 0, 6, .inl ft)), (eA, .inl (cy 0, 6, .inl fe)), (oA, .inl (cy 0, 6, .inl fo))] := hD
  have hP9 := hP
  have hD9 := hD
  exact q_wiret (v := nI (2 * (c + ctO w c))) hx hb hr hlocks dX1_begin_35 hP9 hD9 hS (⟨rfl, rfl⟩)
theorem nb1_3_0 : ∀ w ∈ wsX20, w ∈ wsX1_begin := by decide +kernel
theorem mb1_3_1 : Cond.fieldLink RX1 24 "ClueLeave$City" "kinds" "[I" ∈ wsX1_begin := by decide +kernel
theorem mb1_3_2 : Cond.fieldLink RX1 32 "ClueLeave$Asks" "MARKS" "[I" ∈ wsX1_begin := by decide +kernel
set_option maxHeartbeats 4000000 in
set_option maxRecDepth 100000 in
theorem c_b1_3 (l : Launch) (D : va_G) (cy : Nat → ClassId) (k0 kt : Nat) (tf : Nat → Int32) (tn : Nat) (h kA tA eA oA : Nat) (w : Nat → Nat) (fk ft fe fo : Nat → Int32) (hw : ctIs w fk ft fe fo) (hv : ctOk w) (c : Nat) (hc : c < w 4) (hkd : ctK w c = 3) (htn : tn + 3 ≤ 16) (dp : Nat) (hdp : dp + 3 ≤ 10) : q_WiZ l yX1_begin wsX1_begin 5 D cy [(k0, .inr (1, [.ref kt, .int (nI tn)])), (kt, .inl (cy 0, 16, .inl tf)), (h, .inr (2, [.int (nI (w 0)), .int (nI (w 1)), .int (nI (w 2)), .int (nI (w 4)), .int (nI (w 3)), .ref kA, .ref tA, .ref eA, .ref oA])), (kA, .inl (cy 0, 6, .inl fk)), (tA, .inl (cy 0, 6, .inl ft)), (eA, .inl (cy 0, 6, .inl fe)), (oA, .inl (cy 0, 6, .inl fo))] [.ref k0, .ref h, .int (nI c), .int (nI 1), .int (nI dp)] (fun r u => r = nI (c + ctO w c) - nI 1000 ∧ u = [(k0, .inr (1, [.ref kt, .int (nI (tn + 3))])), (kt, .inl (cy 0, 16, .inl (trP tf tn [22, 21, 20]))), (h, .inr (2, [.int (nI (w 0)), .int (nI (w 1)), .int (nI (w 2)), .int (nI (w 4)), .int (nI (w 3)), .ref kA, .ref tA, .ref eA, .ref oA])), (kA, .inl (cy 0, 6, .inl fk)), (tA, .inl (cy 0, 6, .inl ft)), (eA, .inl (cy 0, 6, .inl fe)), (oA, .inl (cy 0, 6, .inl fo))]) := by
  refine q_wiz_of (cc := cX1_begin) (maxL := 6) (ret := (some .int)) (by decide) rfl (Nat.le_of_ble_eq_true rfl) ?_
  intro pg en s mi args below meth cd A hC hA hK hZ H locs hP hD hS ls hl
  obtain ⟨hx, hb, hr, hml, hown, hts, hlocks⟩ := hC
  have hl : lv_has ls 6 [(0, .ref k0), (1, .ref h), (2, .int (nI c)), (3, .int (nI 1)), (4, .int (nI dp))] := hl
  obtain ⟨hv0, hv1, hv2, hv3, hv4, hvc⟩ := id hv
  obtain ⟨⟨t1, hz1, hz2⟩, ⟨t2, hz3, hz4⟩⟩ := id hZ
  refine lv_aload_n hx hb dX1_begin_0 rfl (lv_at hl 1 rfl) ?_
  refine va_get (D := D) (ci := 2) (v := .ref kA) (C := RX2) (T := TX2) (N := 9) hx hb hts nb1_3_0 hown hK.1 hP 2 rfl rfl 5 (by decide) (hts _ mb1_3_1) (fun _ h9 => h9) rfl dX1_begin_1 ?_
  refine lv_iload_n hx hb dX1_begin_4 rfl (lv_at hl 2 rfl) ?_
  refine q_iald (j := c) (v := nI (ctK w c)) hx hb hK hP 3 rfl (by omega) (by decide) (ctIs_0 hw (by omega)) dX1_begin_5 ?_
  refine q_top (y := nI 3) (congrArg nI hkd) ?_
  refine lv_istore (lv' := [(5, .int (nI 3)), (0, .ref k0), (1, .ref h), (2, .int (nI c)), (3, .int (nI 1)), (4, .int (nI dp))]) hx hb dX1_begin_6 hl (by decide) rfl (fun ls hl => ?_)
  refine lv_aload_n hx hb dX1_begin_8 rfl (lv_at hl 1 rfl) ?_
  refine lv_aload_n hx hb dX1_begin_9 rfl (lv_at hl 2 rfl) ?_
  refine lv_iload_n hx hb dX1_begin_10 rfl (lv_at hl 3 rfl) ?_
  refine lv_iload_n hx hb dX1_begin_11 rfl (lv_at hl 4 rfl) ?_
  refine lv_if_ne (tgt := 24) hx hb dX1_begin_12 (by decide) (fun _ => ?_) (fun c9 => absurd c9 (by decide))
  refine va_gets (v := .ref t2) hx hb hz3 hS hown (hts _ mb1_3_2) (fun _ h9 => h9) dX1_begin_24 ?_
  refine lv_iload hx hb dX1_begin_27 (lv_at hl 0 rfl) ?_
  refine va_ti (v := .int (nI 22)) hx hb hz4 hS (vp_in_nI (by omega) (by decide)) (by rw [nI_clamp (by decide)]; rfl) dX1_begin_29 ?_
  refine lv_iload hx hb dX1_begin_30 (lv_at hl 5 rfl) ?_
  refine q_wizV (As := [.ref h, .int (nI c), .int (nI 22), .int (nI dp)]) (rest := []) (wr := []) ⟨hx, hb, hml, hown, hts⟩ (c_g22 l D cy k0 kt tf tn h kA tA eA oA w fk ft fe fo hw hv c hc trivial (by omega) dp (by omega)) (cwV 4 hts gX1_begin_X1_give rfl rfl rfl (by decide +kernel) ⟨Nat.le_of_ble_eq_true rfl, Nat.le_of_ble_eq_true rfl⟩) hP hD hS hA hK hZ [0, 1, 2, 3, 4, 5, 6] [] rfl rfl (by decide) rfl (by decide) (by decide) 0 rfl rfl rfl rfl hl.1 rfl (Nat.le_of_ble_eq_true rfl) dX1_begin_32 ⟨Nat.zero_le _, Nat.zero_le _⟩ (fun r1 u2 H locs hr1 hP hD hS => ?_)
  obtain ⟨rfl, rfl⟩ := hr1
  have hP : va_P D vwCl [(k0, .inr (1, [.ref kt, .int (nI (tn + 3))])), (kt, .inl (cy 0, 16, .inl (trP tf tn [22, 21, 20]))), (h, .inr (2, [.int (nI (w 0)), .int (nI (w 1)), .int (nI (w 2)), .int (nI (w 4)), .int (nI (w 3)), .ref kA, .ref tA, .ref eA, .ref oA])), (kA, .inl (cy 0, 6, .inl fk)), (tA, .inl (cy 0, 6, .inl ft)), (eA, .inl (cy 0, 6, .inl fe)), (oA, .inl (cy 0, 6, .inl fo))] H := hP
  have hD : va_D A [(k0, .inr (1, [.ref kt, .int (nI (tn + 3))])), (kt, .inl (cy 0, 16, .inl (trP tf tn [22, 21, 20]))), (h, .inr (2, [.int (nI (w 0)), .int (nI (w 1)), .int (nI (w 2)), .int (nI (w 4)), .int (nI (w 3)), .ref kA, .ref tA, .ref eA, .ref oA])), (kA, .inl (cy 0, 6, .inl fk)), (tA, .inl (cy 0, 6, .inl ft)), (eA, .inl (cy 0, 6, .inl fe)), (oA, .inl (cy 0, 6, .inl fo))] := hD
  have hP9 := hP
  have hD9 := hD
  exact q_wiret (v := nI (c + ctO w c) - nI 1000) hx hb hr hlocks dX1_begin_35 hP9 hD9 hS (⟨rfl, rfl⟩)
set_option maxHeartbeats 4000000 in
set_option maxRecDepth 100000 in
theorem c_g11_1 (l : Launch) (D : va_G) (cy : Nat → ClassId) (k0 kt : Nat) (tf : Nat → Int32) (tn : Nat) (h kA tA eA oA : Nat) (w : Nat → Nat) (fk ft fe fo : Nat → Int32) (hw : ctIs w fk ft fe fo) (hv : ctOk w) (c : Nat) (hc : c < w 4) (hkd : ctK w c = 1) (htn : tn + 4 ≤ 16) (dp : Nat) (hdp : dp + 4 ≤ 10) : q_WiZ l yX1_give wsX1_give 6 D cy [(k0, .inr (1, [.ref kt, .int (nI tn)])), (kt, .inl (cy 0, 16, .inl tf)), (h, .inr (2, [.int (nI (w 0)), .int (nI (w 1)), .int (nI (w 2)), .int (nI (w 4)), .int (nI (w 3)), .ref kA, .ref tA, .ref eA, .ref oA])), (kA, .inl (cy 0, 6, .inl fk)), (tA, .inl (cy 0, 6, .inl ft)), (eA, .inl (cy 0, 6, .inl fe)), (oA, .inl (cy 0, 6, .inl fo))] [.ref k0, .ref h, .int (nI c), .int (nI 11), .int (nI dp)] (fun r u => r = nI (ctT w c + (c + ctO w c)) ∧ u = [(k0, .inr (1, [.ref kt, .int (nI (tn + 4))])), (kt, .inl (cy 0, 16, .inl (trP tf tn [11, 10, 21, 20]))), (h, .inr (2, [.int (nI (w 0)), .int (nI (w 1)), .int (nI (w 2)), .int (nI (w 4)), .int (nI (w 3)), .ref kA, .ref tA, .ref eA, .ref oA])), (kA, .inl (cy 0, 6, .inl fk)), (tA, .inl (cy 0, 6, .inl ft)), (eA, .inl (cy 0, 6, .inl fe)), (oA, .inl (cy 0, 6, .inl fo))]) := by
  refine q_wiz_of (cc := cX1_give) (maxL := 6) (ret := (some .int)) (by decide) rfl (Nat.le_of_ble_eq_true rfl) ?_
  intro pg en s mi args below meth cd A hC hA hK hZ H locs hP hD hS ls hl
  obtain ⟨hx, hb, hr, hml, hown, hts, hlocks⟩ := hC
  have hl : lv_has ls 6 [(0, .ref k0), (1, .ref h), (2, .int (nI c)), (3, .int (nI 11)), (4, .int (nI dp))] := hl
  obtain ⟨hv0, hv1, hv2, hv3, hv4, hvc⟩ := id hv
  obtain ⟨hk1, hk5, ht1, ht2, he2, he4, ho1⟩ := hvc c hc
  refine lv_iload hx hb dX1_give_0 (lv_at hl 4 rfl) ?_
  refine lv_bipush (v := nI 10) hx hb dX1_give_2 (by decide) ?_
  refine q_icmp_le (tgt := 9) hx hb dX1_give_4 (by decide) (by omega) (by decide) (fun c1 => ?_) (fun c1 => absurd c1 (by omega))
  refine lv_aload_n hx hb dX1_give_9 rfl (lv_at hl 0 rfl) ?_
  refine lv_iload_n hx hb dX1_give_10 rfl (lv_at hl 3 rfl) ?_
  refine q_wvV (As := [.int (nI 11)]) (rest := []) (wr := [(h, .inr (2, [.int (nI (w 0)), .int (nI (w 1)), .int (nI (w 2)), .int (nI (w 4)), .int (nI (w 3)), .ref kA, .ref tA, .ref eA, .ref oA])), (kA, .inl (cy 0, 6, .inl fk)), (tA, .inl (cy 0, 6, .inl ft)), (eA, .inl (cy 0, 6, .inl fe)), (oA, .inl (cy 0, 6, .inl fo))]) ⟨hx, hb, hml, hown, hts⟩ (c_X1_leave l D cy k0 kt tf tn (by omega) 11) (cwV 1 hts gX1_give_X1_leave rfl rfl rfl (by decide +kernel) ⟨Nat.le_of_ble_eq_true rfl, Nat.le_of_ble_eq_true rfl⟩) hP hD hS hA hK [0, 1] [2, 3, 4, 5, 6] rfl rfl (by decide) rfl (by decide) (by decide) 0 rfl rfl rfl rfl hl.1 rfl (Nat.le_of_ble_eq_true rfl) dX1_give_11 ⟨Nat.zero_le _, Nat.zero_le _⟩ (fun u3 H locs hr2 hP hD hS => ?_)
  obtain rfl := hr2
  have hP : va_P D vwCl [(h, .inr (2, [.int (nI (w 0)), .int (nI (w 1)), .int (nI (w 2)), .int (nI (w 4)), .int (nI (w 3)), .ref kA, .ref tA, .ref eA, .ref oA])), (kA, .inl (cy 0, 6, .inl fk)), (tA, .inl (cy 0, 6, .inl ft)), (eA, .inl (cy 0, 6, .inl fe)), (oA, .inl (cy 0, 6, .inl fo)), (k0, .inr (1, [.ref kt, .int (nI (tn + 1))])), (kt, .inl (cy 0, 16, .inl (upd tf tn (nI 11))))] H := hP
  have hD : va_D A [(h, .inr (2, [.int (nI (w 0)), .int (nI (w 1)), .int (nI (w 2)), .int (nI (w 4)), .int (nI (w 3)), .ref kA, .ref tA, .ref eA, .ref oA])), (kA, .inl (cy 0, 6, .inl fk)), (tA, .inl (cy 0, 6, .inl ft)), (eA, .inl (cy 0, 6, .inl fe)), (oA, .inl (cy 0, 6, .inl fo)), (k0, .inr (1, [.ref kt, .int (nI (tn + 1))])), (kt, .inl (cy 0, 16, .inl (upd tf tn (nI 11))))] := hD
  refine lv_iload hx hb dX1_give_14 (lv_at hl 4 rfl) ?_
  refine lv_iconst (v := nI 1) hx hb dX1_give_16 (by decide) ?_
  refine lv_iadd hx hb dX1_give_17 ?_
  refine q_top (y := nI (dp + 1)) (nI_add _ _) ?_
  refine lv_istore (lv' := [(5, .int (nI (dp + 1))), (0, .ref k0), (1, .ref h), (2, .int (nI c)), (3, .int (nI 11)), (4, .int (nI dp))]) hx hb dX1_give_18 hl (by decide) rfl (fun ls hl => ?_)
  refine lv_iload_n hx hb dX1_give_20 rfl (lv_at hl 4 rfl) ?_
  refine lv_tableIn (off := 82) (tgt := 103) hx hb dX1_give_21 (by decide) (by decide) (by decide) (by decide) ?_
  refine lv_aload_n hx hb dX1_give_103 rfl (lv_at hl 1 rfl) ?_
  refine lv_aload_n hx hb dX1_give_104 rfl (lv_at hl 2 rfl) ?_
  refine lv_iload_n hx hb dX1_give_105 rfl (lv_at hl 3 rfl) ?_
  refine lv_bipush (v := nI 10) hx hb dX1_give_106 (by decide) ?_
  refine lv_iload hx hb dX1_give_108 (lv_at hl 0 rfl) ?_
  refine q_wizV (As := [.ref h, .int (nI c), .int (nI 10), .int (nI (dp + 1))]) (rest := []) (wr := []) ⟨hx, hb, hml, hown, hts⟩ (c_g10 l D cy k0 kt (upd tf tn (nI 11)) (tn + 1) h kA tA eA oA w fk ft fe fo hw hv c hc trivial (by omega) (dp + 1) (by omega)) (cwV 4 hts gX1_give_X1_give rfl rfl rfl (by decide +kernel) ⟨Nat.le_of_ble_eq_true rfl, Nat.le_of_ble_eq_true rfl⟩) hP hD hS hA hK hZ [5, 6, 0, 1, 2, 3, 4] [] rfl rfl (by decide) rfl (by decide) (by decide) 5 rfl rfl rfl rfl hl.1 rfl (Nat.le_of_ble_eq_true rfl) dX1_give_110 ⟨Nat.zero_le _, Nat.zero_le _⟩ (fun r4 u5 H locs hr4 hP hD hS => ?_)
  obtain ⟨rfl, rfl⟩ := hr4
  have hP : va_P D vwCl [(k0, .inr (1, [.ref kt, .int (nI ((tn + 1) + 1))])), (kt, .inl (cy 0, 16, .inl (trP (upd tf tn (nI 11)) (tn + 1) [10]))), (h, .inr (2, [.int (nI (w 0)), .int (nI (w 1)), .int (nI (w 2)), .int (nI (w 4)), .int (nI (w 3)), .ref kA, .ref tA, .ref eA, .ref oA])), (kA, .inl (cy 0, 6, .inl fk)), (tA, .inl (cy 0, 6, .inl ft)), (eA, .inl (cy 0, 6, .inl fe)), (oA, .inl (cy 0, 6, .inl fo))] H := hP
  have hD : va_D A [(k0, .inr (1, [.ref kt, .int (nI ((tn + 1) + 1))])), (kt, .inl (cy 0, 16, .inl (trP (upd tf tn (nI 11)) (tn + 1) [10]))), (h, .inr (2, [.int (nI (w 0)), .int (nI (w 1)), .int (nI (w 2)), .int (nI (w 4)), .int (nI (w 3)), .ref kA, .ref tA, .ref eA, .ref oA])), (kA, .inl (cy 0, 6, .inl fk)), (tA, .inl (cy 0, 6, .inl ft)), (eA, .inl (cy 0, 6, .inl fe)), (oA, .inl (cy 0, 6, .inl fo))] := hD
  refine lv_aload_n hx hb dX1_give_113 rfl (lv_at hl 1 rfl) ?_
  refine lv_aload_n hx hb dX1_give_114 rfl (lv_at hl 2 rfl) ?_
  refine lv_iload_n hx hb dX1_give_115 rfl (lv_at hl 3 rfl) ?_
  refine lv_iconst (v := nI 1) hx hb dX1_give_116 (by decide) ?_
  refine lv_iload hx hb dX1_give_117 (lv_at hl 0 rfl) ?_
  refine q_wizV (As := [.ref h, .int (nI c), .int (nI 1), .int (nI (dp + 1))]) (rest := [.int (nI (ctT w c))]) (wr := []) ⟨hx, hb, hml, hown, hts⟩ (c_b1_1 l D cy k0 kt (trP (upd tf tn (nI 11)) (tn + 1) [10]) ((tn + 1) + 1) h kA tA eA oA w fk ft fe fo hw hv c hc hkd (by omega) (dp + 1) (by omega)) (cwV 4 hts gX1_give_X1_begin rfl rfl rfl (by decide +kernel) ⟨Nat.le_of_ble_eq_true rfl, Nat.le_of_ble_eq_true rfl⟩) hP hD hS hA hK hZ [0, 1, 2, 3, 4, 5, 6] [] rfl rfl (by decide) rfl (by decide) (by decide) 0 rfl rfl rfl rfl hl.1 rfl (Nat.le_of_ble_eq_true rfl) dX1_give_119 ⟨Nat.zero_le _, Nat.zero_le _⟩ (fun r6 u7 H locs hr6 hP hD hS => ?_)
  obtain ⟨rfl, rfl⟩ := hr6
  have hP : va_P D vwCl [(k0, .inr (1, [.ref kt, .int (nI (((tn + 1) + 1) + 2))])), (kt, .inl (cy 0, 16, .inl (trP (trP (upd tf tn (nI 11)) (tn + 1) [10]) ((tn + 1) + 1) [21, 20]))), (h, .inr (2, [.int (nI (w 0)), .int (nI (w 1)), .int (nI (w 2)), .int (nI (w 4)), .int (nI (w 3)), .ref kA, .ref tA, .ref eA, .ref oA])), (kA, .inl (cy 0, 6, .inl fk)), (tA, .inl (cy 0, 6, .inl ft)), (eA, .inl (cy 0, 6, .inl fe)), (oA, .inl (cy 0, 6, .inl fo))] H := hP
  have hD : va_D A [(k0, .inr (1, [.ref kt, .int (nI (((tn + 1) + 1) + 2))])), (kt, .inl (cy 0, 16, .inl (trP (trP (upd tf tn (nI 11)) (tn + 1) [10]) ((tn + 1) + 1) [21, 20]))), (h, .inr (2, [.int (nI (w 0)), .int (nI (w 1)), .int (nI (w 2)), .int (nI (w 4)), .int (nI (w 3)), .ref kA, .ref tA, .ref eA, .ref oA])), (kA, .inl (cy 0, 6, .inl fk)), (tA, .inl (cy 0, 6, .inl ft)), (eA, .inl (cy 0, 6, .inl fe)), (oA, .inl (cy 0, 6, .inl fo))] := hD
  refine lv_iadd hx hb dX1_give_122 ?_
  refine q_top (y := nI ((ctT w c) + (c + ctO w c))) (nI_add _ _) ?_
  have hP9 := hP
  have hD9 := hD
  exact q_wiret (v := nI ((ctT w c) + (c + ctO w c))) hx hb hr hlocks dX1_give_123 hP9 hD9 hS (⟨rfl, rfl⟩)
set_option maxHeartbeats 4000000 in
set_option maxRecDepth 100000 in
theorem c_g11_2 (l : Launch) (D : va_G) (cy : Nat → ClassId) (k0 kt : Nat) (tf : Nat → Int32) (tn : Nat) (h kA tA eA oA : Nat) (w : Nat → Nat) (fk ft fe fo : Nat → Int32) (hw : ctIs w fk ft fe fo) (hv : ctOk w) (c : Nat) (hc : c < w 4) (hkd : ctK w c = 2) (htn : tn + 5 ≤ 16) (dp : Nat) (hdp : dp + 4 ≤ 10) : q_WiZ l yX1_give wsX1_give 6 D cy [(k0, .inr (1, [.ref kt, .int (nI tn)])), (kt, .inl (cy 0, 16, .inl tf)), (h, .inr (2, [.int (nI (w 0)), .int (nI (w 1)), .int (nI (w 2)), .int (nI (w 4)), .int (nI (w 3)), .ref kA, .ref tA, .ref eA, .ref oA])), (kA, .inl (cy 0, 6, .inl fk)), (tA, .inl (cy 0, 6, .inl ft)), (eA, .inl (cy 0, 6, .inl fe)), (oA, .inl (cy 0, 6, .inl fo))] [.ref k0, .ref h, .int (nI c), .int (nI 11), .int (nI dp)] (fun r u => r = nI (ctT w c + (2 * (c + ctO w c))) ∧ u = [(k0, .inr (1, [.ref kt, .int (nI (tn + 5))])), (kt, .inl (cy 0, 16, .inl (trP tf tn [11, 10, 24, 21, 20]))), (h, .inr (2, [.int (nI (w 0)), .int (nI (w 1)), .int (nI (w 2)), .int (nI (w 4)), .int (nI (w 3)), .ref kA, .ref tA, .ref eA, .ref oA])), (kA, .inl (cy 0, 6, .inl fk)), (tA, .inl (cy 0, 6, .inl ft)), (eA, .inl (cy 0, 6, .inl fe)), (oA, .inl (cy 0, 6, .inl fo))]) := by
  refine q_wiz_of (cc := cX1_give) (maxL := 6) (ret := (some .int)) (by decide) rfl (Nat.le_of_ble_eq_true rfl) ?_
  intro pg en s mi args below meth cd A hC hA hK hZ H locs hP hD hS ls hl
  obtain ⟨hx, hb, hr, hml, hown, hts, hlocks⟩ := hC
  have hl : lv_has ls 6 [(0, .ref k0), (1, .ref h), (2, .int (nI c)), (3, .int (nI 11)), (4, .int (nI dp))] := hl
  obtain ⟨hv0, hv1, hv2, hv3, hv4, hvc⟩ := id hv
  obtain ⟨hk1, hk5, ht1, ht2, he2, he4, ho1⟩ := hvc c hc
  refine lv_iload hx hb dX1_give_0 (lv_at hl 4 rfl) ?_
  refine lv_bipush (v := nI 10) hx hb dX1_give_2 (by decide) ?_
  refine q_icmp_le (tgt := 9) hx hb dX1_give_4 (by decide) (by omega) (by decide) (fun c1 => ?_) (fun c1 => absurd c1 (by omega))
  refine lv_aload_n hx hb dX1_give_9 rfl (lv_at hl 0 rfl) ?_
  refine lv_iload_n hx hb dX1_give_10 rfl (lv_at hl 3 rfl) ?_
  refine q_wvV (As := [.int (nI 11)]) (rest := []) (wr := [(h, .inr (2, [.int (nI (w 0)), .int (nI (w 1)), .int (nI (w 2)), .int (nI (w 4)), .int (nI (w 3)), .ref kA, .ref tA, .ref eA, .ref oA])), (kA, .inl (cy 0, 6, .inl fk)), (tA, .inl (cy 0, 6, .inl ft)), (eA, .inl (cy 0, 6, .inl fe)), (oA, .inl (cy 0, 6, .inl fo))]) ⟨hx, hb, hml, hown, hts⟩ (c_X1_leave l D cy k0 kt tf tn (by omega) 11) (cwV 1 hts gX1_give_X1_leave rfl rfl rfl (by decide +kernel) ⟨Nat.le_of_ble_eq_true rfl, Nat.le_of_ble_eq_true rfl⟩) hP hD hS hA hK [0, 1] [2, 3, 4, 5, 6] rfl rfl (by decide) rfl (by decide) (by decide) 0 rfl rfl rfl rfl hl.1 rfl (Nat.le_of_ble_eq_true rfl) dX1_give_11 ⟨Nat.zero_le _, Nat.zero_le _⟩ (fun u3 H locs hr2 hP hD hS => ?_)
  obtain rfl := hr2
  have hP : va_P D vwCl [(h, .inr (2, [.int (nI (w 0)), .int (nI (w 1)), .int (nI (w 2)), .int (nI (w 4)), .int (nI (w 3)), .ref kA, .ref tA, .ref eA, .ref oA])), (kA, .inl (cy 0, 6, .inl fk)), (tA, .inl (cy 0, 6, .inl ft)), (eA, .inl (cy 0, 6, .inl fe)), (oA, .inl (cy 0, 6, .inl fo)), (k0, .inr (1, [.ref kt, .int (nI (tn + 1))])), (kt, .inl (cy 0, 16, .inl (upd tf tn (nI 11))))] H := hP
  have hD : va_D A [(h, .inr (2, [.int (nI (w 0)), .int (nI (w 1)), .int (nI (w 2)), .int (nI (w 4)), .int (nI (w 3)), .ref kA, .ref tA, .ref eA, .ref oA])), (kA, .inl (cy 0, 6, .inl fk)), (tA, .inl (cy 0, 6, .inl ft)), (eA, .inl (cy 0, 6, .inl fe)), (oA, .inl (cy 0, 6, .inl fo)), (k0, .inr (1, [.ref kt, .int (nI (tn + 1))])), (kt, .inl (cy 0, 16, .inl (upd tf tn (nI 11))))] := hD
  refine lv_iload hx hb dX1_give_14 (lv_at hl 4 rfl) ?_
  refine lv_iconst (v := nI 1) hx hb dX1_give_16 (by decide) ?_
  refine lv_iadd hx hb dX1_give_17 ?_
  refine q_top (y := nI (dp + 1)) (nI_add _ _) ?_
  refine lv_istore (lv' := [(5, .int (nI (dp + 1))), (0, .ref k0), (1, .ref h), (2, .int (nI c)), (3, .int (nI 11)), (4, .int (nI dp))]) hx hb dX1_give_18 hl (by decide) rfl (fun ls hl => ?_)
  refine lv_iload_n hx hb dX1_give_20 rfl (lv_at hl 4 rfl) ?_
  refine lv_tableIn (off := 82) (tgt := 103) hx hb dX1_give_21 (by decide) (by decide) (by decide) (by decide) ?_
  refine lv_aload_n hx hb dX1_give_103 rfl (lv_at hl 1 rfl) ?_
  refine lv_aload_n hx hb dX1_give_104 rfl (lv_at hl 2 rfl) ?_
  refine lv_iload_n hx hb dX1_give_105 rfl (lv_at hl 3 rfl) ?_
  refine lv_bipush (v := nI 10) hx hb dX1_give_106 (by decide) ?_
  refine lv_iload hx hb dX1_give_108 (lv_at hl 0 rfl) ?_
  refine q_wizV (As := [.ref h, .int (nI c), .int (nI 10), .int (nI (dp + 1))]) (rest := []) (wr := []) ⟨hx, hb, hml, hown, hts⟩ (c_g10 l D cy k0 kt (upd tf tn (nI 11)) (tn + 1) h kA tA eA oA w fk ft fe fo hw hv c hc trivial (by omega) (dp + 1) (by omega)) (cwV 4 hts gX1_give_X1_give rfl rfl rfl (by decide +kernel) ⟨Nat.le_of_ble_eq_true rfl, Nat.le_of_ble_eq_true rfl⟩) hP hD hS hA hK hZ [5, 6, 0, 1, 2, 3, 4] [] rfl rfl (by decide) rfl (by decide) (by decide) 5 rfl rfl rfl rfl hl.1 rfl (Nat.le_of_ble_eq_true rfl) dX1_give_110 ⟨Nat.zero_le _, Nat.zero_le _⟩ (fun r4 u5 H locs hr4 hP hD hS => ?_)
  obtain ⟨rfl, rfl⟩ := hr4
  have hP : va_P D vwCl [(k0, .inr (1, [.ref kt, .int (nI ((tn + 1) + 1))])), (kt, .inl (cy 0, 16, .inl (trP (upd tf tn (nI 11)) (tn + 1) [10]))), (h, .inr (2, [.int (nI (w 0)), .int (nI (w 1)), .int (nI (w 2)), .int (nI (w 4)), .int (nI (w 3)), .ref kA, .ref tA, .ref eA, .ref oA])), (kA, .inl (cy 0, 6, .inl fk)), (tA, .inl (cy 0, 6, .inl ft)), (eA, .inl (cy 0, 6, .inl fe)), (oA, .inl (cy 0, 6, .inl fo))] H := hP
  have hD : va_D A [(k0, .inr (1, [.ref kt, .int (nI ((tn + 1) + 1))])), (kt, .inl (cy 0, 16, .inl (trP (upd tf tn (nI 11)) (tn + 1) [10]))), (h, .inr (2, [.int (nI (w 0)), .int (nI (w 1)), .int (nI (w 2)), .int (nI (w 4)), .int (nI (w 3)), .ref kA, .ref tA, .ref eA, .ref oA])), (kA, .inl (cy 0, 6, .inl fk)), (tA, .inl (cy 0, 6, .inl ft)), (eA, .inl (cy 0, 6, .inl fe)), (oA, .inl (cy 0, 6, .inl fo))] := hD
  refine lv_aload_n hx hb dX1_give_113 rfl (lv_at hl 1 rfl) ?_
  refine lv_aload_n hx hb dX1_give_114 rfl (lv_at hl 2 rfl) ?_
  refine lv_iload_n hx hb dX1_give_115 rfl (lv_at hl 3 rfl) ?_
  refine lv_iconst (v := nI 1) hx hb dX1_give_116 (by decide) ?_
  refine lv_iload hx hb dX1_give_117 (lv_at hl 0 rfl) ?_
  refine q_wizV (As := [.ref h, .int (nI c), .int (nI 1), .int (nI (dp + 1))]) (rest := [.int (nI (ctT w c))]) (wr := []) ⟨hx, hb, hml, hown, hts⟩ (c_b1_2 l D cy k0 kt (trP (upd tf tn (nI 11)) (tn + 1) [10]) ((tn + 1) + 1) h kA tA eA oA w fk ft fe fo hw hv c hc hkd (by omega) (dp + 1) (by omega)) (cwV 4 hts gX1_give_X1_begin rfl rfl rfl (by decide +kernel) ⟨Nat.le_of_ble_eq_true rfl, Nat.le_of_ble_eq_true rfl⟩) hP hD hS hA hK hZ [0, 1, 2, 3, 4, 5, 6] [] rfl rfl (by decide) rfl (by decide) (by decide) 0 rfl rfl rfl rfl hl.1 rfl (Nat.le_of_ble_eq_true rfl) dX1_give_119 ⟨Nat.zero_le _, Nat.zero_le _⟩ (fun r6 u7 H locs hr6 hP hD hS => ?_)
  obtain ⟨rfl, rfl⟩ := hr6
  have hP : va_P D vwCl [(k0, .inr (1, [.ref kt, .int (nI (((tn + 1) + 1) + 3))])), (kt, .inl (cy 0, 16, .inl (trP (trP (upd tf tn (nI 11)) (tn + 1) [10]) ((tn + 1) + 1) [24, 21, 20]))), (h, .inr (2, [.int (nI (w 0)), .int (nI (w 1)), .int (nI (w 2)), .int (nI (w 4)), .int (nI (w 3)), .ref kA, .ref tA, .ref eA, .ref oA])), (kA, .inl (cy 0, 6, .inl fk)), (tA, .inl (cy 0, 6, .inl ft)), (eA, .inl (cy 0, 6, .inl fe)), (oA, .inl (cy 0, 6, .inl fo))] H := hP
  have hD : va_D A [(k0, .inr (1, [.ref kt, .int (nI (((tn + 1) + 1) + 3))])), (kt, .inl (cy 0, 16, .inl (trP (trP (upd tf tn (nI 11)) (tn + 1) [10]) ((tn + 1) + 1) [24, 21, 20]))), (h, .inr (2, [.int (nI (w 0)), .int (nI (w 1)), .int (nI (w 2)), .int (nI (w 4)), .int (nI (w 3)), .ref kA, .ref tA, .ref eA, .ref oA])), (kA, .inl (cy 0, 6, .inl fk)), (tA, .inl (cy 0, 6, .inl ft)), (eA, .inl (cy 0, 6, .inl fe)), (oA, .inl (cy 0, 6, .inl fo))] := hD
  refine lv_iadd hx hb dX1_give_122 ?_
  refine q_top (y := nI ((ctT w c) + (2 * (c + ctO w c)))) (nI_add _ _) ?_
  have hP9 := hP
  have hD9 := hD
  exact q_wiret (v := nI ((ctT w c) + (2 * (c + ctO w c)))) hx hb hr hlocks dX1_give_123 hP9 hD9 hS (⟨rfl, rfl⟩)
set_option maxHeartbeats 4000000 in
set_option maxRecDepth 100000 in
theorem c_g11_3 (l : Launch) (D : va_G) (cy : Nat → ClassId) (k0 kt : Nat) (tf : Nat → Int32) (tn : Nat) (h kA tA eA oA : Nat) (w : Nat → Nat) (fk ft fe fo : Nat → Int32) (hw : ctIs w fk ft fe fo) (hv : ctOk w) (c : Nat) (hc : c < w 4) (hkd : ctK w c = 3) (htn : tn + 5 ≤ 16) (dp : Nat) (hdp : dp + 4 ≤ 10) : q_WiZ l yX1_give wsX1_give 6 D cy [(k0, .inr (1, [.ref kt, .int (nI tn)])), (kt, .inl (cy 0, 16, .inl tf)), (h, .inr (2, [.int (nI (w 0)), .int (nI (w 1)), .int (nI (w 2)), .int (nI (w 4)), .int (nI (w 3)), .ref kA, .ref tA, .ref eA, .ref oA])), (kA, .inl (cy 0, 6, .inl fk)), (tA, .inl (cy 0, 6, .inl ft)), (eA, .inl (cy 0, 6, .inl fe)), (oA, .inl (cy 0, 6, .inl fo))] [.ref k0, .ref h, .int (nI c), .int (nI 11), .int (nI dp)] (fun r u => r = (nI (ctT w c)) + (nI (c + ctO w c) - nI 1000) ∧ u = [(k0, .inr (1, [.ref kt, .int (nI (tn + 5))])), (kt, .inl (cy 0, 16, .inl (trP tf tn [11, 10, 22, 21, 20]))), (h, .inr (2, [.int (nI (w 0)), .int (nI (w 1)), .int (nI (w 2)), .int (nI (w 4)), .int (nI (w 3)), .ref kA, .ref tA, .ref eA, .ref oA])), (kA, .inl (cy 0, 6, .inl fk)), (tA, .inl (cy 0, 6, .inl ft)), (eA, .inl (cy 0, 6, .inl fe)), (oA, .inl (cy 0, 6, .inl fo))]) := by
  refine q_wiz_of (cc := cX1_give) (maxL := 6) (ret := (some .int)) (by decide) rfl (Nat.le_of_ble_eq_true rfl) ?_
  intro pg en s mi args below meth cd A hC hA hK hZ H locs hP hD hS ls hl
  obtain ⟨hx, hb, hr, hml, hown, hts, hlocks⟩ := hC
  have hl : lv_has ls 6 [(0, .ref k0), (1, .ref h), (2, .int (nI c)), (3, .int (nI 11)), (4, .int (nI dp))] := hl
  obtain ⟨hv0, hv1, hv2, hv3, hv4, hvc⟩ := id hv
  obtain ⟨hk1, hk5, ht1, ht2, he2, he4, ho1⟩ := hvc c hc
  refine lv_iload hx hb dX1_give_0 (lv_at hl 4 rfl) ?_
  refine lv_bipush (v := nI 10) hx hb dX1_give_2 (by decide) ?_
  refine q_icmp_le (tgt := 9) hx hb dX1_give_4 (by decide) (by omega) (by decide) (fun c1 => ?_) (fun c1 => absurd c1 (by omega))
  refine lv_aload_n hx hb dX1_give_9 rfl (lv_at hl 0 rfl) ?_
  refine lv_iload_n hx hb dX1_give_10 rfl (lv_at hl 3 rfl) ?_
  refine q_wvV (As := [.int (nI 11)]) (rest := []) (wr := [(h, .inr (2, [.int (nI (w 0)), .int (nI (w 1)), .int (nI (w 2)), .int (nI (w 4)), .int (nI (w 3)), .ref kA, .ref tA, .ref eA, .ref oA])), (kA, .inl (cy 0, 6, .inl fk)), (tA, .inl (cy 0, 6, .inl ft)), (eA, .inl (cy 0, 6, .inl fe)), (oA, .inl (cy 0, 6, .inl fo))]) ⟨hx, hb, hml, hown, hts⟩ (c_X1_leave l D cy k0 kt tf tn (by omega) 11) (cwV 1 hts gX1_give_X1_leave rfl rfl rfl (by decide +kernel) ⟨Nat.le_of_ble_eq_true rfl, Nat.le_of_ble_eq_true rfl⟩) hP hD hS hA hK [0, 1] [2, 3, 4, 5, 6] rfl rfl (by decide) rfl (by decide) (by decide) 0 rfl rfl rfl rfl hl.1 rfl (Nat.le_of_ble_eq_true rfl) dX1_give_11 ⟨Nat.zero_le _, Nat.zero_le _⟩ (fun u3 H locs hr2 hP hD hS => ?_)
  obtain rfl := hr2
  have hP : va_P D vwCl [(h, .inr (2, [.int (nI (w 0)), .int (nI (w 1)), .int (nI (w 2)), .int (nI (w 4)), .int (nI (w 3)), .ref kA, .ref tA, .ref eA, .ref oA])), (kA, .inl (cy 0, 6, .inl fk)), (tA, .inl (cy 0, 6, .inl ft)), (eA, .inl (cy 0, 6, .inl fe)), (oA, .inl (cy 0, 6, .inl fo)), (k0, .inr (1, [.ref kt, .int (nI (tn + 1))])), (kt, .inl (cy 0, 16, .inl (upd tf tn (nI 11))))] H := hP
  have hD : va_D A [(h, .inr (2, [.int (nI (w 0)), .int (nI (w 1)), .int (nI (w 2)), .int (nI (w 4)), .int (nI (w 3)), .ref kA, .ref tA, .ref eA, .ref oA])), (kA, .inl (cy 0, 6, .inl fk)), (tA, .inl (cy 0, 6, .inl ft)), (eA, .inl (cy 0, 6, .inl fe)), (oA, .inl (cy 0, 6, .inl fo)), (k0, .inr (1, [.ref kt, .int (nI (tn + 1))])), (kt, .inl (cy 0, 16, .inl (upd tf tn (nI 11))))] := hD
  refine lv_iload hx hb dX1_give_14 (lv_at hl 4 rfl) ?_
  refine lv_iconst (v := nI 1) hx hb dX1_give_16 (by decide) ?_
  refine lv_iadd hx hb dX1_give_17 ?_
  refine q_top (y := nI (dp + 1)) (nI_add _ _) ?_
  refine lv_istore (lv' := [(5, .int (nI (dp + 1))), (0, .ref k0), (1, .ref h), (2, .int (nI c)), (3, .int (nI 11)), (4, .int (nI dp))]) hx hb dX1_give_18 hl (by decide) rfl (fun ls hl => ?_)
  refine lv_iload_n hx hb dX1_give_20 rfl (lv_at hl 4 rfl) ?_
  refine lv_tableIn (off := 82) (tgt := 103) hx hb dX1_give_21 (by decide) (by decide) (by decide) (by decide) ?_
  refine lv_aload_n hx hb dX1_give_103 rfl (lv_at hl 1 rfl) ?_
  refine lv_aload_n hx hb dX1_give_104 rfl (lv_at hl 2 rfl) ?_
  refine lv_iload_n hx hb dX1_give_105 rfl (lv_at hl 3 rfl) ?_
  refine lv_bipush (v := nI 10) hx hb dX1_give_106 (by decide) ?_
  refine lv_iload hx hb dX1_give_108 (lv_at hl 0 rfl) ?_
  refine q_wizV (As := [.ref h, .int (nI c), .int (nI 10), .int (nI (dp + 1))]) (rest := []) (wr := []) ⟨hx, hb, hml, hown, hts⟩ (c_g10 l D cy k0 kt (upd tf tn (nI 11)) (tn + 1) h kA tA eA oA w fk ft fe fo hw hv c hc trivial (by omega) (dp + 1) (by omega)) (cwV 4 hts gX1_give_X1_give rfl rfl rfl (by decide +kernel) ⟨Nat.le_of_ble_eq_true rfl, Nat.le_of_ble_eq_true rfl⟩) hP hD hS hA hK hZ [5, 6, 0, 1, 2, 3, 4] [] rfl rfl (by decide) rfl (by decide) (by decide) 5 rfl rfl rfl rfl hl.1 rfl (Nat.le_of_ble_eq_true rfl) dX1_give_110 ⟨Nat.zero_le _, Nat.zero_le _⟩ (fun r4 u5 H locs hr4 hP hD hS => ?_)
  obtain ⟨rfl, rfl⟩ := hr4
  have hP : va_P D vwCl [(k0, .inr (1, [.ref kt, .int (nI ((tn + 1) + 1))])), (kt, .inl (cy 0, 16, .inl (trP (upd tf tn (nI 11)) (tn + 1) [10]))), (h, .inr (2, [.int (nI (w 0)), .int (nI (w 1)), .int (nI (w 2)), .int (nI (w 4)), .int (nI (w 3)), .ref kA, .ref tA, .ref eA, .ref oA])), (kA, .inl (cy 0, 6, .inl fk)), (tA, .inl (cy 0, 6, .inl ft)), (eA, .inl (cy 0, 6, .inl fe)), (oA, .inl (cy 0, 6, .inl fo))] H := hP
  have hD : va_D A [(k0, .inr (1, [.ref kt, .int (nI ((tn + 1) + 1))])), (kt, .inl (cy 0, 16, .inl (trP (upd tf tn (nI 11)) (tn + 1) [10]))), (h, .inr (2, [.int (nI (w 0)), .int (nI (w 1)), .int (nI (w 2)), .int (nI (w 4)), .int (nI (w 3)), .ref kA, .ref tA, .ref eA, .ref oA])), (kA, .inl (cy 0, 6, .inl fk)), (tA, .inl (cy 0, 6, .inl ft)), (eA, .inl (cy 0, 6, .inl fe)), (oA, .inl (cy 0, 6, .inl fo))] := hD
  refine lv_aload_n hx hb dX1_give_113 rfl (lv_at hl 1 rfl) ?_
  refine lv_aload_n hx hb dX1_give_114 rfl (lv_at hl 2 rfl) ?_
  refine lv_iload_n hx hb dX1_give_115 rfl (lv_at hl 3 rfl) ?_
  refine lv_iconst (v := nI 1) hx hb dX1_give_116 (by decide) ?_
  refine lv_iload hx hb dX1_give_117 (lv_at hl 0 rfl) ?_
  refine q_wizV (As := [.ref h, .int (nI c), .int (nI 1), .int (nI (dp + 1))]) (rest := [.int (nI (ctT w c))]) (wr := []) ⟨hx, hb, hml, hown, hts⟩ (c_b1_3 l D cy k0 kt (trP (upd tf tn (nI 11)) (tn + 1) [10]) ((tn + 1) + 1) h kA tA eA oA w fk ft fe fo hw hv c hc hkd (by omega) (dp + 1) (by omega)) (cwV 4 hts gX1_give_X1_begin rfl rfl rfl (by decide +kernel) ⟨Nat.le_of_ble_eq_true rfl, Nat.le_of_ble_eq_true rfl⟩) hP hD hS hA hK hZ [0, 1, 2, 3, 4, 5, 6] [] rfl rfl (by decide) rfl (by decide) (by decide) 0 rfl rfl rfl rfl hl.1 rfl (Nat.le_of_ble_eq_true rfl) dX1_give_119 ⟨Nat.zero_le _, Nat.zero_le _⟩ (fun r6 u7 H locs hr6 hP hD hS => ?_)
  obtain ⟨rfl, rfl⟩ := hr6
  have hP : va_P D vwCl [(k0, .inr (1, [.ref kt, .int (nI (((tn + 1) + 1) + 3))])), (kt, .inl (cy 0, 16, .inl (trP (trP (upd tf tn (nI 11)) (tn + 1) [10]) ((tn + 1) + 1) [22, 21, 20]))), (h, .inr (2, [.int (nI (w 0)), .int (nI (w 1)), .int (nI (w 2)), .int (nI (w 4)), .int (nI (w 3)), .ref kA, .ref tA, .ref eA, .ref oA])), (kA, .inl (cy 0, 6, .inl fk)), (tA, .inl (cy 0, 6, .inl ft)), (eA, .inl (cy 0, 6, .inl fe)), (oA, .inl (cy 0, 6, .inl fo))] H := hP
  have hD : va_D A [(k0, .inr (1, [.ref kt, .int (nI (((tn + 1) + 1) + 3))])), (kt, .inl (cy 0, 16, .inl (trP (trP (upd tf tn (nI 11)) (tn + 1) [10]) ((tn + 1) + 1) [22, 21, 20]))), (h, .inr (2, [.int (nI (w 0)), .int (nI (w 1)), .int (nI (w 2)), .int (nI (w 4)), .int (nI (w 3)), .ref kA, .ref tA, .ref eA, .ref oA])), (kA, .inl (cy 0, 6, .inl fk)), (tA, .inl (cy 0, 6, .inl ft)), (eA, .inl (cy 0, 6, .inl fe)), (oA, .inl (cy 0, 6, .inl fo))] := hD
  refine lv_iadd hx hb dX1_give_122 ?_
  have hP9 := hP
  have hD9 := hD
  exact q_wiret (v := (nI (ctT w c)) + (nI (c + ctO w c) - nI 1000)) hx hb hr hlocks dX1_give_123 hP9 hD9 hS (⟨rfl, rfl⟩)
set_option maxHeartbeats 4000000 in
set_option maxRecDepth 100000 in
theorem c_g12 (l : Launch) (D : va_G) (cy : Nat → ClassId) (k0 kt : Nat) (tf : Nat → Int32) (tn : Nat) (h kA tA eA oA : Nat) (w : Nat → Nat) (fk ft fe fo : Nat → Int32) (hw : ctIs w fk ft fe fo) (hv : ctOk w) (c : Nat) (hc : c < w 4) (hkd : ctK w c = 2) (htn : tn + 6 ≤ 16) (dp : Nat) (hdp : dp + 5 ≤ 10) : q_WiZ l yX1_give wsX1_give 7 D cy [(k0, .inr (1, [.ref kt, .int (nI tn)])), (kt, .inl (cy 0, 16, .inl tf)), (h, .inr (2, [.int (nI (w 0)), .int (nI (w 1)), .int (nI (w 2)), .int (nI (w 4)), .int (nI (w 3)), .ref kA, .ref tA, .ref eA, .ref oA])), (kA, .inl (cy 0, 6, .inl fk)), (tA, .inl (cy 0, 6, .inl ft)), (eA, .inl (cy 0, 6, .inl fe)), (oA, .inl (cy 0, 6, .inl fo))] [.ref k0, .ref h, .int (nI c), .int (nI 12), .int (nI dp)] (fun r u => r = -(nI (ctT w c + (2 * (c + ctO w c)))) ∧ u = [(k0, .inr (1, [.ref kt, .int (nI (tn + 6))])), (kt, .inl (cy 0, 16, .inl (trP tf tn [12, 11, 10, 24, 21, 20]))), (h, .inr (2, [.int (nI (w 0)), .int (nI (w 1)), .int (nI (w 2)), .int (nI (w 4)), .int (nI (w 3)), .ref kA, .ref tA, .ref eA, .ref oA])), (kA, .inl (cy 0, 6, .inl fk)), (tA, .inl (cy 0, 6, .inl ft)), (eA, .inl (cy 0, 6, .inl fe)), (oA, .inl (cy 0, 6, .inl fo))]) := by
  refine q_wiz_of (cc := cX1_give) (maxL := 6) (ret := (some .int)) (by decide) rfl (Nat.le_of_ble_eq_true rfl) ?_
  intro pg en s mi args below meth cd A hC hA hK hZ H locs hP hD hS ls hl
  obtain ⟨hx, hb, hr, hml, hown, hts, hlocks⟩ := hC
  have hl : lv_has ls 6 [(0, .ref k0), (1, .ref h), (2, .int (nI c)), (3, .int (nI 12)), (4, .int (nI dp))] := hl
  obtain ⟨hv0, hv1, hv2, hv3, hv4, hvc⟩ := id hv
  obtain ⟨hk1, hk5, ht1, ht2, he2, he4, ho1⟩ := hvc c hc
  refine lv_iload hx hb dX1_give_0 (lv_at hl 4 rfl) ?_
  refine lv_bipush (v := nI 10) hx hb dX1_give_2 (by decide) ?_
  refine q_icmp_le (tgt := 9) hx hb dX1_give_4 (by decide) (by omega) (by decide) (fun c1 => ?_) (fun c1 => absurd c1 (by omega))
  refine lv_aload_n hx hb dX1_give_9 rfl (lv_at hl 0 rfl) ?_
  refine lv_iload_n hx hb dX1_give_10 rfl (lv_at hl 3 rfl) ?_
  refine q_wvV (As := [.int (nI 12)]) (rest := []) (wr := [(h, .inr (2, [.int (nI (w 0)), .int (nI (w 1)), .int (nI (w 2)), .int (nI (w 4)), .int (nI (w 3)), .ref kA, .ref tA, .ref eA, .ref oA])), (kA, .inl (cy 0, 6, .inl fk)), (tA, .inl (cy 0, 6, .inl ft)), (eA, .inl (cy 0, 6, .inl fe)), (oA, .inl (cy 0, 6, .inl fo))]) ⟨hx, hb, hml, hown, hts⟩ (c_X1_leave l D cy k0 kt tf tn (by omega) 12) (cwV 1 hts gX1_give_X1_leave rfl rfl rfl (by decide +kernel) ⟨Nat.le_of_ble_eq_true rfl, Nat.le_of_ble_eq_true rfl⟩) hP hD hS hA hK [0, 1] [2, 3, 4, 5, 6] rfl rfl (by decide) rfl (by decide) (by decide) 0 rfl rfl rfl rfl hl.1 rfl (Nat.le_of_ble_eq_true rfl) dX1_give_11 ⟨Nat.zero_le _, Nat.zero_le _⟩ (fun u3 H locs hr2 hP hD hS => ?_)
  obtain rfl := hr2
  have hP : va_P D vwCl [(h, .inr (2, [.int (nI (w 0)), .int (nI (w 1)), .int (nI (w 2)), .int (nI (w 4)), .int (nI (w 3)), .ref kA, .ref tA, .ref eA, .ref oA])), (kA, .inl (cy 0, 6, .inl fk)), (tA, .inl (cy 0, 6, .inl ft)), (eA, .inl (cy 0, 6, .inl fe)), (oA, .inl (cy 0, 6, .inl fo)), (k0, .inr (1, [.ref kt, .int (nI (tn + 1))])), (kt, .inl (cy 0, 16, .inl (upd tf tn (nI 12))))] H := hP
  have hD : va_D A [(h, .inr (2, [.int (nI (w 0)), .int (nI (w 1)), .int (nI (w 2)), .int (nI (w 4)), .int (nI (w 3)), .ref kA, .ref tA, .ref eA, .ref oA])), (kA, .inl (cy 0, 6, .inl fk)), (tA, .inl (cy 0, 6, .inl ft)), (eA, .inl (cy 0, 6, .inl fe)), (oA, .inl (cy 0, 6, .inl fo)), (k0, .inr (1, [.ref kt, .int (nI (tn + 1))])), (kt, .inl (cy 0, 16, .inl (upd tf tn (nI 12))))] := hD
  refine lv_iload hx hb dX1_give_14 (lv_at hl 4 rfl) ?_
  refine lv_iconst (v := nI 1) hx hb dX1_give_16 (by decide) ?_
  refine lv_iadd hx hb dX1_give_17 ?_
  refine q_top (y := nI (dp + 1)) (nI_add _ _) ?_
  refine lv_istore (lv' := [(5, .int (nI (dp + 1))), (0, .ref k0), (1, .ref h), (2, .int (nI c)), (3, .int (nI 12)), (4, .int (nI dp))]) hx hb dX1_give_18 hl (by decide) rfl (fun ls hl => ?_)
  refine lv_iload_n hx hb dX1_give_20 rfl (lv_at hl 4 rfl) ?_
  refine lv_tableIn (off := 103) (tgt := 124) hx hb dX1_give_21 (by decide) (by decide) (by decide) (by decide) ?_
  refine lv_aload_n hx hb dX1_give_124 rfl (lv_at hl 1 rfl) ?_
  refine lv_aload_n hx hb dX1_give_125 rfl (lv_at hl 2 rfl) ?_
  refine lv_iload_n hx hb dX1_give_126 rfl (lv_at hl 3 rfl) ?_
  refine lv_bipush (v := nI 11) hx hb dX1_give_127 (by decide) ?_
  refine lv_iload hx hb dX1_give_129 (lv_at hl 0 rfl) ?_
  refine q_wizV (As := [.ref h, .int (nI c), .int (nI 11), .int (nI (dp + 1))]) (rest := []) (wr := []) ⟨hx, hb, hml, hown, hts⟩ (c_g11_2 l D cy k0 kt (upd tf tn (nI 12)) (tn + 1) h kA tA eA oA w fk ft fe fo hw hv c hc hkd (by omega) (dp + 1) (by omega)) (cwV 4 hts gX1_give_X1_give rfl rfl rfl (by decide +kernel) ⟨Nat.le_of_ble_eq_true rfl, Nat.le_of_ble_eq_true rfl⟩) hP hD hS hA hK hZ [5, 6, 0, 1, 2, 3, 4] [] rfl rfl (by decide) rfl (by decide) (by decide) 5 rfl rfl rfl rfl hl.1 rfl (Nat.le_of_ble_eq_true rfl) dX1_give_131 ⟨Nat.zero_le _, Nat.zero_le _⟩ (fun r4 u5 H locs hr4 hP hD hS => ?_)
  obtain ⟨rfl, rfl⟩ := hr4
  have hP : va_P D vwCl [(k0, .inr (1, [.ref kt, .int (nI ((tn + 1) + 5))])), (kt, .inl (cy 0, 16, .inl (trP (upd tf tn (nI 12)) (tn + 1) [11, 10, 24, 21, 20]))), (h, .inr (2, [.int (nI (w 0)), .int (nI (w 1)), .int (nI (w 2)), .int (nI (w 4)), .int (nI (w 3)), .ref kA, .ref tA, .ref eA, .ref oA])), (kA, .inl (cy 0, 6, .inl fk)), (tA, .inl (cy 0, 6, .inl ft)), (eA, .inl (cy 0, 6, .inl fe)), (oA, .inl (cy 0, 6, .inl fo))] H := hP
  have hD : va_D A [(k0, .inr (1, [.ref kt, .int (nI ((tn + 1) + 5))])), (kt, .inl (cy 0, 16, .inl (trP (upd tf tn (nI 12)) (tn + 1) [11, 10, 24, 21, 20]))), (h, .inr (2, [.int (nI (w 0)), .int (nI (w 1)), .int (nI (w 2)), .int (nI (w 4)), .int (nI (w 3)), .ref kA, .ref tA, .ref eA, .ref oA])), (kA, .inl (cy 0, 6, .inl fk)), (tA, .inl (cy 0, 6, .inl ft)), (eA, .inl (cy 0, 6, .inl fe)), (oA, .inl (cy 0, 6, .inl fo))] := hD
  refine lv_ineg hx hb dX1_give_134 ?_
  have hP9 := hP
  have hD9 := hD
  exact q_wiret (v := -(nI (ctT w c + (2 * (c + ctO w c))))) hx hb hr hlocks dX1_give_135 hP9 hD9 hS (⟨rfl, rfl⟩)
set_option maxHeartbeats 4000000 in
set_option maxRecDepth 100000 in
theorem c_g13 (l : Launch) (D : va_G) (cy : Nat → ClassId) (k0 kt : Nat) (tf : Nat → Int32) (tn : Nat) (h kA tA eA oA : Nat) (w : Nat → Nat) (fk ft fe fo : Nat → Int32) (hw : ctIs w fk ft fe fo) (hv : ctOk w) (c : Nat) (hc : c < w 4) (hkd : True) (htn : tn + 2 ≤ 16) (dp : Nat) (hdp : dp + 1 ≤ 10) : q_WiZ l yX1_give wsX1_give 3 D cy [(k0, .inr (1, [.ref kt, .int (nI tn)])), (kt, .inl (cy 0, 16, .inl tf)), (h, .inr (2, [.int (nI (w 0)), .int (nI (w 1)), .int (nI (w 2)), .int (nI (w 4)), .int (nI (w 3)), .ref kA, .ref tA, .ref eA, .ref oA])), (kA, .inl (cy 0, 6, .inl fk)), (tA, .inl (cy 0, 6, .inl ft)), (eA, .inl (cy 0, 6, .inl fe)), (oA, .inl (cy 0, 6, .inl fo))] [.ref k0, .ref h, .int (nI c), .int (nI 13), .int (nI dp)] (fun r u => r = nI (ctT w c) - nI 100 ∧ u = [(k0, .inr (1, [.ref kt, .int (nI (tn + 2))])), (kt, .inl (cy 0, 16, .inl (trP tf tn [13, 10]))), (h, .inr (2, [.int (nI (w 0)), .int (nI (w 1)), .int (nI (w 2)), .int (nI (w 4)), .int (nI (w 3)), .ref kA, .ref tA, .ref eA, .ref oA])), (kA, .inl (cy 0, 6, .inl fk)), (tA, .inl (cy 0, 6, .inl ft)), (eA, .inl (cy 0, 6, .inl fe)), (oA, .inl (cy 0, 6, .inl fo))]) := by
  refine q_wiz_of (cc := cX1_give) (maxL := 6) (ret := (some .int)) (by decide) rfl (Nat.le_of_ble_eq_true rfl) ?_
  intro pg en s mi args below meth cd A hC hA hK hZ H locs hP hD hS ls hl
  obtain ⟨hx, hb, hr, hml, hown, hts, hlocks⟩ := hC
  have hl : lv_has ls 6 [(0, .ref k0), (1, .ref h), (2, .int (nI c)), (3, .int (nI 13)), (4, .int (nI dp))] := hl
  obtain ⟨hv0, hv1, hv2, hv3, hv4, hvc⟩ := id hv
  obtain ⟨hk1, hk5, ht1, ht2, he2, he4, ho1⟩ := hvc c hc
  refine lv_iload hx hb dX1_give_0 (lv_at hl 4 rfl) ?_
  refine lv_bipush (v := nI 10) hx hb dX1_give_2 (by decide) ?_
  refine q_icmp_le (tgt := 9) hx hb dX1_give_4 (by decide) (by omega) (by decide) (fun c1 => ?_) (fun c1 => absurd c1 (by omega))
  refine lv_aload_n hx hb dX1_give_9 rfl (lv_at hl 0 rfl) ?_
  refine lv_iload_n hx hb dX1_give_10 rfl (lv_at hl 3 rfl) ?_
  refine q_wvV (As := [.int (nI 13)]) (rest := []) (wr := [(h, .inr (2, [.int (nI (w 0)), .int (nI (w 1)), .int (nI (w 2)), .int (nI (w 4)), .int (nI (w 3)), .ref kA, .ref tA, .ref eA, .ref oA])), (kA, .inl (cy 0, 6, .inl fk)), (tA, .inl (cy 0, 6, .inl ft)), (eA, .inl (cy 0, 6, .inl fe)), (oA, .inl (cy 0, 6, .inl fo))]) ⟨hx, hb, hml, hown, hts⟩ (c_X1_leave l D cy k0 kt tf tn (by omega) 13) (cwV 1 hts gX1_give_X1_leave rfl rfl rfl (by decide +kernel) ⟨Nat.le_of_ble_eq_true rfl, Nat.le_of_ble_eq_true rfl⟩) hP hD hS hA hK [0, 1] [2, 3, 4, 5, 6] rfl rfl (by decide) rfl (by decide) (by decide) 0 rfl rfl rfl rfl hl.1 rfl (Nat.le_of_ble_eq_true rfl) dX1_give_11 ⟨Nat.zero_le _, Nat.zero_le _⟩ (fun u3 H locs hr2 hP hD hS => ?_)
  obtain rfl := hr2
  have hP : va_P D vwCl [(h, .inr (2, [.int (nI (w 0)), .int (nI (w 1)), .int (nI (w 2)), .int (nI (w 4)), .int (nI (w 3)), .ref kA, .ref tA, .ref eA, .ref oA])), (kA, .inl (cy 0, 6, .inl fk)), (tA, .inl (cy 0, 6, .inl ft)), (eA, .inl (cy 0, 6, .inl fe)), (oA, .inl (cy 0, 6, .inl fo)), (k0, .inr (1, [.ref kt, .int (nI (tn + 1))])), (kt, .inl (cy 0, 16, .inl (upd tf tn (nI 13))))] H := hP
  have hD : va_D A [(h, .inr (2, [.int (nI (w 0)), .int (nI (w 1)), .int (nI (w 2)), .int (nI (w 4)), .int (nI (w 3)), .ref kA, .ref tA, .ref eA, .ref oA])), (kA, .inl (cy 0, 6, .inl fk)), (tA, .inl (cy 0, 6, .inl ft)), (eA, .inl (cy 0, 6, .inl fe)), (oA, .inl (cy 0, 6, .inl fo)), (k0, .inr (1, [.ref kt, .int (nI (tn + 1))])), (kt, .inl (cy 0, 16, .inl (upd tf tn (nI 13))))] := hD
  refine lv_iload hx hb dX1_give_14 (lv_at hl 4 rfl) ?_
  refine lv_iconst (v := nI 1) hx hb dX1_give_16 (by decide) ?_
  refine lv_iadd hx hb dX1_give_17 ?_
  refine q_top (y := nI (dp + 1)) (nI_add _ _) ?_
  refine lv_istore (lv' := [(5, .int (nI (dp + 1))), (0, .ref k0), (1, .ref h), (2, .int (nI c)), (3, .int (nI 13)), (4, .int (nI dp))]) hx hb dX1_give_18 hl (by decide) rfl (fun ls hl => ?_)
  refine lv_iload_n hx hb dX1_give_20 rfl (lv_at hl 4 rfl) ?_
  refine lv_tableIn (off := 115) (tgt := 136) hx hb dX1_give_21 (by decide) (by decide) (by decide) (by decide) ?_
  refine lv_aload_n hx hb dX1_give_136 rfl (lv_at hl 1 rfl) ?_
  refine lv_aload_n hx hb dX1_give_137 rfl (lv_at hl 2 rfl) ?_
  refine lv_iload_n hx hb dX1_give_138 rfl (lv_at hl 3 rfl) ?_
  refine lv_bipush (v := nI 10) hx hb dX1_give_139 (by decide) ?_
  refine lv_iload hx hb dX1_give_141 (lv_at hl 0 rfl) ?_
  refine q_wizV (As := [.ref h, .int (nI c), .int (nI 10), .int (nI (dp + 1))]) (rest := []) (wr := []) ⟨hx, hb, hml, hown, hts⟩ (c_g10 l D cy k0 kt (upd tf tn (nI 13)) (tn + 1) h kA tA eA oA w fk ft fe fo hw hv c hc trivial (by omega) (dp + 1) (by omega)) (cwV 4 hts gX1_give_X1_give rfl rfl rfl (by decide +kernel) ⟨Nat.le_of_ble_eq_true rfl, Nat.le_of_ble_eq_true rfl⟩) hP hD hS hA hK hZ [5, 6, 0, 1, 2, 3, 4] [] rfl rfl (by decide) rfl (by decide) (by decide) 5 rfl rfl rfl rfl hl.1 rfl (Nat.le_of_ble_eq_true rfl) dX1_give_143 ⟨Nat.zero_le _, Nat.zero_le _⟩ (fun r4 u5 H locs hr4 hP hD hS => ?_)
  obtain ⟨rfl, rfl⟩ := hr4
  have hP : va_P D vwCl [(k0, .inr (1, [.ref kt, .int (nI ((tn + 1) + 1))])), (kt, .inl (cy 0, 16, .inl (trP (upd tf tn (nI 13)) (tn + 1) [10]))), (h, .inr (2, [.int (nI (w 0)), .int (nI (w 1)), .int (nI (w 2)), .int (nI (w 4)), .int (nI (w 3)), .ref kA, .ref tA, .ref eA, .ref oA])), (kA, .inl (cy 0, 6, .inl fk)), (tA, .inl (cy 0, 6, .inl ft)), (eA, .inl (cy 0, 6, .inl fe)), (oA, .inl (cy 0, 6, .inl fo))] H := hP
  have hD : va_D A [(k0, .inr (1, [.ref kt, .int (nI ((tn + 1) + 1))])), (kt, .inl (cy 0, 16, .inl (trP (upd tf tn (nI 13)) (tn + 1) [10]))), (h, .inr (2, [.int (nI (w 0)), .int (nI (w 1)), .int (nI (w 2)), .int (nI (w 4)), .int (nI (w 3)), .ref kA, .ref tA, .ref eA, .ref oA])), (kA, .inl (cy 0, 6, .inl fk)), (tA, .inl (cy 0, 6, .inl ft)), (eA, .inl (cy 0, 6, .inl fe)), (oA, .inl (cy 0, 6, .inl fo))] := hD
  refine lv_bipush (v := nI 100) hx hb dX1_give_146 (by decide) ?_
  refine lv_isub hx hb dX1_give_148 ?_
  have hP9 := hP
  have hD9 := hD
  exact q_wiret (v := (nI (ctT w c)) - (nI 100)) hx hb hr hlocks dX1_give_149 hP9 hD9 hS (⟨rfl, rfl⟩)
set_option maxHeartbeats 4000000 in
set_option maxRecDepth 100000 in
theorem c_g14 (l : Launch) (D : va_G) (cy : Nat → ClassId) (k0 kt : Nat) (tf : Nat → Int32) (tn : Nat) (h kA tA eA oA : Nat) (w : Nat → Nat) (fk ft fe fo : Nat → Int32) (hw : ctIs w fk ft fe fo) (hv : ctOk w) (c : Nat) (hc : c < w 4) (hkd : True) (htn : tn + 3 ≤ 16) (dp : Nat) (hdp : dp + 2 ≤ 10) : q_WiZ l yX1_give wsX1_give 4 D cy [(k0, .inr (1, [.ref kt, .int (nI tn)])), (kt, .inl (cy 0, 16, .inl tf)), (h, .inr (2, [.int (nI (w 0)), .int (nI (w 1)), .int (nI (w 2)), .int (nI (w 4)), .int (nI (w 3)), .ref kA, .ref tA, .ref eA, .ref oA])), (kA, .inl (cy 0, 6, .inl fk)), (tA, .inl (cy 0, 6, .inl ft)), (eA, .inl (cy 0, 6, .inl fe)), (oA, .inl (cy 0, 6, .inl fo))] [.ref k0, .ref h, .int (nI c), .int (nI 14), .int (nI dp)] (fun r u => r = (nI 2) * (nI (ctT w c) - nI 100) ∧ u = [(k0, .inr (1, [.ref kt, .int (nI (tn + 3))])), (kt, .inl (cy 0, 16, .inl (trP tf tn [14, 13, 10]))), (h, .inr (2, [.int (nI (w 0)), .int (nI (w 1)), .int (nI (w 2)), .int (nI (w 4)), .int (nI (w 3)), .ref kA, .ref tA, .ref eA, .ref oA])), (kA, .inl (cy 0, 6, .inl fk)), (tA, .inl (cy 0, 6, .inl ft)), (eA, .inl (cy 0, 6, .inl fe)), (oA, .inl (cy 0, 6, .inl fo))]) := by
  refine q_wiz_of (cc := cX1_give) (maxL := 6) (ret := (some .int)) (by decide) rfl (Nat.le_of_ble_eq_true rfl) ?_
  intro pg en s mi args below meth cd A hC hA hK hZ H locs hP hD hS ls hl
  obtain ⟨hx, hb, hr, hml, hown, hts, hlocks⟩ := hC
  have hl : lv_has ls 6 [(0, .ref k0), (1, .ref h), (2, .int (nI c)), (3, .int (nI 14)), (4, .int (nI dp))] := hl
  obtain ⟨hv0, hv1, hv2, hv3, hv4, hvc⟩ := id hv
  obtain ⟨hk1, hk5, ht1, ht2, he2, he4, ho1⟩ := hvc c hc
  refine lv_iload hx hb dX1_give_0 (lv_at hl 4 rfl) ?_
  refine lv_bipush (v := nI 10) hx hb dX1_give_2 (by decide) ?_
  refine q_icmp_le (tgt := 9) hx hb dX1_give_4 (by decide) (by omega) (by decide) (fun c1 => ?_) (fun c1 => absurd c1 (by omega))
  refine lv_aload_n hx hb dX1_give_9 rfl (lv_at hl 0 rfl) ?_
  refine lv_iload_n hx hb dX1_give_10 rfl (lv_at hl 3 rfl) ?_
  refine q_wvV (As := [.int (nI 14)]) (rest := []) (wr := [(h, .inr (2, [.int (nI (w 0)), .int (nI (w 1)), .int (nI (w 2)), .int (nI (w 4)), .int (nI (w 3)), .ref kA, .ref tA, .ref eA, .ref oA])), (kA, .inl (cy 0, 6, .inl fk)), (tA, .inl (cy 0, 6, .inl ft)), (eA, .inl (cy 0, 6, .inl fe)), (oA, .inl (cy 0, 6, .inl fo))]) ⟨hx, hb, hml, hown, hts⟩ (c_X1_leave l D cy k0 kt tf tn (by omega) 14) (cwV 1 hts gX1_give_X1_leave rfl rfl rfl (by decide +kernel) ⟨Nat.le_of_ble_eq_true rfl, Nat.le_of_ble_eq_true rfl⟩) hP hD hS hA hK [0, 1] [2, 3, 4, 5, 6] rfl rfl (by decide) rfl (by decide) (by decide) 0 rfl rfl rfl rfl hl.1 rfl (Nat.le_of_ble_eq_true rfl) dX1_give_11 ⟨Nat.zero_le _, Nat.zero_le _⟩ (fun u3 H locs hr2 hP hD hS => ?_)
  obtain rfl := hr2
  have hP : va_P D vwCl [(h, .inr (2, [.int (nI (w 0)), .int (nI (w 1)), .int (nI (w 2)), .int (nI (w 4)), .int (nI (w 3)), .ref kA, .ref tA, .ref eA, .ref oA])), (kA, .inl (cy 0, 6, .inl fk)), (tA, .inl (cy 0, 6, .inl ft)), (eA, .inl (cy 0, 6, .inl fe)), (oA, .inl (cy 0, 6, .inl fo)), (k0, .inr (1, [.ref kt, .int (nI (tn + 1))])), (kt, .inl (cy 0, 16, .inl (upd tf tn (nI 14))))] H := hP
  have hD : va_D A [(h, .inr (2, [.int (nI (w 0)), .int (nI (w 1)), .int (nI (w 2)), .int (nI (w 4)), .int (nI (w 3)), .ref kA, .ref tA, .ref eA, .ref oA])), (kA, .inl (cy 0, 6, .inl fk)), (tA, .inl (cy 0, 6, .inl ft)), (eA, .inl (cy 0, 6, .inl fe)), (oA, .inl (cy 0, 6, .inl fo)), (k0, .inr (1, [.ref kt, .int (nI (tn + 1))])), (kt, .inl (cy 0, 16, .inl (upd tf tn (nI 14))))] := hD
  refine lv_iload hx hb dX1_give_14 (lv_at hl 4 rfl) ?_
  refine lv_iconst (v := nI 1) hx hb dX1_give_16 (by decide) ?_
  refine lv_iadd hx hb dX1_give_17 ?_
  refine q_top (y := nI (dp + 1)) (nI_add _ _) ?_
  refine lv_istore (lv' := [(5, .int (nI (dp + 1))), (0, .ref k0), (1, .ref h), (2, .int (nI c)), (3, .int (nI 14)), (4, .int (nI dp))]) hx hb dX1_give_18 hl (by decide) rfl (fun ls hl => ?_)
  refine lv_iload_n hx hb dX1_give_20 rfl (lv_at hl 4 rfl) ?_
  refine lv_tableIn (off := 129) (tgt := 150) hx hb dX1_give_21 (by decide) (by decide) (by decide) (by decide) ?_
  refine lv_iconst (v := nI 2) hx hb dX1_give_150 (by decide) ?_
  refine lv_aload_n hx hb dX1_give_151 rfl (lv_at hl 1 rfl) ?_
  refine lv_aload_n hx hb dX1_give_152 rfl (lv_at hl 2 rfl) ?_
  refine lv_iload_n hx hb dX1_give_153 rfl (lv_at hl 3 rfl) ?_
  refine lv_bipush (v := nI 13) hx hb dX1_give_154 (by decide) ?_
  refine lv_iload hx hb dX1_give_156 (lv_at hl 0 rfl) ?_
  refine q_wizV (As := [.ref h, .int (nI c), .int (nI 13), .int (nI (dp + 1))]) (rest := [.int (nI 2)]) (wr := []) ⟨hx, hb, hml, hown, hts⟩ (c_g13 l D cy k0 kt (upd tf tn (nI 14)) (tn + 1) h kA tA eA oA w fk ft fe fo hw hv c hc trivial (by omega) (dp + 1) (by omega)) (cwV 4 hts gX1_give_X1_give rfl rfl rfl (by decide +kernel) ⟨Nat.le_of_ble_eq_true rfl, Nat.le_of_ble_eq_true rfl⟩) hP hD hS hA hK hZ [5, 6, 0, 1, 2, 3, 4] [] rfl rfl (by decide) rfl (by decide) (by decide) 5 rfl rfl rfl rfl hl.1 rfl (Nat.le_of_ble_eq_true rfl) dX1_give_158 ⟨Nat.zero_le _, Nat.zero_le _⟩ (fun r4 u5 H locs hr4 hP hD hS => ?_)
  obtain ⟨rfl, rfl⟩ := hr4
  have hP : va_P D vwCl [(k0, .inr (1, [.ref kt, .int (nI ((tn + 1) + 2))])), (kt, .inl (cy 0, 16, .inl (trP (upd tf tn (nI 14)) (tn + 1) [13, 10]))), (h, .inr (2, [.int (nI (w 0)), .int (nI (w 1)), .int (nI (w 2)), .int (nI (w 4)), .int (nI (w 3)), .ref kA, .ref tA, .ref eA, .ref oA])), (kA, .inl (cy 0, 6, .inl fk)), (tA, .inl (cy 0, 6, .inl ft)), (eA, .inl (cy 0, 6, .inl fe)), (oA, .inl (cy 0, 6, .inl fo))] H := hP
  have hD : va_D A [(k0, .inr (1, [.ref kt, .int (nI ((tn + 1) + 2))])), (kt, .inl (cy 0, 16, .inl (trP (upd tf tn (nI 14)) (tn + 1) [13, 10]))), (h, .inr (2, [.int (nI (w 0)), .int (nI (w 1)), .int (nI (w 2)), .int (nI (w 4)), .int (nI (w 3)), .ref kA, .ref tA, .ref eA, .ref oA])), (kA, .inl (cy 0, 6, .inl fk)), (tA, .inl (cy 0, 6, .inl ft)), (eA, .inl (cy 0, 6, .inl fe)), (oA, .inl (cy 0, 6, .inl fo))] := hD
  refine lv_imul hx hb dX1_give_161 ?_
  have hP9 := hP
  have hD9 := hD
  exact q_wiret (v := (nI 2) * (nI (ctT w c) - nI 100)) hx hb hr hlocks dX1_give_162 hP9 hD9 hS (⟨rfl, rfl⟩)
theorem nb0_1_0 : ∀ w ∈ wsX20, w ∈ wsX1_begin := by decide +kernel
theorem mb0_1_1 : Cond.fieldLink RX1 24 "ClueLeave$City" "kinds" "[I" ∈ wsX1_begin := by decide +kernel
theorem mb0_1_2 : Cond.fieldLink RX1 29 "ClueLeave$Asks" "SIZES" "[I" ∈ wsX1_begin := by decide +kernel
set_option maxHeartbeats 4000000 in
set_option maxRecDepth 100000 in
theorem c_b0_1 (l : Launch) (D : va_G) (cy : Nat → ClassId) (k0 kt : Nat) (tf : Nat → Int32) (tn : Nat) (h kA tA eA oA : Nat) (w : Nat → Nat) (fk ft fe fo : Nat → Int32) (hw : ctIs w fk ft fe fo) (hv : ctOk w) (c : Nat) (hc : c < w 4) (hkd : ctK w c = 1) (htn : tn + 4 ≤ 16) (dp : Nat) (hdp : dp + 6 ≤ 10) : q_WiZ l yX1_begin wsX1_begin 8 D cy [(k0, .inr (1, [.ref kt, .int (nI tn)])), (kt, .inl (cy 0, 16, .inl tf)), (h, .inr (2, [.int (nI (w 0)), .int (nI (w 1)), .int (nI (w 2)), .int (nI (w 4)), .int (nI (w 3)), .ref kA, .ref tA, .ref eA, .ref oA])), (kA, .inl (cy 0, 6, .inl fk)), (tA, .inl (cy 0, 6, .inl ft)), (eA, .inl (cy 0, 6, .inl fe)), (oA, .inl (cy 0, 6, .inl fo))] [.ref k0, .ref h, .int (nI c), .int (nI 0), .int (nI dp)] (fun r u => r = nI (ctT w c + (c + ctO w c)) ∧ u = [(k0, .inr (1, [.ref kt, .int (nI (tn + 4))])), (kt, .inl (cy 0, 16, .inl (trP tf tn [11, 10, 21, 20]))), (h, .inr (2, [.int (nI (w 0)), .int (nI (w 1)), .int (nI (w 2)), .int (nI (w 4)), .int (nI (w 3)), .ref kA, .ref tA, .ref eA, .ref oA])), (kA, .inl (cy 0, 6, .inl fk)), (tA, .inl (cy 0, 6, .inl ft)), (eA, .inl (cy 0, 6, .inl fe)), (oA, .inl (cy 0, 6, .inl fo))]) := by
  refine q_wiz_of (cc := cX1_begin) (maxL := 6) (ret := (some .int)) (by decide) rfl (Nat.le_of_ble_eq_true rfl) ?_
  intro pg en s mi args below meth cd A hC hA hK hZ H locs hP hD hS ls hl
  obtain ⟨hx, hb, hr, hml, hown, hts, hlocks⟩ := hC
  have hl : lv_has ls 6 [(0, .ref k0), (1, .ref h), (2, .int (nI c)), (3, .int (nI 0)), (4, .int (nI dp))] := hl
  obtain ⟨hv0, hv1, hv2, hv3, hv4, hvc⟩ := id hv
  obtain ⟨⟨t1, hz1, hz2⟩, ⟨t2, hz3, hz4⟩⟩ := id hZ
  refine lv_aload_n hx hb dX1_begin_0 rfl (lv_at hl 1 rfl) ?_
  refine va_get (D := D) (ci := 2) (v := .ref kA) (C := RX2) (T := TX2) (N := 9) hx hb hts nb0_1_0 hown hK.1 hP 2 rfl rfl 5 (by decide) (hts _ mb0_1_1) (fun _ h9 => h9) rfl dX1_begin_1 ?_
  refine lv_iload_n hx hb dX1_begin_4 rfl (lv_at hl 2 rfl) ?_
  refine q_iald (j := c) (v := nI (ctK w c)) hx hb hK hP 3 rfl (by omega) (by decide) (ctIs_0 hw (by omega)) dX1_begin_5 ?_
  refine q_top (y := nI 1) (congrArg nI hkd) ?_
  refine lv_istore (lv' := [(5, .int (nI 1)), (0, .ref k0), (1, .ref h), (2, .int (nI c)), (3, .int (nI 0)), (4, .int (nI dp))]) hx hb dX1_begin_6 hl (by decide) rfl (fun ls hl => ?_)
  refine lv_aload_n hx hb dX1_begin_8 rfl (lv_at hl 1 rfl) ?_
  refine lv_aload_n hx hb dX1_begin_9 rfl (lv_at hl 2 rfl) ?_
  refine lv_iload_n hx hb dX1_begin_10 rfl (lv_at hl 3 rfl) ?_
  refine lv_iload_n hx hb dX1_begin_11 rfl (lv_at hl 4 rfl) ?_
  refine lv_if_ne (tgt := 24) hx hb dX1_begin_12 (by decide) (fun c9 => absurd (by decide) c9) (fun _ => ?_)
  refine va_gets (v := .ref t1) hx hb hz1 hS hown (hts _ mb0_1_2) (fun _ h9 => h9) dX1_begin_15 ?_
  refine lv_iload hx hb dX1_begin_18 (lv_at hl 0 rfl) ?_
  refine va_ti (v := .int (nI 11)) hx hb hz2 hS (vp_in_nI (by omega) (by decide)) (by rw [nI_clamp (by decide)]; rfl) dX1_begin_20 ?_
  refine lv_goto (tgt := 30) hx hb dX1_begin_21 (by decide) ?_
  refine lv_iload hx hb dX1_begin_30 (lv_at hl 5 rfl) ?_
  refine q_wizV (As := [.ref h, .int (nI c), .int (nI 11), .int (nI dp)]) (rest := []) (wr := []) ⟨hx, hb, hml, hown, hts⟩ (c_g11_1 l D cy k0 kt tf tn h kA tA eA oA w fk ft fe fo hw hv c hc hkd (by omega) dp (by omega)) (cwV 4 hts gX1_begin_X1_give rfl rfl rfl (by decide +kernel) ⟨Nat.le_of_ble_eq_true rfl, Nat.le_of_ble_eq_true rfl⟩) hP hD hS hA hK hZ [0, 1, 2, 3, 4, 5, 6] [] rfl rfl (by decide) rfl (by decide) (by decide) 0 rfl rfl rfl rfl hl.1 rfl (Nat.le_of_ble_eq_true rfl) dX1_begin_32 ⟨Nat.zero_le _, Nat.zero_le _⟩ (fun r1 u2 H locs hr1 hP hD hS => ?_)
  obtain ⟨rfl, rfl⟩ := hr1
  have hP : va_P D vwCl [(k0, .inr (1, [.ref kt, .int (nI (tn + 4))])), (kt, .inl (cy 0, 16, .inl (trP tf tn [11, 10, 21, 20]))), (h, .inr (2, [.int (nI (w 0)), .int (nI (w 1)), .int (nI (w 2)), .int (nI (w 4)), .int (nI (w 3)), .ref kA, .ref tA, .ref eA, .ref oA])), (kA, .inl (cy 0, 6, .inl fk)), (tA, .inl (cy 0, 6, .inl ft)), (eA, .inl (cy 0, 6, .inl fe)), (oA, .inl (cy 0, 6, .inl fo))] H := hP
  have hD : va_D A [(k0, .inr (1, [.ref kt, .int (nI (tn + 4))])), (kt, .inl (cy 0, 16, .inl (trP tf tn [11, 10, 21, 20]))), (h, .inr (2, [.int (nI (w 0)), .int (nI (w 1)), .int (nI (w 2)), .int (nI (w 4)), .int (nI (w 3)), .ref kA, .ref tA, .ref eA, .ref oA])), (kA, .inl (cy 0, 6, .inl fk)), (tA, .inl (cy 0, 6, .inl ft)), (eA, .inl (cy 0, 6, .inl fe)), (oA, .inl (cy 0, 6, .inl fo))] := hD
  have hP9 := hP
  have hD9 := hD
  exact q_wiret (v := nI (ctT w c + (c + ctO w c))) hx hb hr hlocks dX1_begin_35 hP9 hD9 hS (⟨rfl, rfl⟩)
theorem nb0_2_0 : ∀ w ∈ wsX20, w ∈ wsX1_begin := by decide +kernel
theorem mb0_2_1 : Cond.fieldLink RX1 24 "ClueLeave$City" "kinds" "[I" ∈ wsX1_begin := by decide +kernel
theorem mb0_2_2 : Cond.fieldLink RX1 29 "ClueLeave$Asks" "SIZES" "[I" ∈ wsX1_begin := by decide +kernel
set_option maxHeartbeats 4000000 in
set_option maxRecDepth 100000 in
theorem c_b0_2 (l : Launch) (D : va_G) (cy : Nat → ClassId) (k0 kt : Nat) (tf : Nat → Int32) (tn : Nat) (h kA tA eA oA : Nat) (w : Nat → Nat) (fk ft fe fo : Nat → Int32) (hw : ctIs w fk ft fe fo) (hv : ctOk w) (c : Nat) (hc : c < w 4) (hkd : ctK w c = 2) (htn : tn + 6 ≤ 16) (dp : Nat) (hdp : dp + 6 ≤ 10) : q_WiZ l yX1_begin wsX1_begin 8 D cy [(k0, .inr (1, [.ref kt, .int (nI tn)])), (kt, .inl (cy 0, 16, .inl tf)), (h, .inr (2, [.int (nI (w 0)), .int (nI (w 1)), .int (nI (w 2)), .int (nI (w 4)), .int (nI (w 3)), .ref kA, .ref tA, .ref eA, .ref oA])), (kA, .inl (cy 0, 6, .inl fk)), (tA, .inl (cy 0, 6, .inl ft)), (eA, .inl (cy 0, 6, .inl fe)), (oA, .inl (cy 0, 6, .inl fo))] [.ref k0, .ref h, .int (nI c), .int (nI 0), .int (nI dp)] (fun r u => r = -(nI (ctT w c + (2 * (c + ctO w c)))) ∧ u = [(k0, .inr (1, [.ref kt, .int (nI (tn + 6))])), (kt, .inl (cy 0, 16, .inl (trP tf tn [12, 11, 10, 24, 21, 20]))), (h, .inr (2, [.int (nI (w 0)), .int (nI (w 1)), .int (nI (w 2)), .int (nI (w 4)), .int (nI (w 3)), .ref kA, .ref tA, .ref eA, .ref oA])), (kA, .inl (cy 0, 6, .inl fk)), (tA, .inl (cy 0, 6, .inl ft)), (eA, .inl (cy 0, 6, .inl fe)), (oA, .inl (cy 0, 6, .inl fo))]) := by
  refine q_wiz_of (cc := cX1_begin) (maxL := 6) (ret := (some .int)) (by decide) rfl (Nat.le_of_ble_eq_true rfl) ?_
  intro pg en s mi args below meth cd A hC hA hK hZ H locs hP hD hS ls hl
  obtain ⟨hx, hb, hr, hml, hown, hts, hlocks⟩ := hC
  have hl : lv_has ls 6 [(0, .ref k0), (1, .ref h), (2, .int (nI c)), (3, .int (nI 0)), (4, .int (nI dp))] := hl
  obtain ⟨hv0, hv1, hv2, hv3, hv4, hvc⟩ := id hv
  obtain ⟨⟨t1, hz1, hz2⟩, ⟨t2, hz3, hz4⟩⟩ := id hZ
  refine lv_aload_n hx hb dX1_begin_0 rfl (lv_at hl 1 rfl) ?_
  refine va_get (D := D) (ci := 2) (v := .ref kA) (C := RX2) (T := TX2) (N := 9) hx hb hts nb0_2_0 hown hK.1 hP 2 rfl rfl 5 (by decide) (hts _ mb0_2_1) (fun _ h9 => h9) rfl dX1_begin_1 ?_
  refine lv_iload_n hx hb dX1_begin_4 rfl (lv_at hl 2 rfl) ?_
  refine q_iald (j := c) (v := nI (ctK w c)) hx hb hK hP 3 rfl (by omega) (by decide) (ctIs_0 hw (by omega)) dX1_begin_5 ?_
  refine q_top (y := nI 2) (congrArg nI hkd) ?_
  refine lv_istore (lv' := [(5, .int (nI 2)), (0, .ref k0), (1, .ref h), (2, .int (nI c)), (3, .int (nI 0)), (4, .int (nI dp))]) hx hb dX1_begin_6 hl (by decide) rfl (fun ls hl => ?_)
  refine lv_aload_n hx hb dX1_begin_8 rfl (lv_at hl 1 rfl) ?_
  refine lv_aload_n hx hb dX1_begin_9 rfl (lv_at hl 2 rfl) ?_
  refine lv_iload_n hx hb dX1_begin_10 rfl (lv_at hl 3 rfl) ?_
  refine lv_iload_n hx hb dX1_begin_11 rfl (lv_at hl 4 rfl) ?_
  refine lv_if_ne (tgt := 24) hx hb dX1_begin_12 (by decide) (fun c9 => absurd (by decide) c9) (fun _ => ?_)
  refine va_gets (v := .ref t1) hx hb hz1 hS hown (hts _ mb0_2_2) (fun _ h9 => h9) dX1_begin_15 ?_
  refine lv_iload hx hb dX1_begin_18 (lv_at hl 0 rfl) ?_
  refine va_ti (v := .int (nI 12)) hx hb hz2 hS (vp_in_nI (by omega) (by decide)) (by rw [nI_clamp (by decide)]; rfl) dX1_begin_20 ?_
  refine lv_goto (tgt := 30) hx hb dX1_begin_21 (by decide) ?_
  refine lv_iload hx hb dX1_begin_30 (lv_at hl 5 rfl) ?_
  refine q_wizV (As := [.ref h, .int (nI c), .int (nI 12), .int (nI dp)]) (rest := []) (wr := []) ⟨hx, hb, hml, hown, hts⟩ (c_g12 l D cy k0 kt tf tn h kA tA eA oA w fk ft fe fo hw hv c hc hkd (by omega) dp (by omega)) (cwV 4 hts gX1_begin_X1_give rfl rfl rfl (by decide +kernel) ⟨Nat.le_of_ble_eq_true rfl, Nat.le_of_ble_eq_true rfl⟩) hP hD hS hA hK hZ [0, 1, 2, 3, 4, 5, 6] [] rfl rfl (by decide) rfl (by decide) (by decide) 0 rfl rfl rfl rfl hl.1 rfl (Nat.le_of_ble_eq_true rfl) dX1_begin_32 ⟨Nat.zero_le _, Nat.zero_le _⟩ (fun r1 u2 H locs hr1 hP hD hS => ?_)
  obtain ⟨rfl, rfl⟩ := hr1
  have hP : va_P D vwCl [(k0, .inr (1, [.ref kt, .int (nI (tn + 6))])), (kt, .inl (cy 0, 16, .inl (trP tf tn [12, 11, 10, 24, 21, 20]))), (h, .inr (2, [.int (nI (w 0)), .int (nI (w 1)), .int (nI (w 2)), .int (nI (w 4)), .int (nI (w 3)), .ref kA, .ref tA, .ref eA, .ref oA])), (kA, .inl (cy 0, 6, .inl fk)), (tA, .inl (cy 0, 6, .inl ft)), (eA, .inl (cy 0, 6, .inl fe)), (oA, .inl (cy 0, 6, .inl fo))] H := hP
  have hD : va_D A [(k0, .inr (1, [.ref kt, .int (nI (tn + 6))])), (kt, .inl (cy 0, 16, .inl (trP tf tn [12, 11, 10, 24, 21, 20]))), (h, .inr (2, [.int (nI (w 0)), .int (nI (w 1)), .int (nI (w 2)), .int (nI (w 4)), .int (nI (w 3)), .ref kA, .ref tA, .ref eA, .ref oA])), (kA, .inl (cy 0, 6, .inl fk)), (tA, .inl (cy 0, 6, .inl ft)), (eA, .inl (cy 0, 6, .inl fe)), (oA, .inl (cy 0, 6, .inl fo))] := hD
  have hP9 := hP
  have hD9 := hD
  exact q_wiret (v := -(nI (ctT w c + (2 * (c + ctO w c))))) hx hb hr hlocks dX1_begin_35 hP9 hD9 hS (⟨rfl, rfl⟩)
theorem nb0_3_0 : ∀ w ∈ wsX20, w ∈ wsX1_begin := by decide +kernel
theorem mb0_3_1 : Cond.fieldLink RX1 24 "ClueLeave$City" "kinds" "[I" ∈ wsX1_begin := by decide +kernel
theorem mb0_3_2 : Cond.fieldLink RX1 29 "ClueLeave$Asks" "SIZES" "[I" ∈ wsX1_begin := by decide +kernel
set_option maxHeartbeats 4000000 in
set_option maxRecDepth 100000 in
theorem c_b0_3 (l : Launch) (D : va_G) (cy : Nat → ClassId) (k0 kt : Nat) (tf : Nat → Int32) (tn : Nat) (h kA tA eA oA : Nat) (w : Nat → Nat) (fk ft fe fo : Nat → Int32) (hw : ctIs w fk ft fe fo) (hv : ctOk w) (c : Nat) (hc : c < w 4) (hkd : ctK w c = 3) (htn : tn + 5 ≤ 16) (dp : Nat) (hdp : dp + 6 ≤ 10) : q_WiZ l yX1_begin wsX1_begin 8 D cy [(k0, .inr (1, [.ref kt, .int (nI tn)])), (kt, .inl (cy 0, 16, .inl tf)), (h, .inr (2, [.int (nI (w 0)), .int (nI (w 1)), .int (nI (w 2)), .int (nI (w 4)), .int (nI (w 3)), .ref kA, .ref tA, .ref eA, .ref oA])), (kA, .inl (cy 0, 6, .inl fk)), (tA, .inl (cy 0, 6, .inl ft)), (eA, .inl (cy 0, 6, .inl fe)), (oA, .inl (cy 0, 6, .inl fo))] [.ref k0, .ref h, .int (nI c), .int (nI 0), .int (nI dp)] (fun r u => r = (nI (ctT w c)) + (nI (c + ctO w c) - nI 1000) ∧ u = [(k0, .inr (1, [.ref kt, .int (nI (tn + 5))])), (kt, .inl (cy 0, 16, .inl (trP tf tn [11, 10, 22, 21, 20]))), (h, .inr (2, [.int (nI (w 0)), .int (nI (w 1)), .int (nI (w 2)), .int (nI (w 4)), .int (nI (w 3)), .ref kA, .ref tA, .ref eA, .ref oA])), (kA, .inl (cy 0, 6, .inl fk)), (tA, .inl (cy 0, 6, .inl ft)), (eA, .inl (cy 0, 6, .inl fe)), (oA, .inl (cy 0, 6, .inl fo))]) := by
  refine q_wiz_of (cc := cX1_begin) (maxL := 6) (ret := (some .int)) (by decide) rfl (Nat.le_of_ble_eq_true rfl) ?_
  intro pg en s mi args below meth cd A hC hA hK hZ H locs hP hD hS ls hl
  obtain ⟨hx, hb, hr, hml, hown, hts, hlocks⟩ := hC
  have hl : lv_has ls 6 [(0, .ref k0), (1, .ref h), (2, .int (nI c)), (3, .int (nI 0)), (4, .int (nI dp))] := hl
  obtain ⟨hv0, hv1, hv2, hv3, hv4, hvc⟩ := id hv
  obtain ⟨⟨t1, hz1, hz2⟩, ⟨t2, hz3, hz4⟩⟩ := id hZ
  refine lv_aload_n hx hb dX1_begin_0 rfl (lv_at hl 1 rfl) ?_
  refine va_get (D := D) (ci := 2) (v := .ref kA) (C := RX2) (T := TX2) (N := 9) hx hb hts nb0_3_0 hown hK.1 hP 2 rfl rfl 5 (by decide) (hts _ mb0_3_1) (fun _ h9 => h9) rfl dX1_begin_1 ?_
  refine lv_iload_n hx hb dX1_begin_4 rfl (lv_at hl 2 rfl) ?_
  refine q_iald (j := c) (v := nI (ctK w c)) hx hb hK hP 3 rfl (by omega) (by decide) (ctIs_0 hw (by omega)) dX1_begin_5 ?_
  refine q_top (y := nI 3) (congrArg nI hkd) ?_
  refine lv_istore (lv' := [(5, .int (nI 3)), (0, .ref k0), (1, .ref h), (2, .int (nI c)), (3, .int (nI 0)), (4, .int (nI dp))]) hx hb dX1_begin_6 hl (by decide) rfl (fun ls hl => ?_)
  refine lv_aload_n hx hb dX1_begin_8 rfl (lv_at hl 1 rfl) ?_
  refine lv_aload_n hx hb dX1_begin_9 rfl (lv_at hl 2 rfl) ?_
  refine lv_iload_n hx hb dX1_begin_10 rfl (lv_at hl 3 rfl) ?_
  refine lv_iload_n hx hb dX1_begin_11 rfl (lv_at hl 4 rfl) ?_
  refine lv_if_ne (tgt := 24) hx hb dX1_begin_12 (by decide) (fun c9 => absurd (by decide) c9) (fun _ => ?_)
  refine va_gets (v := .ref t1) hx hb hz1 hS hown (hts _ mb0_3_2) (fun _ h9 => h9) dX1_begin_15 ?_
  refine lv_iload hx hb dX1_begin_18 (lv_at hl 0 rfl) ?_
  refine va_ti (v := .int (nI 11)) hx hb hz2 hS (vp_in_nI (by omega) (by decide)) (by rw [nI_clamp (by decide)]; rfl) dX1_begin_20 ?_
  refine lv_goto (tgt := 30) hx hb dX1_begin_21 (by decide) ?_
  refine lv_iload hx hb dX1_begin_30 (lv_at hl 5 rfl) ?_
  refine q_wizV (As := [.ref h, .int (nI c), .int (nI 11), .int (nI dp)]) (rest := []) (wr := []) ⟨hx, hb, hml, hown, hts⟩ (c_g11_3 l D cy k0 kt tf tn h kA tA eA oA w fk ft fe fo hw hv c hc hkd (by omega) dp (by omega)) (cwV 4 hts gX1_begin_X1_give rfl rfl rfl (by decide +kernel) ⟨Nat.le_of_ble_eq_true rfl, Nat.le_of_ble_eq_true rfl⟩) hP hD hS hA hK hZ [0, 1, 2, 3, 4, 5, 6] [] rfl rfl (by decide) rfl (by decide) (by decide) 0 rfl rfl rfl rfl hl.1 rfl (Nat.le_of_ble_eq_true rfl) dX1_begin_32 ⟨Nat.zero_le _, Nat.zero_le _⟩ (fun r1 u2 H locs hr1 hP hD hS => ?_)
  obtain ⟨rfl, rfl⟩ := hr1
  have hP : va_P D vwCl [(k0, .inr (1, [.ref kt, .int (nI (tn + 5))])), (kt, .inl (cy 0, 16, .inl (trP tf tn [11, 10, 22, 21, 20]))), (h, .inr (2, [.int (nI (w 0)), .int (nI (w 1)), .int (nI (w 2)), .int (nI (w 4)), .int (nI (w 3)), .ref kA, .ref tA, .ref eA, .ref oA])), (kA, .inl (cy 0, 6, .inl fk)), (tA, .inl (cy 0, 6, .inl ft)), (eA, .inl (cy 0, 6, .inl fe)), (oA, .inl (cy 0, 6, .inl fo))] H := hP
  have hD : va_D A [(k0, .inr (1, [.ref kt, .int (nI (tn + 5))])), (kt, .inl (cy 0, 16, .inl (trP tf tn [11, 10, 22, 21, 20]))), (h, .inr (2, [.int (nI (w 0)), .int (nI (w 1)), .int (nI (w 2)), .int (nI (w 4)), .int (nI (w 3)), .ref kA, .ref tA, .ref eA, .ref oA])), (kA, .inl (cy 0, 6, .inl fk)), (tA, .inl (cy 0, 6, .inl ft)), (eA, .inl (cy 0, 6, .inl fe)), (oA, .inl (cy 0, 6, .inl fo))] := hD
  have hP9 := hP
  have hD9 := hD
  exact q_wiret (v := (nI (ctT w c)) + (nI (c + ctO w c) - nI 1000)) hx hb hr hlocks dX1_begin_35 hP9 hD9 hS (⟨rfl, rfl⟩)
theorem nb0_4_0 : ∀ w ∈ wsX20, w ∈ wsX1_begin := by decide +kernel
theorem mb0_4_1 : Cond.fieldLink RX1 24 "ClueLeave$City" "kinds" "[I" ∈ wsX1_begin := by decide +kernel
theorem mb0_4_2 : Cond.fieldLink RX1 29 "ClueLeave$Asks" "SIZES" "[I" ∈ wsX1_begin := by decide +kernel
set_option maxHeartbeats 4000000 in
set_option maxRecDepth 100000 in
theorem c_b0_4 (l : Launch) (D : va_G) (cy : Nat → ClassId) (k0 kt : Nat) (tf : Nat → Int32) (tn : Nat) (h kA tA eA oA : Nat) (w : Nat → Nat) (fk ft fe fo : Nat → Int32) (hw : ctIs w fk ft fe fo) (hv : ctOk w) (c : Nat) (hc : c < w 4) (hkd : ctK w c = 4) (htn : tn + 2 ≤ 16) (dp : Nat) (hdp : dp + 6 ≤ 10) : q_WiZ l yX1_begin wsX1_begin 8 D cy [(k0, .inr (1, [.ref kt, .int (nI tn)])), (kt, .inl (cy 0, 16, .inl tf)), (h, .inr (2, [.int (nI (w 0)), .int (nI (w 1)), .int (nI (w 2)), .int (nI (w 4)), .int (nI (w 3)), .ref kA, .ref tA, .ref eA, .ref oA])), (kA, .inl (cy 0, 6, .inl fk)), (tA, .inl (cy 0, 6, .inl ft)), (eA, .inl (cy 0, 6, .inl fe)), (oA, .inl (cy 0, 6, .inl fo))] [.ref k0, .ref h, .int (nI c), .int (nI 0), .int (nI dp)] (fun r u => r = nI (ctT w c) - nI 100 ∧ u = [(k0, .inr (1, [.ref kt, .int (nI (tn + 2))])), (kt, .inl (cy 0, 16, .inl (trP tf tn [13, 10]))), (h, .inr (2, [.int (nI (w 0)), .int (nI (w 1)), .int (nI (w 2)), .int (nI (w 4)), .int (nI (w 3)), .ref kA, .ref tA, .ref eA, .ref oA])), (kA, .inl (cy 0, 6, .inl fk)), (tA, .inl (cy 0, 6, .inl ft)), (eA, .inl (cy 0, 6, .inl fe)), (oA, .inl (cy 0, 6, .inl fo))]) := by
  refine q_wiz_of (cc := cX1_begin) (maxL := 6) (ret := (some .int)) (by decide) rfl (Nat.le_of_ble_eq_true rfl) ?_
  intro pg en s mi args below meth cd A hC hA hK hZ H locs hP hD hS ls hl
  obtain ⟨hx, hb, hr, hml, hown, hts, hlocks⟩ := hC
  have hl : lv_has ls 6 [(0, .ref k0), (1, .ref h), (2, .int (nI c)), (3, .int (nI 0)), (4, .int (nI dp))] := hl
  obtain ⟨hv0, hv1, hv2, hv3, hv4, hvc⟩ := id hv
  obtain ⟨⟨t1, hz1, hz2⟩, ⟨t2, hz3, hz4⟩⟩ := id hZ
  refine lv_aload_n hx hb dX1_begin_0 rfl (lv_at hl 1 rfl) ?_
  refine va_get (D := D) (ci := 2) (v := .ref kA) (C := RX2) (T := TX2) (N := 9) hx hb hts nb0_4_0 hown hK.1 hP 2 rfl rfl 5 (by decide) (hts _ mb0_4_1) (fun _ h9 => h9) rfl dX1_begin_1 ?_
  refine lv_iload_n hx hb dX1_begin_4 rfl (lv_at hl 2 rfl) ?_
  refine q_iald (j := c) (v := nI (ctK w c)) hx hb hK hP 3 rfl (by omega) (by decide) (ctIs_0 hw (by omega)) dX1_begin_5 ?_
  refine q_top (y := nI 4) (congrArg nI hkd) ?_
  refine lv_istore (lv' := [(5, .int (nI 4)), (0, .ref k0), (1, .ref h), (2, .int (nI c)), (3, .int (nI 0)), (4, .int (nI dp))]) hx hb dX1_begin_6 hl (by decide) rfl (fun ls hl => ?_)
  refine lv_aload_n hx hb dX1_begin_8 rfl (lv_at hl 1 rfl) ?_
  refine lv_aload_n hx hb dX1_begin_9 rfl (lv_at hl 2 rfl) ?_
  refine lv_iload_n hx hb dX1_begin_10 rfl (lv_at hl 3 rfl) ?_
  refine lv_iload_n hx hb dX1_begin_11 rfl (lv_at hl 4 rfl) ?_
  refine lv_if_ne (tgt := 24) hx hb dX1_begin_12 (by decide) (fun c9 => absurd (by decide) c9) (fun _ => ?_)
  refine va_gets (v := .ref t1) hx hb hz1 hS hown (hts _ mb0_4_2) (fun _ h9 => h9) dX1_begin_15 ?_
  refine lv_iload hx hb dX1_begin_18 (lv_at hl 0 rfl) ?_
  refine va_ti (v := .int (nI 13)) hx hb hz2 hS (vp_in_nI (by omega) (by decide)) (by rw [nI_clamp (by decide)]; rfl) dX1_begin_20 ?_
  refine lv_goto (tgt := 30) hx hb dX1_begin_21 (by decide) ?_
  refine lv_iload hx hb dX1_begin_30 (lv_at hl 5 rfl) ?_
  refine q_wizV (As := [.ref h, .int (nI c), .int (nI 13), .int (nI dp)]) (rest := []) (wr := []) ⟨hx, hb, hml, hown, hts⟩ (c_g13 l D cy k0 kt tf tn h kA tA eA oA w fk ft fe fo hw hv c hc trivial (by omega) dp (by omega)) (cwV 4 hts gX1_begin_X1_give rfl rfl rfl (by decide +kernel) ⟨Nat.le_of_ble_eq_true rfl, Nat.le_of_ble_eq_true rfl⟩) hP hD hS hA hK hZ [0, 1, 2, 3, 4, 5, 6] [] rfl rfl (by decide) rfl (by decide) (by decide) 0 rfl rfl rfl rfl hl.1 rfl (Nat.le_of_ble_eq_true rfl) dX1_begin_32 ⟨Nat.zero_le _, Nat.zero_le _⟩ (fun r1 u2 H locs hr1 hP hD hS => ?_)
  obtain ⟨rfl, rfl⟩ := hr1
  have hP : va_P D vwCl [(k0, .inr (1, [.ref kt, .int (nI (tn + 2))])), (kt, .inl (cy 0, 16, .inl (trP tf tn [13, 10]))), (h, .inr (2, [.int (nI (w 0)), .int (nI (w 1)), .int (nI (w 2)), .int (nI (w 4)), .int (nI (w 3)), .ref kA, .ref tA, .ref eA, .ref oA])), (kA, .inl (cy 0, 6, .inl fk)), (tA, .inl (cy 0, 6, .inl ft)), (eA, .inl (cy 0, 6, .inl fe)), (oA, .inl (cy 0, 6, .inl fo))] H := hP
  have hD : va_D A [(k0, .inr (1, [.ref kt, .int (nI (tn + 2))])), (kt, .inl (cy 0, 16, .inl (trP tf tn [13, 10]))), (h, .inr (2, [.int (nI (w 0)), .int (nI (w 1)), .int (nI (w 2)), .int (nI (w 4)), .int (nI (w 3)), .ref kA, .ref tA, .ref eA, .ref oA])), (kA, .inl (cy 0, 6, .inl fk)), (tA, .inl (cy 0, 6, .inl ft)), (eA, .inl (cy 0, 6, .inl fe)), (oA, .inl (cy 0, 6, .inl fo))] := hD
  have hP9 := hP
  have hD9 := hD
  exact q_wiret (v := nI (ctT w c) - nI 100) hx hb hr hlocks dX1_begin_35 hP9 hD9 hS (⟨rfl, rfl⟩)
theorem nb0_5_0 : ∀ w ∈ wsX20, w ∈ wsX1_begin := by decide +kernel
theorem mb0_5_1 : Cond.fieldLink RX1 24 "ClueLeave$City" "kinds" "[I" ∈ wsX1_begin := by decide +kernel
theorem mb0_5_2 : Cond.fieldLink RX1 29 "ClueLeave$Asks" "SIZES" "[I" ∈ wsX1_begin := by decide +kernel
set_option maxHeartbeats 4000000 in
set_option maxRecDepth 100000 in
theorem c_b0_5 (l : Launch) (D : va_G) (cy : Nat → ClassId) (k0 kt : Nat) (tf : Nat → Int32) (tn : Nat) (h kA tA eA oA : Nat) (w : Nat → Nat) (fk ft fe fo : Nat → Int32) (hw : ctIs w fk ft fe fo) (hv : ctOk w) (c : Nat) (hc : c < w 4) (hkd : ctK w c = 5) (htn : tn + 3 ≤ 16) (dp : Nat) (hdp : dp + 6 ≤ 10) : q_WiZ l yX1_begin wsX1_begin 8 D cy [(k0, .inr (1, [.ref kt, .int (nI tn)])), (kt, .inl (cy 0, 16, .inl tf)), (h, .inr (2, [.int (nI (w 0)), .int (nI (w 1)), .int (nI (w 2)), .int (nI (w 4)), .int (nI (w 3)), .ref kA, .ref tA, .ref eA, .ref oA])), (kA, .inl (cy 0, 6, .inl fk)), (tA, .inl (cy 0, 6, .inl ft)), (eA, .inl (cy 0, 6, .inl fe)), (oA, .inl (cy 0, 6, .inl fo))] [.ref k0, .ref h, .int (nI c), .int (nI 0), .int (nI dp)] (fun r u => r = (nI 2) * (nI (ctT w c) - nI 100) ∧ u = [(k0, .inr (1, [.ref kt, .int (nI (tn + 3))])), (kt, .inl (cy 0, 16, .inl (trP tf tn [14, 13, 10]))), (h, .inr (2, [.int (nI (w 0)), .int (nI (w 1)), .int (nI (w 2)), .int (nI (w 4)), .int (nI (w 3)), .ref kA, .ref tA, .ref eA, .ref oA])), (kA, .inl (cy 0, 6, .inl fk)), (tA, .inl (cy 0, 6, .inl ft)), (eA, .inl (cy 0, 6, .inl fe)), (oA, .inl (cy 0, 6, .inl fo))]) := by
  refine q_wiz_of (cc := cX1_begin) (maxL := 6) (ret := (some .int)) (by decide) rfl (Nat.le_of_ble_eq_true rfl) ?_
  intro pg en s mi args below meth cd A hC hA hK hZ H locs hP hD hS ls hl
  obtain ⟨hx, hb, hr, hml, hown, hts, hlocks⟩ := hC
  have hl : lv_has ls 6 [(0, .ref k0), (1, .ref h), (2, .int (nI c)), (3, .int (nI 0)), (4, .int (nI dp))] := hl
  obtain ⟨hv0, hv1, hv2, hv3, hv4, hvc⟩ := id hv
  obtain ⟨⟨t1, hz1, hz2⟩, ⟨t2, hz3, hz4⟩⟩ := id hZ
  refine lv_aload_n hx hb dX1_begin_0 rfl (lv_at hl 1 rfl) ?_
  refine va_get (D := D) (ci := 2) (v := .ref kA) (C := RX2) (T := TX2) (N := 9) hx hb hts nb0_5_0 hown hK.1 hP 2 rfl rfl 5 (by decide) (hts _ mb0_5_1) (fun _ h9 => h9) rfl dX1_begin_1 ?_
  refine lv_iload_n hx hb dX1_begin_4 rfl (lv_at hl 2 rfl) ?_
  refine q_iald (j := c) (v := nI (ctK w c)) hx hb hK hP 3 rfl (by omega) (by decide) (ctIs_0 hw (by omega)) dX1_begin_5 ?_
  refine q_top (y := nI 5) (congrArg nI hkd) ?_
  refine lv_istore (lv' := [(5, .int (nI 5)), (0, .ref k0), (1, .ref h), (2, .int (nI c)), (3, .int (nI 0)), (4, .int (nI dp))]) hx hb dX1_begin_6 hl (by decide) rfl (fun ls hl => ?_)
  refine lv_aload_n hx hb dX1_begin_8 rfl (lv_at hl 1 rfl) ?_
  refine lv_aload_n hx hb dX1_begin_9 rfl (lv_at hl 2 rfl) ?_
  refine lv_iload_n hx hb dX1_begin_10 rfl (lv_at hl 3 rfl) ?_
  refine lv_iload_n hx hb dX1_begin_11 rfl (lv_at hl 4 rfl) ?_
  refine lv_if_ne (tgt := 24) hx hb dX1_begin_12 (by decide) (fun c9 => absurd (by decide) c9) (fun _ => ?_)
  refine va_gets (v := .ref t1) hx hb hz1 hS hown (hts _ mb0_5_2) (fun _ h9 => h9) dX1_begin_15 ?_
  refine lv_iload hx hb dX1_begin_18 (lv_at hl 0 rfl) ?_
  refine va_ti (v := .int (nI 14)) hx hb hz2 hS (vp_in_nI (by omega) (by decide)) (by rw [nI_clamp (by decide)]; rfl) dX1_begin_20 ?_
  refine lv_goto (tgt := 30) hx hb dX1_begin_21 (by decide) ?_
  refine lv_iload hx hb dX1_begin_30 (lv_at hl 5 rfl) ?_
  refine q_wizV (As := [.ref h, .int (nI c), .int (nI 14), .int (nI dp)]) (rest := []) (wr := []) ⟨hx, hb, hml, hown, hts⟩ (c_g14 l D cy k0 kt tf tn h kA tA eA oA w fk ft fe fo hw hv c hc trivial (by omega) dp (by omega)) (cwV 4 hts gX1_begin_X1_give rfl rfl rfl (by decide +kernel) ⟨Nat.le_of_ble_eq_true rfl, Nat.le_of_ble_eq_true rfl⟩) hP hD hS hA hK hZ [0, 1, 2, 3, 4, 5, 6] [] rfl rfl (by decide) rfl (by decide) (by decide) 0 rfl rfl rfl rfl hl.1 rfl (Nat.le_of_ble_eq_true rfl) dX1_begin_32 ⟨Nat.zero_le _, Nat.zero_le _⟩ (fun r1 u2 H locs hr1 hP hD hS => ?_)
  obtain ⟨rfl, rfl⟩ := hr1
  have hP : va_P D vwCl [(k0, .inr (1, [.ref kt, .int (nI (tn + 3))])), (kt, .inl (cy 0, 16, .inl (trP tf tn [14, 13, 10]))), (h, .inr (2, [.int (nI (w 0)), .int (nI (w 1)), .int (nI (w 2)), .int (nI (w 4)), .int (nI (w 3)), .ref kA, .ref tA, .ref eA, .ref oA])), (kA, .inl (cy 0, 6, .inl fk)), (tA, .inl (cy 0, 6, .inl ft)), (eA, .inl (cy 0, 6, .inl fe)), (oA, .inl (cy 0, 6, .inl fo))] H := hP
  have hD : va_D A [(k0, .inr (1, [.ref kt, .int (nI (tn + 3))])), (kt, .inl (cy 0, 16, .inl (trP tf tn [14, 13, 10]))), (h, .inr (2, [.int (nI (w 0)), .int (nI (w 1)), .int (nI (w 2)), .int (nI (w 4)), .int (nI (w 3)), .ref kA, .ref tA, .ref eA, .ref oA])), (kA, .inl (cy 0, 6, .inl fk)), (tA, .inl (cy 0, 6, .inl ft)), (eA, .inl (cy 0, 6, .inl fe)), (oA, .inl (cy 0, 6, .inl fo))] := hD
  have hP9 := hP
  have hD9 := hD
  exact q_wiret (v := (nI 2) * (nI (ctT w c) - nI 100)) hx hb hr hlocks dX1_begin_35 hP9 hD9 hS (⟨rfl, rfl⟩)
set_option maxHeartbeats 4000000 in
set_option maxRecDepth 100000 in
theorem c_g23_4 (l : Launch) (D : va_G) (cy : Nat → ClassId) (k0 kt : Nat) (tf : Nat → Int32) (tn : Nat) (h kA tA eA oA : Nat) (w : Nat → Nat) (fk ft fe fo : Nat → Int32) (hw : ctIs w fk ft fe fo) (hv : ctOk w) (c : Nat) (hc : c < w 4) (hkd : ctK w c = 4) (htn : tn + 4 ≤ 16) (dp : Nat) (hdp : dp + 7 ≤ 10) : q_WiZ l yX1_give wsX1_give 9 D cy [(k0, .inr (1, [.ref kt, .int (nI tn)])), (kt, .inl (cy 0, 16, .inl tf)), (h, .inr (2, [.int (nI (w 0)), .int (nI (w 1)), .int (nI (w 2)), .int (nI (w 4)), .int (nI (w 3)), .ref kA, .ref tA, .ref eA, .ref oA])), (kA, .inl (cy 0, 6, .inl fk)), (tA, .inl (cy 0, 6, .inl ft)), (eA, .inl (cy 0, 6, .inl fe)), (oA, .inl (cy 0, 6, .inl fo))] [.ref k0, .ref h, .int (nI c), .int (nI 23), .int (nI dp)] (fun r u => r = (nI c) - (nI (ctT w c) - nI 100) ∧ u = [(k0, .inr (1, [.ref kt, .int (nI (tn + 4))])), (kt, .inl (cy 0, 16, .inl (trP tf tn [23, 20, 13, 10]))), (h, .inr (2, [.int (nI (w 0)), .int (nI (w 1)), .int (nI (w 2)), .int (nI (w 4)), .int (nI (w 3)), .ref kA, .ref tA, .ref eA, .ref oA])), (kA, .inl (cy 0, 6, .inl fk)), (tA, .inl (cy 0, 6, .inl ft)), (eA, .inl (cy 0, 6, .inl fe)), (oA, .inl (cy 0, 6, .inl fo))]) := by
  refine q_wiz_of (cc := cX1_give) (maxL := 6) (ret := (some .int)) (by decide) rfl (Nat.le_of_ble_eq_true rfl) ?_
  intro pg en s mi args below meth cd A hC hA hK hZ H locs hP hD hS ls hl
  obtain ⟨hx, hb, hr, hml, hown, hts, hlocks⟩ := hC
  have hl : lv_has ls 6 [(0, .ref k0), (1, .ref h), (2, .int (nI c)), (3, .int (nI 23)), (4, .int (nI dp))] := hl
  obtain ⟨hv0, hv1, hv2, hv3, hv4, hvc⟩ := id hv
  obtain ⟨hk1, hk5, ht1, ht2, he2, he4, ho1⟩ := hvc c hc
  refine lv_iload hx hb dX1_give_0 (lv_at hl 4 rfl) ?_
  refine lv_bipush (v := nI 10) hx hb dX1_give_2 (by decide) ?_
  refine q_icmp_le (tgt := 9) hx hb dX1_give_4 (by decide) (by omega) (by decide) (fun c1 => ?_) (fun c1 => absurd c1 (by omega))
  refine lv_aload_n hx hb dX1_give_9 rfl (lv_at hl 0 rfl) ?_
  refine lv_iload_n hx hb dX1_give_10 rfl (lv_at hl 3 rfl) ?_
  refine q_wvV (As := [.int (nI 23)]) (rest := []) (wr := [(h, .inr (2, [.int (nI (w 0)), .int (nI (w 1)), .int (nI (w 2)), .int (nI (w 4)), .int (nI (w 3)), .ref kA, .ref tA, .ref eA, .ref oA])), (kA, .inl (cy 0, 6, .inl fk)), (tA, .inl (cy 0, 6, .inl ft)), (eA, .inl (cy 0, 6, .inl fe)), (oA, .inl (cy 0, 6, .inl fo))]) ⟨hx, hb, hml, hown, hts⟩ (c_X1_leave l D cy k0 kt tf tn (by omega) 23) (cwV 1 hts gX1_give_X1_leave rfl rfl rfl (by decide +kernel) ⟨Nat.le_of_ble_eq_true rfl, Nat.le_of_ble_eq_true rfl⟩) hP hD hS hA hK [0, 1] [2, 3, 4, 5, 6] rfl rfl (by decide) rfl (by decide) (by decide) 0 rfl rfl rfl rfl hl.1 rfl (Nat.le_of_ble_eq_true rfl) dX1_give_11 ⟨Nat.zero_le _, Nat.zero_le _⟩ (fun u3 H locs hr2 hP hD hS => ?_)
  obtain rfl := hr2
  have hP : va_P D vwCl [(h, .inr (2, [.int (nI (w 0)), .int (nI (w 1)), .int (nI (w 2)), .int (nI (w 4)), .int (nI (w 3)), .ref kA, .ref tA, .ref eA, .ref oA])), (kA, .inl (cy 0, 6, .inl fk)), (tA, .inl (cy 0, 6, .inl ft)), (eA, .inl (cy 0, 6, .inl fe)), (oA, .inl (cy 0, 6, .inl fo)), (k0, .inr (1, [.ref kt, .int (nI (tn + 1))])), (kt, .inl (cy 0, 16, .inl (upd tf tn (nI 23))))] H := hP
  have hD : va_D A [(h, .inr (2, [.int (nI (w 0)), .int (nI (w 1)), .int (nI (w 2)), .int (nI (w 4)), .int (nI (w 3)), .ref kA, .ref tA, .ref eA, .ref oA])), (kA, .inl (cy 0, 6, .inl fk)), (tA, .inl (cy 0, 6, .inl ft)), (eA, .inl (cy 0, 6, .inl fe)), (oA, .inl (cy 0, 6, .inl fo)), (k0, .inr (1, [.ref kt, .int (nI (tn + 1))])), (kt, .inl (cy 0, 16, .inl (upd tf tn (nI 23))))] := hD
  refine lv_iload hx hb dX1_give_14 (lv_at hl 4 rfl) ?_
  refine lv_iconst (v := nI 1) hx hb dX1_give_16 (by decide) ?_
  refine lv_iadd hx hb dX1_give_17 ?_
  refine q_top (y := nI (dp + 1)) (nI_add _ _) ?_
  refine lv_istore (lv' := [(5, .int (nI (dp + 1))), (0, .ref k0), (1, .ref h), (2, .int (nI c)), (3, .int (nI 23)), (4, .int (nI dp))]) hx hb dX1_give_18 hl (by decide) rfl (fun ls hl => ?_)
  refine lv_iload_n hx hb dX1_give_20 rfl (lv_at hl 4 rfl) ?_
  refine lv_tableIn (off := 177) (tgt := 198) hx hb dX1_give_21 (by decide) (by decide) (by decide) (by decide) ?_
  refine lv_aload_n hx hb dX1_give_198 rfl (lv_at hl 1 rfl) ?_
  refine lv_aload_n hx hb dX1_give_199 rfl (lv_at hl 2 rfl) ?_
  refine lv_iload_n hx hb dX1_give_200 rfl (lv_at hl 3 rfl) ?_
  refine lv_bipush (v := nI 20) hx hb dX1_give_201 (by decide) ?_
  refine lv_iload hx hb dX1_give_203 (lv_at hl 0 rfl) ?_
  refine q_wizV (As := [.ref h, .int (nI c), .int (nI 20), .int (nI (dp + 1))]) (rest := []) (wr := []) ⟨hx, hb, hml, hown, hts⟩ (c_g20 l D cy k0 kt (upd tf tn (nI 23)) (tn + 1) h kA tA eA oA w fk ft fe fo hw hv c hc trivial (by omega) (dp + 1) (by omega)) (cwV 4 hts gX1_give_X1_give rfl rfl rfl (by decide +kernel) ⟨Nat.le_of_ble_eq_true rfl, Nat.le_of_ble_eq_true rfl⟩) hP hD hS hA hK hZ [5, 6, 0, 1, 2, 3, 4] [] rfl rfl (by decide) rfl (by decide) (by decide) 5 rfl rfl rfl rfl hl.1 rfl (Nat.le_of_ble_eq_true rfl) dX1_give_205 ⟨Nat.zero_le _, Nat.zero_le _⟩ (fun r4 u5 H locs hr4 hP hD hS => ?_)
  obtain ⟨rfl, rfl⟩ := hr4
  have hP : va_P D vwCl [(k0, .inr (1, [.ref kt, .int (nI ((tn + 1) + 1))])), (kt, .inl (cy 0, 16, .inl (trP (upd tf tn (nI 23)) (tn + 1) [20]))), (h, .inr (2, [.int (nI (w 0)), .int (nI (w 1)), .int (nI (w 2)), .int (nI (w 4)), .int (nI (w 3)), .ref kA, .ref tA, .ref eA, .ref oA])), (kA, .inl (cy 0, 6, .inl fk)), (tA, .inl (cy 0, 6, .inl ft)), (eA, .inl (cy 0, 6, .inl fe)), (oA, .inl (cy 0, 6, .inl fo))] H := hP
  have hD : va_D A [(k0, .inr (1, [.ref kt, .int (nI ((tn + 1) + 1))])), (kt, .inl (cy 0, 16, .inl (trP (upd tf tn (nI 23)) (tn + 1) [20]))), (h, .inr (2, [.int (nI (w 0)), .int (nI (w 1)), .int (nI (w 2)), .int (nI (w 4)), .int (nI (w 3)), .ref kA, .ref tA, .ref eA, .ref oA])), (kA, .inl (cy 0, 6, .inl fk)), (tA, .inl (cy 0, 6, .inl ft)), (eA, .inl (cy 0, 6, .inl fe)), (oA, .inl (cy 0, 6, .inl fo))] := hD
  refine lv_aload_n hx hb dX1_give_208 rfl (lv_at hl 1 rfl) ?_
  refine lv_aload_n hx hb dX1_give_209 rfl (lv_at hl 2 rfl) ?_
  refine lv_iload_n hx hb dX1_give_210 rfl (lv_at hl 3 rfl) ?_
  refine lv_iconst (v := nI 0) hx hb dX1_give_211 (by decide) ?_
  refine lv_iload hx hb dX1_give_212 (lv_at hl 0 rfl) ?_
  refine q_wizV (As := [.ref h, .int (nI c), .int (nI 0), .int (nI (dp + 1))]) (rest := [.int (nI c)]) (wr := []) ⟨hx, hb, hml, hown, hts⟩ (c_b0_4 l D cy k0 kt (trP (upd tf tn (nI 23)) (tn + 1) [20]) ((tn + 1) + 1) h kA tA eA oA w fk ft fe fo hw hv c hc hkd (by omega) (dp + 1) (by omega)) (cwV 4 hts gX1_give_X1_begin rfl rfl rfl (by decide +kernel) ⟨Nat.le_of_ble_eq_true rfl, Nat.le_of_ble_eq_true rfl⟩) hP hD hS hA hK hZ [0, 1, 2, 3, 4, 5, 6] [] rfl rfl (by decide) rfl (by decide) (by decide) 0 rfl rfl rfl rfl hl.1 rfl (Nat.le_of_ble_eq_true rfl) dX1_give_214 ⟨Nat.zero_le _, Nat.zero_le _⟩ (fun r6 u7 H locs hr6 hP hD hS => ?_)
  obtain ⟨rfl, rfl⟩ := hr6
  have hP : va_P D vwCl [(k0, .inr (1, [.ref kt, .int (nI (((tn + 1) + 1) + 2))])), (kt, .inl (cy 0, 16, .inl (trP (trP (upd tf tn (nI 23)) (tn + 1) [20]) ((tn + 1) + 1) [13, 10]))), (h, .inr (2, [.int (nI (w 0)), .int (nI (w 1)), .int (nI (w 2)), .int (nI (w 4)), .int (nI (w 3)), .ref kA, .ref tA, .ref eA, .ref oA])), (kA, .inl (cy 0, 6, .inl fk)), (tA, .inl (cy 0, 6, .inl ft)), (eA, .inl (cy 0, 6, .inl fe)), (oA, .inl (cy 0, 6, .inl fo))] H := hP
  have hD : va_D A [(k0, .inr (1, [.ref kt, .int (nI (((tn + 1) + 1) + 2))])), (kt, .inl (cy 0, 16, .inl (trP (trP (upd tf tn (nI 23)) (tn + 1) [20]) ((tn + 1) + 1) [13, 10]))), (h, .inr (2, [.int (nI (w 0)), .int (nI (w 1)), .int (nI (w 2)), .int (nI (w 4)), .int (nI (w 3)), .ref kA, .ref tA, .ref eA, .ref oA])), (kA, .inl (cy 0, 6, .inl fk)), (tA, .inl (cy 0, 6, .inl ft)), (eA, .inl (cy 0, 6, .inl fe)), (oA, .inl (cy 0, 6, .inl fo))] := hD
  refine lv_isub hx hb dX1_give_217 ?_
  have hP9 := hP
  have hD9 := hD
  exact q_wiret (v := (nI c) - (nI (ctT w c) - nI 100)) hx hb hr hlocks dX1_give_218 hP9 hD9 hS (⟨rfl, rfl⟩)
theorem nb1_4_0 : ∀ w ∈ wsX20, w ∈ wsX1_begin := by decide +kernel
theorem mb1_4_1 : Cond.fieldLink RX1 24 "ClueLeave$City" "kinds" "[I" ∈ wsX1_begin := by decide +kernel
theorem mb1_4_2 : Cond.fieldLink RX1 32 "ClueLeave$Asks" "MARKS" "[I" ∈ wsX1_begin := by decide +kernel
set_option maxHeartbeats 4000000 in
set_option maxRecDepth 100000 in
theorem c_b1_4 (l : Launch) (D : va_G) (cy : Nat → ClassId) (k0 kt : Nat) (tf : Nat → Int32) (tn : Nat) (h kA tA eA oA : Nat) (w : Nat → Nat) (fk ft fe fo : Nat → Int32) (hw : ctIs w fk ft fe fo) (hv : ctOk w) (c : Nat) (hc : c < w 4) (hkd : ctK w c = 4) (htn : tn + 4 ≤ 16) (dp : Nat) (hdp : dp + 8 ≤ 10) : q_WiZ l yX1_begin wsX1_begin 10 D cy [(k0, .inr (1, [.ref kt, .int (nI tn)])), (kt, .inl (cy 0, 16, .inl tf)), (h, .inr (2, [.int (nI (w 0)), .int (nI (w 1)), .int (nI (w 2)), .int (nI (w 4)), .int (nI (w 3)), .ref kA, .ref tA, .ref eA, .ref oA])), (kA, .inl (cy 0, 6, .inl fk)), (tA, .inl (cy 0, 6, .inl ft)), (eA, .inl (cy 0, 6, .inl fe)), (oA, .inl (cy 0, 6, .inl fo))] [.ref k0, .ref h, .int (nI c), .int (nI 1), .int (nI dp)] (fun r u => r = (nI c) - (nI (ctT w c) - nI 100) ∧ u = [(k0, .inr (1, [.ref kt, .int (nI (tn + 4))])), (kt, .inl (cy 0, 16, .inl (trP tf tn [23, 20, 13, 10]))), (h, .inr (2, [.int (nI (w 0)), .int (nI (w 1)), .int (nI (w 2)), .int (nI (w 4)), .int (nI (w 3)), .ref kA, .ref tA, .ref eA, .ref oA])), (kA, .inl (cy 0, 6, .inl fk)), (tA, .inl (cy 0, 6, .inl ft)), (eA, .inl (cy 0, 6, .inl fe)), (oA, .inl (cy 0, 6, .inl fo))]) := by
  refine q_wiz_of (cc := cX1_begin) (maxL := 6) (ret := (some .int)) (by decide) rfl (Nat.le_of_ble_eq_true rfl) ?_
  intro pg en s mi args below meth cd A hC hA hK hZ H locs hP hD hS ls hl
  obtain ⟨hx, hb, hr, hml, hown, hts, hlocks⟩ := hC
  have hl : lv_has ls 6 [(0, .ref k0), (1, .ref h), (2, .int (nI c)), (3, .int (nI 1)), (4, .int (nI dp))] := hl
  obtain ⟨hv0, hv1, hv2, hv3, hv4, hvc⟩ := id hv
  obtain ⟨⟨t1, hz1, hz2⟩, ⟨t2, hz3, hz4⟩⟩ := id hZ
  refine lv_aload_n hx hb dX1_begin_0 rfl (lv_at hl 1 rfl) ?_
  refine va_get (D := D) (ci := 2) (v := .ref kA) (C := RX2) (T := TX2) (N := 9) hx hb hts nb1_4_0 hown hK.1 hP 2 rfl rfl 5 (by decide) (hts _ mb1_4_1) (fun _ h9 => h9) rfl dX1_begin_1 ?_
  refine lv_iload_n hx hb dX1_begin_4 rfl (lv_at hl 2 rfl) ?_
  refine q_iald (j := c) (v := nI (ctK w c)) hx hb hK hP 3 rfl (by omega) (by decide) (ctIs_0 hw (by omega)) dX1_begin_5 ?_
  refine q_top (y := nI 4) (congrArg nI hkd) ?_
  refine lv_istore (lv' := [(5, .int (nI 4)), (0, .ref k0), (1, .ref h), (2, .int (nI c)), (3, .int (nI 1)), (4, .int (nI dp))]) hx hb dX1_begin_6 hl (by decide) rfl (fun ls hl => ?_)
  refine lv_aload_n hx hb dX1_begin_8 rfl (lv_at hl 1 rfl) ?_
  refine lv_aload_n hx hb dX1_begin_9 rfl (lv_at hl 2 rfl) ?_
  refine lv_iload_n hx hb dX1_begin_10 rfl (lv_at hl 3 rfl) ?_
  refine lv_iload_n hx hb dX1_begin_11 rfl (lv_at hl 4 rfl) ?_
  refine lv_if_ne (tgt := 24) hx hb dX1_begin_12 (by decide) (fun _ => ?_) (fun c9 => absurd c9 (by decide))
  refine va_gets (v := .ref t2) hx hb hz3 hS hown (hts _ mb1_4_2) (fun _ h9 => h9) dX1_begin_24 ?_
  refine lv_iload hx hb dX1_begin_27 (lv_at hl 0 rfl) ?_
  refine va_ti (v := .int (nI 23)) hx hb hz4 hS (vp_in_nI (by omega) (by decide)) (by rw [nI_clamp (by decide)]; rfl) dX1_begin_29 ?_
  refine lv_iload hx hb dX1_begin_30 (lv_at hl 5 rfl) ?_
  refine q_wizV (As := [.ref h, .int (nI c), .int (nI 23), .int (nI dp)]) (rest := []) (wr := []) ⟨hx, hb, hml, hown, hts⟩ (c_g23_4 l D cy k0 kt tf tn h kA tA eA oA w fk ft fe fo hw hv c hc hkd (by omega) dp (by omega)) (cwV 4 hts gX1_begin_X1_give rfl rfl rfl (by decide +kernel) ⟨Nat.le_of_ble_eq_true rfl, Nat.le_of_ble_eq_true rfl⟩) hP hD hS hA hK hZ [0, 1, 2, 3, 4, 5, 6] [] rfl rfl (by decide) rfl (by decide) (by decide) 0 rfl rfl rfl rfl hl.1 rfl (Nat.le_of_ble_eq_true rfl) dX1_begin_32 ⟨Nat.zero_le _, Nat.zero_le _⟩ (fun r1 u2 H locs hr1 hP hD hS => ?_)
  obtain ⟨rfl, rfl⟩ := hr1
  have hP : va_P D vwCl [(k0, .inr (1, [.ref kt, .int (nI (tn + 4))])), (kt, .inl (cy 0, 16, .inl (trP tf tn [23, 20, 13, 10]))), (h, .inr (2, [.int (nI (w 0)), .int (nI (w 1)), .int (nI (w 2)), .int (nI (w 4)), .int (nI (w 3)), .ref kA, .ref tA, .ref eA, .ref oA])), (kA, .inl (cy 0, 6, .inl fk)), (tA, .inl (cy 0, 6, .inl ft)), (eA, .inl (cy 0, 6, .inl fe)), (oA, .inl (cy 0, 6, .inl fo))] H := hP
  have hD : va_D A [(k0, .inr (1, [.ref kt, .int (nI (tn + 4))])), (kt, .inl (cy 0, 16, .inl (trP tf tn [23, 20, 13, 10]))), (h, .inr (2, [.int (nI (w 0)), .int (nI (w 1)), .int (nI (w 2)), .int (nI (w 4)), .int (nI (w 3)), .ref kA, .ref tA, .ref eA, .ref oA])), (kA, .inl (cy 0, 6, .inl fk)), (tA, .inl (cy 0, 6, .inl ft)), (eA, .inl (cy 0, 6, .inl fe)), (oA, .inl (cy 0, 6, .inl fo))] := hD
  have hP9 := hP
  have hD9 := hD
  exact q_wiret (v := (nI c) - (nI (ctT w c) - nI 100)) hx hb hr hlocks dX1_begin_35 hP9 hD9 hS (⟨rfl, rfl⟩)
set_option maxHeartbeats 4000000 in
set_option maxRecDepth 100000 in
theorem c_g23_5 (l : Launch) (D : va_G) (cy : Nat → ClassId) (k0 kt : Nat) (tf : Nat → Int32) (tn : Nat) (h kA tA eA oA : Nat) (w : Nat → Nat) (fk ft fe fo : Nat → Int32) (hw : ctIs w fk ft fe fo) (hv : ctOk w) (c : Nat) (hc : c < w 4) (hkd : ctK w c = 5) (htn : tn + 5 ≤ 16) (dp : Nat) (hdp : dp + 7 ≤ 10) : q_WiZ l yX1_give wsX1_give 9 D cy [(k0, .inr (1, [.ref kt, .int (nI tn)])), (kt, .inl (cy 0, 16, .inl tf)), (h, .inr (2, [.int (nI (w 0)), .int (nI (w 1)), .int (nI (w 2)), .int (nI (w 4)), .int (nI (w 3)), .ref kA, .ref tA, .ref eA, .ref oA])), (kA, .inl (cy 0, 6, .inl fk)), (tA, .inl (cy 0, 6, .inl ft)), (eA, .inl (cy 0, 6, .inl fe)), (oA, .inl (cy 0, 6, .inl fo))] [.ref k0, .ref h, .int (nI c), .int (nI 23), .int (nI dp)] (fun r u => r = (nI c) - ((nI 2) * (nI (ctT w c) - nI 100)) ∧ u = [(k0, .inr (1, [.ref kt, .int (nI (tn + 5))])), (kt, .inl (cy 0, 16, .inl (trP tf tn [23, 20, 14, 13, 10]))), (h, .inr (2, [.int (nI (w 0)), .int (nI (w 1)), .int (nI (w 2)), .int (nI (w 4)), .int (nI (w 3)), .ref kA, .ref tA, .ref eA, .ref oA])), (kA, .inl (cy 0, 6, .inl fk)), (tA, .inl (cy 0, 6, .inl ft)), (eA, .inl (cy 0, 6, .inl fe)), (oA, .inl (cy 0, 6, .inl fo))]) := by
  refine q_wiz_of (cc := cX1_give) (maxL := 6) (ret := (some .int)) (by decide) rfl (Nat.le_of_ble_eq_true rfl) ?_
  intro pg en s mi args below meth cd A hC hA hK hZ H locs hP hD hS ls hl
  obtain ⟨hx, hb, hr, hml, hown, hts, hlocks⟩ := hC
  have hl : lv_has ls 6 [(0, .ref k0), (1, .ref h), (2, .int (nI c)), (3, .int (nI 23)), (4, .int (nI dp))] := hl
  obtain ⟨hv0, hv1, hv2, hv3, hv4, hvc⟩ := id hv
  obtain ⟨hk1, hk5, ht1, ht2, he2, he4, ho1⟩ := hvc c hc
  refine lv_iload hx hb dX1_give_0 (lv_at hl 4 rfl) ?_
  refine lv_bipush (v := nI 10) hx hb dX1_give_2 (by decide) ?_
  refine q_icmp_le (tgt := 9) hx hb dX1_give_4 (by decide) (by omega) (by decide) (fun c1 => ?_) (fun c1 => absurd c1 (by omega))
  refine lv_aload_n hx hb dX1_give_9 rfl (lv_at hl 0 rfl) ?_
  refine lv_iload_n hx hb dX1_give_10 rfl (lv_at hl 3 rfl) ?_
  refine q_wvV (As := [.int (nI 23)]) (rest := []) (wr := [(h, .inr (2, [.int (nI (w 0)), .int (nI (w 1)), .int (nI (w 2)), .int (nI (w 4)), .int (nI (w 3)), .ref kA, .ref tA, .ref eA, .ref oA])), (kA, .inl (cy 0, 6, .inl fk)), (tA, .inl (cy 0, 6, .inl ft)), (eA, .inl (cy 0, 6, .inl fe)), (oA, .inl (cy 0, 6, .inl fo))]) ⟨hx, hb, hml, hown, hts⟩ (c_X1_leave l D cy k0 kt tf tn (by omega) 23) (cwV 1 hts gX1_give_X1_leave rfl rfl rfl (by decide +kernel) ⟨Nat.le_of_ble_eq_true rfl, Nat.le_of_ble_eq_true rfl⟩) hP hD hS hA hK [0, 1] [2, 3, 4, 5, 6] rfl rfl (by decide) rfl (by decide) (by decide) 0 rfl rfl rfl rfl hl.1 rfl (Nat.le_of_ble_eq_true rfl) dX1_give_11 ⟨Nat.zero_le _, Nat.zero_le _⟩ (fun u3 H locs hr2 hP hD hS => ?_)
  obtain rfl := hr2
  have hP : va_P D vwCl [(h, .inr (2, [.int (nI (w 0)), .int (nI (w 1)), .int (nI (w 2)), .int (nI (w 4)), .int (nI (w 3)), .ref kA, .ref tA, .ref eA, .ref oA])), (kA, .inl (cy 0, 6, .inl fk)), (tA, .inl (cy 0, 6, .inl ft)), (eA, .inl (cy 0, 6, .inl fe)), (oA, .inl (cy 0, 6, .inl fo)), (k0, .inr (1, [.ref kt, .int (nI (tn + 1))])), (kt, .inl (cy 0, 16, .inl (upd tf tn (nI 23))))] H := hP
  have hD : va_D A [(h, .inr (2, [.int (nI (w 0)), .int (nI (w 1)), .int (nI (w 2)), .int (nI (w 4)), .int (nI (w 3)), .ref kA, .ref tA, .ref eA, .ref oA])), (kA, .inl (cy 0, 6, .inl fk)), (tA, .inl (cy 0, 6, .inl ft)), (eA, .inl (cy 0, 6, .inl fe)), (oA, .inl (cy 0, 6, .inl fo)), (k0, .inr (1, [.ref kt, .int (nI (tn + 1))])), (kt, .inl (cy 0, 16, .inl (upd tf tn (nI 23))))] := hD
  refine lv_iload hx hb dX1_give_14 (lv_at hl 4 rfl) ?_
  refine lv_iconst (v := nI 1) hx hb dX1_give_16 (by decide) ?_
  refine lv_iadd hx hb dX1_give_17 ?_
  refine q_top (y := nI (dp + 1)) (nI_add _ _) ?_
  refine lv_istore (lv' := [(5, .int (nI (dp + 1))), (0, .ref k0), (1, .ref h), (2, .int (nI c)), (3, .int (nI 23)), (4, .int (nI dp))]) hx hb dX1_give_18 hl (by decide) rfl (fun ls hl => ?_)
  refine lv_iload_n hx hb dX1_give_20 rfl (lv_at hl 4 rfl) ?_
  refine lv_tableIn (off := 177) (tgt := 198) hx hb dX1_give_21 (by decide) (by decide) (by decide) (by decide) ?_
  refine lv_aload_n hx hb dX1_give_198 rfl (lv_at hl 1 rfl) ?_
  refine lv_aload_n hx hb dX1_give_199 rfl (lv_at hl 2 rfl) ?_
  refine lv_iload_n hx hb dX1_give_200 rfl (lv_at hl 3 rfl) ?_
  refine lv_bipush (v := nI 20) hx hb dX1_give_201 (by decide) ?_
  refine lv_iload hx hb dX1_give_203 (lv_at hl 0 rfl) ?_
  refine q_wizV (As := [.ref h, .int (nI c), .int (nI 20), .int (nI (dp + 1))]) (rest := []) (wr := []) ⟨hx, hb, hml, hown, hts⟩ (c_g20 l D cy k0 kt (upd tf tn (nI 23)) (tn + 1) h kA tA eA oA w fk ft fe fo hw hv c hc trivial (by omega) (dp + 1) (by omega)) (cwV 4 hts gX1_give_X1_give rfl rfl rfl (by decide +kernel) ⟨Nat.le_of_ble_eq_true rfl, Nat.le_of_ble_eq_true rfl⟩) hP hD hS hA hK hZ [5, 6, 0, 1, 2, 3, 4] [] rfl rfl (by decide) rfl (by decide) (by decide) 5 rfl rfl rfl rfl hl.1 rfl (Nat.le_of_ble_eq_true rfl) dX1_give_205 ⟨Nat.zero_le _, Nat.zero_le _⟩ (fun r4 u5 H locs hr4 hP hD hS => ?_)
  obtain ⟨rfl, rfl⟩ := hr4
  have hP : va_P D vwCl [(k0, .inr (1, [.ref kt, .int (nI ((tn + 1) + 1))])), (kt, .inl (cy 0, 16, .inl (trP (upd tf tn (nI 23)) (tn + 1) [20]))), (h, .inr (2, [.int (nI (w 0)), .int (nI (w 1)), .int (nI (w 2)), .int (nI (w 4)), .int (nI (w 3)), .ref kA, .ref tA, .ref eA, .ref oA])), (kA, .inl (cy 0, 6, .inl fk)), (tA, .inl (cy 0, 6, .inl ft)), (eA, .inl (cy 0, 6, .inl fe)), (oA, .inl (cy 0, 6, .inl fo))] H := hP
  have hD : va_D A [(k0, .inr (1, [.ref kt, .int (nI ((tn + 1) + 1))])), (kt, .inl (cy 0, 16, .inl (trP (upd tf tn (nI 23)) (tn + 1) [20]))), (h, .inr (2, [.int (nI (w 0)), .int (nI (w 1)), .int (nI (w 2)), .int (nI (w 4)), .int (nI (w 3)), .ref kA, .ref tA, .ref eA, .ref oA])), (kA, .inl (cy 0, 6, .inl fk)), (tA, .inl (cy 0, 6, .inl ft)), (eA, .inl (cy 0, 6, .inl fe)), (oA, .inl (cy 0, 6, .inl fo))] := hD
  refine lv_aload_n hx hb dX1_give_208 rfl (lv_at hl 1 rfl) ?_
  refine lv_aload_n hx hb dX1_give_209 rfl (lv_at hl 2 rfl) ?_
  refine lv_iload_n hx hb dX1_give_210 rfl (lv_at hl 3 rfl) ?_
  refine lv_iconst (v := nI 0) hx hb dX1_give_211 (by decide) ?_
  refine lv_iload hx hb dX1_give_212 (lv_at hl 0 rfl) ?_
  refine q_wizV (As := [.ref h, .int (nI c), .int (nI 0), .int (nI (dp + 1))]) (rest := [.int (nI c)]) (wr := []) ⟨hx, hb, hml, hown, hts⟩ (c_b0_5 l D cy k0 kt (trP (upd tf tn (nI 23)) (tn + 1) [20]) ((tn + 1) + 1) h kA tA eA oA w fk ft fe fo hw hv c hc hkd (by omega) (dp + 1) (by omega)) (cwV 4 hts gX1_give_X1_begin rfl rfl rfl (by decide +kernel) ⟨Nat.le_of_ble_eq_true rfl, Nat.le_of_ble_eq_true rfl⟩) hP hD hS hA hK hZ [0, 1, 2, 3, 4, 5, 6] [] rfl rfl (by decide) rfl (by decide) (by decide) 0 rfl rfl rfl rfl hl.1 rfl (Nat.le_of_ble_eq_true rfl) dX1_give_214 ⟨Nat.zero_le _, Nat.zero_le _⟩ (fun r6 u7 H locs hr6 hP hD hS => ?_)
  obtain ⟨rfl, rfl⟩ := hr6
  have hP : va_P D vwCl [(k0, .inr (1, [.ref kt, .int (nI (((tn + 1) + 1) + 3))])), (kt, .inl (cy 0, 16, .inl (trP (trP (upd tf tn (nI 23)) (tn + 1) [20]) ((tn + 1) + 1) [14, 13, 10]))), (h, .inr (2, [.int (nI (w 0)), .int (nI (w 1)), .int (nI (w 2)), .int (nI (w 4)), .int (nI (w 3)), .ref kA, .ref tA, .ref eA, .ref oA])), (kA, .inl (cy 0, 6, .inl fk)), (tA, .inl (cy 0, 6, .inl ft)), (eA, .inl (cy 0, 6, .inl fe)), (oA, .inl (cy 0, 6, .inl fo))] H := hP
  have hD : va_D A [(k0, .inr (1, [.ref kt, .int (nI (((tn + 1) + 1) + 3))])), (kt, .inl (cy 0, 16, .inl (trP (trP (upd tf tn (nI 23)) (tn + 1) [20]) ((tn + 1) + 1) [14, 13, 10]))), (h, .inr (2, [.int (nI (w 0)), .int (nI (w 1)), .int (nI (w 2)), .int (nI (w 4)), .int (nI (w 3)), .ref kA, .ref tA, .ref eA, .ref oA])), (kA, .inl (cy 0, 6, .inl fk)), (tA, .inl (cy 0, 6, .inl ft)), (eA, .inl (cy 0, 6, .inl fe)), (oA, .inl (cy 0, 6, .inl fo))] := hD
  refine lv_isub hx hb dX1_give_217 ?_
  have hP9 := hP
  have hD9 := hD
  exact q_wiret (v := (nI c) - ((nI 2) * (nI (ctT w c) - nI 100))) hx hb hr hlocks dX1_give_218 hP9 hD9 hS (⟨rfl, rfl⟩)
theorem nb1_5_0 : ∀ w ∈ wsX20, w ∈ wsX1_begin := by decide +kernel
theorem mb1_5_1 : Cond.fieldLink RX1 24 "ClueLeave$City" "kinds" "[I" ∈ wsX1_begin := by decide +kernel
theorem mb1_5_2 : Cond.fieldLink RX1 32 "ClueLeave$Asks" "MARKS" "[I" ∈ wsX1_begin := by decide +kernel
set_option maxHeartbeats 4000000 in
set_option maxRecDepth 100000 in
theorem c_b1_5 (l : Launch) (D : va_G) (cy : Nat → ClassId) (k0 kt : Nat) (tf : Nat → Int32) (tn : Nat) (h kA tA eA oA : Nat) (w : Nat → Nat) (fk ft fe fo : Nat → Int32) (hw : ctIs w fk ft fe fo) (hv : ctOk w) (c : Nat) (hc : c < w 4) (hkd : ctK w c = 5) (htn : tn + 5 ≤ 16) (dp : Nat) (hdp : dp + 8 ≤ 10) : q_WiZ l yX1_begin wsX1_begin 10 D cy [(k0, .inr (1, [.ref kt, .int (nI tn)])), (kt, .inl (cy 0, 16, .inl tf)), (h, .inr (2, [.int (nI (w 0)), .int (nI (w 1)), .int (nI (w 2)), .int (nI (w 4)), .int (nI (w 3)), .ref kA, .ref tA, .ref eA, .ref oA])), (kA, .inl (cy 0, 6, .inl fk)), (tA, .inl (cy 0, 6, .inl ft)), (eA, .inl (cy 0, 6, .inl fe)), (oA, .inl (cy 0, 6, .inl fo))] [.ref k0, .ref h, .int (nI c), .int (nI 1), .int (nI dp)] (fun r u => r = (nI c) - ((nI 2) * (nI (ctT w c) - nI 100)) ∧ u = [(k0, .inr (1, [.ref kt, .int (nI (tn + 5))])), (kt, .inl (cy 0, 16, .inl (trP tf tn [23, 20, 14, 13, 10]))), (h, .inr (2, [.int (nI (w 0)), .int (nI (w 1)), .int (nI (w 2)), .int (nI (w 4)), .int (nI (w 3)), .ref kA, .ref tA, .ref eA, .ref oA])), (kA, .inl (cy 0, 6, .inl fk)), (tA, .inl (cy 0, 6, .inl ft)), (eA, .inl (cy 0, 6, .inl fe)), (oA, .inl (cy 0, 6, .inl fo))]) := by
  refine q_wiz_of (cc := cX1_begin) (maxL := 6) (ret := (some .int)) (by decide) rfl (Nat.le_of_ble_eq_true rfl) ?_
  intro pg en s mi args below meth cd A hC hA hK hZ H locs hP hD hS ls hl
  obtain ⟨hx, hb, hr, hml, hown, hts, hlocks⟩ := hC
  have hl : lv_has ls 6 [(0, .ref k0), (1, .ref h), (2, .int (nI c)), (3, .int (nI 1)), (4, .int (nI dp))] := hl
  obtain ⟨hv0, hv1, hv2, hv3, hv4, hvc⟩ := id hv
  obtain ⟨⟨t1, hz1, hz2⟩, ⟨t2, hz3, hz4⟩⟩ := id hZ
  refine lv_aload_n hx hb dX1_begin_0 rfl (lv_at hl 1 rfl) ?_
  refine va_get (D := D) (ci := 2) (v := .ref kA) (C := RX2) (T := TX2) (N := 9) hx hb hts nb1_5_0 hown hK.1 hP 2 rfl rfl 5 (by decide) (hts _ mb1_5_1) (fun _ h9 => h9) rfl dX1_begin_1 ?_
  refine lv_iload_n hx hb dX1_begin_4 rfl (lv_at hl 2 rfl) ?_
  refine q_iald (j := c) (v := nI (ctK w c)) hx hb hK hP 3 rfl (by omega) (by decide) (ctIs_0 hw (by omega)) dX1_begin_5 ?_
  refine q_top (y := nI 5) (congrArg nI hkd) ?_
  refine lv_istore (lv' := [(5, .int (nI 5)), (0, .ref k0), (1, .ref h), (2, .int (nI c)), (3, .int (nI 1)), (4, .int (nI dp))]) hx hb dX1_begin_6 hl (by decide) rfl (fun ls hl => ?_)
  refine lv_aload_n hx hb dX1_begin_8 rfl (lv_at hl 1 rfl) ?_
  refine lv_aload_n hx hb dX1_begin_9 rfl (lv_at hl 2 rfl) ?_
  refine lv_iload_n hx hb dX1_begin_10 rfl (lv_at hl 3 rfl) ?_
  refine lv_iload_n hx hb dX1_begin_11 rfl (lv_at hl 4 rfl) ?_
  refine lv_if_ne (tgt := 24) hx hb dX1_begin_12 (by decide) (fun _ => ?_) (fun c9 => absurd c9 (by decide))
  refine va_gets (v := .ref t2) hx hb hz3 hS hown (hts _ mb1_5_2) (fun _ h9 => h9) dX1_begin_24 ?_
  refine lv_iload hx hb dX1_begin_27 (lv_at hl 0 rfl) ?_
  refine va_ti (v := .int (nI 23)) hx hb hz4 hS (vp_in_nI (by omega) (by decide)) (by rw [nI_clamp (by decide)]; rfl) dX1_begin_29 ?_
  refine lv_iload hx hb dX1_begin_30 (lv_at hl 5 rfl) ?_
  refine q_wizV (As := [.ref h, .int (nI c), .int (nI 23), .int (nI dp)]) (rest := []) (wr := []) ⟨hx, hb, hml, hown, hts⟩ (c_g23_5 l D cy k0 kt tf tn h kA tA eA oA w fk ft fe fo hw hv c hc hkd (by omega) dp (by omega)) (cwV 4 hts gX1_begin_X1_give rfl rfl rfl (by decide +kernel) ⟨Nat.le_of_ble_eq_true rfl, Nat.le_of_ble_eq_true rfl⟩) hP hD hS hA hK hZ [0, 1, 2, 3, 4, 5, 6] [] rfl rfl (by decide) rfl (by decide) (by decide) 0 rfl rfl rfl rfl hl.1 rfl (Nat.le_of_ble_eq_true rfl) dX1_begin_32 ⟨Nat.zero_le _, Nat.zero_le _⟩ (fun r1 u2 H locs hr1 hP hD hS => ?_)
  obtain ⟨rfl, rfl⟩ := hr1
  have hP : va_P D vwCl [(k0, .inr (1, [.ref kt, .int (nI (tn + 5))])), (kt, .inl (cy 0, 16, .inl (trP tf tn [23, 20, 14, 13, 10]))), (h, .inr (2, [.int (nI (w 0)), .int (nI (w 1)), .int (nI (w 2)), .int (nI (w 4)), .int (nI (w 3)), .ref kA, .ref tA, .ref eA, .ref oA])), (kA, .inl (cy 0, 6, .inl fk)), (tA, .inl (cy 0, 6, .inl ft)), (eA, .inl (cy 0, 6, .inl fe)), (oA, .inl (cy 0, 6, .inl fo))] H := hP
  have hD : va_D A [(k0, .inr (1, [.ref kt, .int (nI (tn + 5))])), (kt, .inl (cy 0, 16, .inl (trP tf tn [23, 20, 14, 13, 10]))), (h, .inr (2, [.int (nI (w 0)), .int (nI (w 1)), .int (nI (w 2)), .int (nI (w 4)), .int (nI (w 3)), .ref kA, .ref tA, .ref eA, .ref oA])), (kA, .inl (cy 0, 6, .inl fk)), (tA, .inl (cy 0, 6, .inl ft)), (eA, .inl (cy 0, 6, .inl fe)), (oA, .inl (cy 0, 6, .inl fo))] := hD
  have hP9 := hP
  have hD9 := hD
  exact q_wiret (v := (nI c) - ((nI 2) * (nI (ctT w c) - nI 100))) hx hb hr hlocks dX1_begin_35 hP9 hD9 hS (⟨rfl, rfl⟩)
theorem nans_0_1_0 : ∀ w ∈ wsX10, w ∈ wsX1_answer := by decide +kernel
theorem mans_0_1_1 : Cond.fieldLink RX1 15 "ClueLeave$Asks" "traced" "I" ∈ wsX1_answer := by decide +kernel
set_option maxHeartbeats 4000000 in
set_option maxRecDepth 100000 in
theorem c_ans_0_1 (l : Launch) (D : va_G) (cy : Nat → ClassId) (k0 kt : Nat) (tf : Nat → Int32) (tn : Nat) (h kA tA eA oA : Nat) (w : Nat → Nat) (fk ft fe fo : Nat → Int32) (hw : ctIs w fk ft fe fo) (hv : ctOk w) (c : Nat) (hc : c < w 4) (hkd : ctK w c = 1) : q_WiZ l yX1_answer wsX1_answer 11 D cy [(k0, .inr (1, [.ref kt, .int (nI tn)])), (kt, .inl (cy 0, 16, .inl tf)), (h, .inr (2, [.int (nI (w 0)), .int (nI (w 1)), .int (nI (w 2)), .int (nI (w 4)), .int (nI (w 3)), .ref kA, .ref tA, .ref eA, .ref oA])), (kA, .inl (cy 0, 6, .inl fk)), (tA, .inl (cy 0, 6, .inl ft)), (eA, .inl (cy 0, 6, .inl fe)), (oA, .inl (cy 0, 6, .inl fo))] [.ref k0, .ref h, .int (nI c), .int (nI 0)] (fun r u => r = nI (ctT w c + (c + ctO w c)) ∧ u = [(k0, .inr (1, [.ref kt, .int (nI (0 + 4))])), (kt, .inl (cy 0, 16, .inl (trP tf 0 [11, 10, 21, 20]))), (h, .inr (2, [.int (nI (w 0)), .int (nI (w 1)), .int (nI (w 2)), .int (nI (w 4)), .int (nI (w 3)), .ref kA, .ref tA, .ref eA, .ref oA])), (kA, .inl (cy 0, 6, .inl fk)), (tA, .inl (cy 0, 6, .inl ft)), (eA, .inl (cy 0, 6, .inl fe)), (oA, .inl (cy 0, 6, .inl fo))]) := by
  refine q_wiz_of (cc := cX1_answer) (maxL := 4) (ret := (some .int)) (by decide) rfl (Nat.le_of_ble_eq_true rfl) ?_
  intro pg en s mi args below meth cd A hC hA hK hZ H locs hP hD hS ls hl
  obtain ⟨hx, hb, hr, hml, hown, hts, hlocks⟩ := hC
  have hl : lv_has ls 4 [(0, .ref k0), (1, .ref h), (2, .int (nI c)), (3, .int (nI 0))] := hl
  refine lv_aload_n hx hb dX1_answer_0 rfl (lv_at hl 0 rfl) ?_
  refine lv_iconst (v := nI 0) hx hb dX1_answer_1 (by decide) ?_
  refine va_put (D := D) (ci := 1) (v := .int (nI 0)) (ty := .int) (C := RX1) (T := TX1) (N := 2) hx hb hts nans_0_1_0 tyX1 tyX1_ok nmX1 hown hK.1 hP hD hS 0 rfl rfl 1 (by decide) (hts _ mans_0_1_1) (fun _ h9 => h9) rfl (by decide +kernel) rfl rfl (Nat.le_of_ble_eq_true rfl) dX1_answer_2 (fun H locs hP hD hS => ?_)
  have hP : va_P D vwCl [(k0, .inr (1, [.ref kt, .int (nI 0)])), (kt, .inl (cy 0, 16, .inl tf)), (h, .inr (2, [.int (nI (w 0)), .int (nI (w 1)), .int (nI (w 2)), .int (nI (w 4)), .int (nI (w 3)), .ref kA, .ref tA, .ref eA, .ref oA])), (kA, .inl (cy 0, 6, .inl fk)), (tA, .inl (cy 0, 6, .inl ft)), (eA, .inl (cy 0, 6, .inl fe)), (oA, .inl (cy 0, 6, .inl fo))] H := hP
  have hD : va_D A [(k0, .inr (1, [.ref kt, .int (nI 0)])), (kt, .inl (cy 0, 16, .inl tf)), (h, .inr (2, [.int (nI (w 0)), .int (nI (w 1)), .int (nI (w 2)), .int (nI (w 4)), .int (nI (w 3)), .ref kA, .ref tA, .ref eA, .ref oA])), (kA, .inl (cy 0, 6, .inl fk)), (tA, .inl (cy 0, 6, .inl ft)), (eA, .inl (cy 0, 6, .inl fe)), (oA, .inl (cy 0, 6, .inl fo))] := hD
  refine lv_aload_n hx hb dX1_answer_5 rfl (lv_at hl 0 rfl) ?_
  refine lv_aload_n hx hb dX1_answer_6 rfl (lv_at hl 1 rfl) ?_
  refine lv_iload_n hx hb dX1_answer_7 rfl (lv_at hl 2 rfl) ?_
  refine lv_iload_n hx hb dX1_answer_8 rfl (lv_at hl 3 rfl) ?_
  refine lv_iconst (v := nI 0) hx hb dX1_answer_9 (by decide) ?_
  refine q_wizV (As := [.ref h, .int (nI c), .int (nI 0), .int (nI 0)]) (rest := []) (wr := []) ⟨hx, hb, hml, hown, hts⟩ (c_b0_1 l D cy k0 kt tf 0 h kA tA eA oA w fk ft fe fo hw hv c hc hkd (by omega) 0 (by omega)) (cwV 4 hts gX1_answer_X1_begin rfl rfl rfl (by decide +kernel) ⟨Nat.le_of_ble_eq_true rfl, Nat.le_of_ble_eq_true rfl⟩) hP hD hS hA hK hZ [0, 1, 2, 3, 4, 5, 6] [] rfl rfl (by decide) rfl (by decide) (by decide) 0 rfl rfl rfl rfl hl.1 rfl (Nat.le_of_ble_eq_true rfl) dX1_answer_10 ⟨Nat.zero_le _, Nat.zero_le _⟩ (fun r1 u2 H locs hr1 hP hD hS => ?_)
  obtain ⟨rfl, rfl⟩ := hr1
  have hP : va_P D vwCl [(k0, .inr (1, [.ref kt, .int (nI (0 + 4))])), (kt, .inl (cy 0, 16, .inl (trP tf 0 [11, 10, 21, 20]))), (h, .inr (2, [.int (nI (w 0)), .int (nI (w 1)), .int (nI (w 2)), .int (nI (w 4)), .int (nI (w 3)), .ref kA, .ref tA, .ref eA, .ref oA])), (kA, .inl (cy 0, 6, .inl fk)), (tA, .inl (cy 0, 6, .inl ft)), (eA, .inl (cy 0, 6, .inl fe)), (oA, .inl (cy 0, 6, .inl fo))] H := hP
  have hD : va_D A [(k0, .inr (1, [.ref kt, .int (nI (0 + 4))])), (kt, .inl (cy 0, 16, .inl (trP tf 0 [11, 10, 21, 20]))), (h, .inr (2, [.int (nI (w 0)), .int (nI (w 1)), .int (nI (w 2)), .int (nI (w 4)), .int (nI (w 3)), .ref kA, .ref tA, .ref eA, .ref oA])), (kA, .inl (cy 0, 6, .inl fk)), (tA, .inl (cy 0, 6, .inl ft)), (eA, .inl (cy 0, 6, .inl fe)), (oA, .inl (cy 0, 6, .inl fo))] := hD
  have hP9 := hP
  have hD9 := hD
  exact q_wiret (v := nI (ctT w c + (c + ctO w c))) hx hb hr hlocks dX1_answer_13 hP9 hD9 hS (⟨rfl, rfl⟩)
theorem nans_0_2_0 : ∀ w ∈ wsX10, w ∈ wsX1_answer := by decide +kernel
theorem mans_0_2_1 : Cond.fieldLink RX1 15 "ClueLeave$Asks" "traced" "I" ∈ wsX1_answer := by decide +kernel
set_option maxHeartbeats 4000000 in
set_option maxRecDepth 100000 in
theorem c_ans_0_2 (l : Launch) (D : va_G) (cy : Nat → ClassId) (k0 kt : Nat) (tf : Nat → Int32) (tn : Nat) (h kA tA eA oA : Nat) (w : Nat → Nat) (fk ft fe fo : Nat → Int32) (hw : ctIs w fk ft fe fo) (hv : ctOk w) (c : Nat) (hc : c < w 4) (hkd : ctK w c = 2) : q_WiZ l yX1_answer wsX1_answer 11 D cy [(k0, .inr (1, [.ref kt, .int (nI tn)])), (kt, .inl (cy 0, 16, .inl tf)), (h, .inr (2, [.int (nI (w 0)), .int (nI (w 1)), .int (nI (w 2)), .int (nI (w 4)), .int (nI (w 3)), .ref kA, .ref tA, .ref eA, .ref oA])), (kA, .inl (cy 0, 6, .inl fk)), (tA, .inl (cy 0, 6, .inl ft)), (eA, .inl (cy 0, 6, .inl fe)), (oA, .inl (cy 0, 6, .inl fo))] [.ref k0, .ref h, .int (nI c), .int (nI 0)] (fun r u => r = -(nI (ctT w c + (2 * (c + ctO w c)))) ∧ u = [(k0, .inr (1, [.ref kt, .int (nI (0 + 6))])), (kt, .inl (cy 0, 16, .inl (trP tf 0 [12, 11, 10, 24, 21, 20]))), (h, .inr (2, [.int (nI (w 0)), .int (nI (w 1)), .int (nI (w 2)), .int (nI (w 4)), .int (nI (w 3)), .ref kA, .ref tA, .ref eA, .ref oA])), (kA, .inl (cy 0, 6, .inl fk)), (tA, .inl (cy 0, 6, .inl ft)), (eA, .inl (cy 0, 6, .inl fe)), (oA, .inl (cy 0, 6, .inl fo))]) := by
  refine q_wiz_of (cc := cX1_answer) (maxL := 4) (ret := (some .int)) (by decide) rfl (Nat.le_of_ble_eq_true rfl) ?_
  intro pg en s mi args below meth cd A hC hA hK hZ H locs hP hD hS ls hl
  obtain ⟨hx, hb, hr, hml, hown, hts, hlocks⟩ := hC
  have hl : lv_has ls 4 [(0, .ref k0), (1, .ref h), (2, .int (nI c)), (3, .int (nI 0))] := hl
  refine lv_aload_n hx hb dX1_answer_0 rfl (lv_at hl 0 rfl) ?_
  refine lv_iconst (v := nI 0) hx hb dX1_answer_1 (by decide) ?_
  refine va_put (D := D) (ci := 1) (v := .int (nI 0)) (ty := .int) (C := RX1) (T := TX1) (N := 2) hx hb hts nans_0_2_0 tyX1 tyX1_ok nmX1 hown hK.1 hP hD hS 0 rfl rfl 1 (by decide) (hts _ mans_0_2_1) (fun _ h9 => h9) rfl (by decide +kernel) rfl rfl (Nat.le_of_ble_eq_true rfl) dX1_answer_2 (fun H locs hP hD hS => ?_)
  have hP : va_P D vwCl [(k0, .inr (1, [.ref kt, .int (nI 0)])), (kt, .inl (cy 0, 16, .inl tf)), (h, .inr (2, [.int (nI (w 0)), .int (nI (w 1)), .int (nI (w 2)), .int (nI (w 4)), .int (nI (w 3)), .ref kA, .ref tA, .ref eA, .ref oA])), (kA, .inl (cy 0, 6, .inl fk)), (tA, .inl (cy 0, 6, .inl ft)), (eA, .inl (cy 0, 6, .inl fe)), (oA, .inl (cy 0, 6, .inl fo))] H := hP
  have hD : va_D A [(k0, .inr (1, [.ref kt, .int (nI 0)])), (kt, .inl (cy 0, 16, .inl tf)), (h, .inr (2, [.int (nI (w 0)), .int (nI (w 1)), .int (nI (w 2)), .int (nI (w 4)), .int (nI (w 3)), .ref kA, .ref tA, .ref eA, .ref oA])), (kA, .inl (cy 0, 6, .inl fk)), (tA, .inl (cy 0, 6, .inl ft)), (eA, .inl (cy 0, 6, .inl fe)), (oA, .inl (cy 0, 6, .inl fo))] := hD
  refine lv_aload_n hx hb dX1_answer_5 rfl (lv_at hl 0 rfl) ?_
  refine lv_aload_n hx hb dX1_answer_6 rfl (lv_at hl 1 rfl) ?_
  refine lv_iload_n hx hb dX1_answer_7 rfl (lv_at hl 2 rfl) ?_
  refine lv_iload_n hx hb dX1_answer_8 rfl (lv_at hl 3 rfl) ?_
  refine lv_iconst (v := nI 0) hx hb dX1_answer_9 (by decide) ?_
  refine q_wizV (As := [.ref h, .int (nI c), .int (nI 0), .int (nI 0)]) (rest := []) (wr := []) ⟨hx, hb, hml, hown, hts⟩ (c_b0_2 l D cy k0 kt tf 0 h kA tA eA oA w fk ft fe fo hw hv c hc hkd (by omega) 0 (by omega)) (cwV 4 hts gX1_answer_X1_begin rfl rfl rfl (by decide +kernel) ⟨Nat.le_of_ble_eq_true rfl, Nat.le_of_ble_eq_true rfl⟩) hP hD hS hA hK hZ [0, 1, 2, 3, 4, 5, 6] [] rfl rfl (by decide) rfl (by decide) (by decide) 0 rfl rfl rfl rfl hl.1 rfl (Nat.le_of_ble_eq_true rfl) dX1_answer_10 ⟨Nat.zero_le _, Nat.zero_le _⟩ (fun r1 u2 H locs hr1 hP hD hS => ?_)
  obtain ⟨rfl, rfl⟩ := hr1
  have hP : va_P D vwCl [(k0, .inr (1, [.ref kt, .int (nI (0 + 6))])), (kt, .inl (cy 0, 16, .inl (trP tf 0 [12, 11, 10, 24, 21, 20]))), (h, .inr (2, [.int (nI (w 0)), .int (nI (w 1)), .int (nI (w 2)), .int (nI (w 4)), .int (nI (w 3)), .ref kA, .ref tA, .ref eA, .ref oA])), (kA, .inl (cy 0, 6, .inl fk)), (tA, .inl (cy 0, 6, .inl ft)), (eA, .inl (cy 0, 6, .inl fe)), (oA, .inl (cy 0, 6, .inl fo))] H := hP
  have hD : va_D A [(k0, .inr (1, [.ref kt, .int (nI (0 + 6))])), (kt, .inl (cy 0, 16, .inl (trP tf 0 [12, 11, 10, 24, 21, 20]))), (h, .inr (2, [.int (nI (w 0)), .int (nI (w 1)), .int (nI (w 2)), .int (nI (w 4)), .int (nI (w 3)), .ref kA, .ref tA, .ref eA, .ref oA])), (kA, .inl (cy 0, 6, .inl fk)), (tA, .inl (cy 0, 6, .inl ft)), (eA, .inl (cy 0, 6, .inl fe)), (oA, .inl (cy 0, 6, .inl fo))] := hD
  have hP9 := hP
  have hD9 := hD
  exact q_wiret (v := -(nI (ctT w c + (2 * (c + ctO w c))))) hx hb hr hlocks dX1_answer_13 hP9 hD9 hS (⟨rfl, rfl⟩)
theorem nans_0_3_0 : ∀ w ∈ wsX10, w ∈ wsX1_answer := by decide +kernel
theorem mans_0_3_1 : Cond.fieldLink RX1 15 "ClueLeave$Asks" "traced" "I" ∈ wsX1_answer := by decide +kernel
set_option maxHeartbeats 4000000 in
set_option maxRecDepth 100000 in
theorem c_ans_0_3 (l : Launch) (D : va_G) (cy : Nat → ClassId) (k0 kt : Nat) (tf : Nat → Int32) (tn : Nat) (h kA tA eA oA : Nat) (w : Nat → Nat) (fk ft fe fo : Nat → Int32) (hw : ctIs w fk ft fe fo) (hv : ctOk w) (c : Nat) (hc : c < w 4) (hkd : ctK w c = 3) : q_WiZ l yX1_answer wsX1_answer 11 D cy [(k0, .inr (1, [.ref kt, .int (nI tn)])), (kt, .inl (cy 0, 16, .inl tf)), (h, .inr (2, [.int (nI (w 0)), .int (nI (w 1)), .int (nI (w 2)), .int (nI (w 4)), .int (nI (w 3)), .ref kA, .ref tA, .ref eA, .ref oA])), (kA, .inl (cy 0, 6, .inl fk)), (tA, .inl (cy 0, 6, .inl ft)), (eA, .inl (cy 0, 6, .inl fe)), (oA, .inl (cy 0, 6, .inl fo))] [.ref k0, .ref h, .int (nI c), .int (nI 0)] (fun r u => r = (nI (ctT w c)) + (nI (c + ctO w c) - nI 1000) ∧ u = [(k0, .inr (1, [.ref kt, .int (nI (0 + 5))])), (kt, .inl (cy 0, 16, .inl (trP tf 0 [11, 10, 22, 21, 20]))), (h, .inr (2, [.int (nI (w 0)), .int (nI (w 1)), .int (nI (w 2)), .int (nI (w 4)), .int (nI (w 3)), .ref kA, .ref tA, .ref eA, .ref oA])), (kA, .inl (cy 0, 6, .inl fk)), (tA, .inl (cy 0, 6, .inl ft)), (eA, .inl (cy 0, 6, .inl fe)), (oA, .inl (cy 0, 6, .inl fo))]) := by
  refine q_wiz_of (cc := cX1_answer) (maxL := 4) (ret := (some .int)) (by decide) rfl (Nat.le_of_ble_eq_true rfl) ?_
  intro pg en s mi args below meth cd A hC hA hK hZ H locs hP hD hS ls hl
  obtain ⟨hx, hb, hr, hml, hown, hts, hlocks⟩ := hC
  have hl : lv_has ls 4 [(0, .ref k0), (1, .ref h), (2, .int (nI c)), (3, .int (nI 0))] := hl
  refine lv_aload_n hx hb dX1_answer_0 rfl (lv_at hl 0 rfl) ?_
  refine lv_iconst (v := nI 0) hx hb dX1_answer_1 (by decide) ?_
  refine va_put (D := D) (ci := 1) (v := .int (nI 0)) (ty := .int) (C := RX1) (T := TX1) (N := 2) hx hb hts nans_0_3_0 tyX1 tyX1_ok nmX1 hown hK.1 hP hD hS 0 rfl rfl 1 (by decide) (hts _ mans_0_3_1) (fun _ h9 => h9) rfl (by decide +kernel) rfl rfl (Nat.le_of_ble_eq_true rfl) dX1_answer_2 (fun H locs hP hD hS => ?_)
  have hP : va_P D vwCl [(k0, .inr (1, [.ref kt, .int (nI 0)])), (kt, .inl (cy 0, 16, .inl tf)), (h, .inr (2, [.int (nI (w 0)), .int (nI (w 1)), .int (nI (w 2)), .int (nI (w 4)), .int (nI (w 3)), .ref kA, .ref tA, .ref eA, .ref oA])), (kA, .inl (cy 0, 6, .inl fk)), (tA, .inl (cy 0, 6, .inl ft)), (eA, .inl (cy 0, 6, .inl fe)), (oA, .inl (cy 0, 6, .inl fo))] H := hP
  have hD : va_D A [(k0, .inr (1, [.ref kt, .int (nI 0)])), (kt, .inl (cy 0, 16, .inl tf)), (h, .inr (2, [.int (nI (w 0)), .int (nI (w 1)), .int (nI (w 2)), .int (nI (w 4)), .int (nI (w 3)), .ref kA, .ref tA, .ref eA, .ref oA])), (kA, .inl (cy 0, 6, .inl fk)), (tA, .inl (cy 0, 6, .inl ft)), (eA, .inl (cy 0, 6, .inl fe)), (oA, .inl (cy 0, 6, .inl fo))] := hD
  refine lv_aload_n hx hb dX1_answer_5 rfl (lv_at hl 0 rfl) ?_
  refine lv_aload_n hx hb dX1_answer_6 rfl (lv_at hl 1 rfl) ?_
  refine lv_iload_n hx hb dX1_answer_7 rfl (lv_at hl 2 rfl) ?_
  refine lv_iload_n hx hb dX1_answer_8 rfl (lv_at hl 3 rfl) ?_
  refine lv_iconst (v := nI 0) hx hb dX1_answer_9 (by decide) ?_
  refine q_wizV (As := [.ref h, .int (nI c), .int (nI 0), .int (nI 0)]) (rest := []) (wr := []) ⟨hx, hb, hml, hown, hts⟩ (c_b0_3 l D cy k0 kt tf 0 h kA tA eA oA w fk ft fe fo hw hv c hc hkd (by omega) 0 (by omega)) (cwV 4 hts gX1_answer_X1_begin rfl rfl rfl (by decide +kernel) ⟨Nat.le_of_ble_eq_true rfl, Nat.le_of_ble_eq_true rfl⟩) hP hD hS hA hK hZ [0, 1, 2, 3, 4, 5, 6] [] rfl rfl (by decide) rfl (by decide) (by decide) 0 rfl rfl rfl rfl hl.1 rfl (Nat.le_of_ble_eq_true rfl) dX1_answer_10 ⟨Nat.zero_le _, Nat.zero_le _⟩ (fun r1 u2 H locs hr1 hP hD hS => ?_)
  obtain ⟨rfl, rfl⟩ := hr1
  have hP : va_P D vwCl [(k0, .inr (1, [.ref kt, .int (nI (0 + 5))])), (kt, .inl (cy 0, 16, .inl (trP tf 0 [11, 10, 22, 21, 20]))), (h, .inr (2, [.int (nI (w 0)), .int (nI (w 1)), .int (nI (w 2)), .int (nI (w 4)), .int (nI (w 3)), .ref kA, .ref tA, .ref eA, .ref oA])), (kA, .inl (cy 0, 6, .inl fk)), (tA, .inl (cy 0, 6, .inl ft)), (eA, .inl (cy 0, 6, .inl fe)), (oA, .inl (cy 0, 6, .inl fo))] H := hP
  have hD : va_D A [(k0, .inr (1, [.ref kt, .int (nI (0 + 5))])), (kt, .inl (cy 0, 16, .inl (trP tf 0 [11, 10, 22, 21, 20]))), (h, .inr (2, [.int (nI (w 0)), .int (nI (w 1)), .int (nI (w 2)), .int (nI (w 4)), .int (nI (w 3)), .ref kA, .ref tA, .ref eA, .ref oA])), (kA, .inl (cy 0, 6, .inl fk)), (tA, .inl (cy 0, 6, .inl ft)), (eA, .inl (cy 0, 6, .inl fe)), (oA, .inl (cy 0, 6, .inl fo))] := hD
  have hP9 := hP
  have hD9 := hD
  exact q_wiret (v := (nI (ctT w c)) + (nI (c + ctO w c) - nI 1000)) hx hb hr hlocks dX1_answer_13 hP9 hD9 hS (⟨rfl, rfl⟩)
theorem nans_0_4_0 : ∀ w ∈ wsX10, w ∈ wsX1_answer := by decide +kernel
theorem mans_0_4_1 : Cond.fieldLink RX1 15 "ClueLeave$Asks" "traced" "I" ∈ wsX1_answer := by decide +kernel
set_option maxHeartbeats 4000000 in
set_option maxRecDepth 100000 in
theorem c_ans_0_4 (l : Launch) (D : va_G) (cy : Nat → ClassId) (k0 kt : Nat) (tf : Nat → Int32) (tn : Nat) (h kA tA eA oA : Nat) (w : Nat → Nat) (fk ft fe fo : Nat → Int32) (hw : ctIs w fk ft fe fo) (hv : ctOk w) (c : Nat) (hc : c < w 4) (hkd : ctK w c = 4) : q_WiZ l yX1_answer wsX1_answer 11 D cy [(k0, .inr (1, [.ref kt, .int (nI tn)])), (kt, .inl (cy 0, 16, .inl tf)), (h, .inr (2, [.int (nI (w 0)), .int (nI (w 1)), .int (nI (w 2)), .int (nI (w 4)), .int (nI (w 3)), .ref kA, .ref tA, .ref eA, .ref oA])), (kA, .inl (cy 0, 6, .inl fk)), (tA, .inl (cy 0, 6, .inl ft)), (eA, .inl (cy 0, 6, .inl fe)), (oA, .inl (cy 0, 6, .inl fo))] [.ref k0, .ref h, .int (nI c), .int (nI 0)] (fun r u => r = nI (ctT w c) - nI 100 ∧ u = [(k0, .inr (1, [.ref kt, .int (nI (0 + 2))])), (kt, .inl (cy 0, 16, .inl (trP tf 0 [13, 10]))), (h, .inr (2, [.int (nI (w 0)), .int (nI (w 1)), .int (nI (w 2)), .int (nI (w 4)), .int (nI (w 3)), .ref kA, .ref tA, .ref eA, .ref oA])), (kA, .inl (cy 0, 6, .inl fk)), (tA, .inl (cy 0, 6, .inl ft)), (eA, .inl (cy 0, 6, .inl fe)), (oA, .inl (cy 0, 6, .inl fo))]) := by
  refine q_wiz_of (cc := cX1_answer) (maxL := 4) (ret := (some .int)) (by decide) rfl (Nat.le_of_ble_eq_true rfl) ?_
  intro pg en s mi args below meth cd A hC hA hK hZ H locs hP hD hS ls hl
  obtain ⟨hx, hb, hr, hml, hown, hts, hlocks⟩ := hC
  have hl : lv_has ls 4 [(0, .ref k0), (1, .ref h), (2, .int (nI c)), (3, .int (nI 0))] := hl
  refine lv_aload_n hx hb dX1_answer_0 rfl (lv_at hl 0 rfl) ?_
  refine lv_iconst (v := nI 0) hx hb dX1_answer_1 (by decide) ?_
  refine va_put (D := D) (ci := 1) (v := .int (nI 0)) (ty := .int) (C := RX1) (T := TX1) (N := 2) hx hb hts nans_0_4_0 tyX1 tyX1_ok nmX1 hown hK.1 hP hD hS 0 rfl rfl 1 (by decide) (hts _ mans_0_4_1) (fun _ h9 => h9) rfl (by decide +kernel) rfl rfl (Nat.le_of_ble_eq_true rfl) dX1_answer_2 (fun H locs hP hD hS => ?_)
  have hP : va_P D vwCl [(k0, .inr (1, [.ref kt, .int (nI 0)])), (kt, .inl (cy 0, 16, .inl tf)), (h, .inr (2, [.int (nI (w 0)), .int (nI (w 1)), .int (nI (w 2)), .int (nI (w 4)), .int (nI (w 3)), .ref kA, .ref tA, .ref eA, .ref oA])), (kA, .inl (cy 0, 6, .inl fk)), (tA, .inl (cy 0, 6, .inl ft)), (eA, .inl (cy 0, 6, .inl fe)), (oA, .inl (cy 0, 6, .inl fo))] H := hP
  have hD : va_D A [(k0, .inr (1, [.ref kt, .int (nI 0)])), (kt, .inl (cy 0, 16, .inl tf)), (h, .inr (2, [.int (nI (w 0)), .int (nI (w 1)), .int (nI (w 2)), .int (nI (w 4)), .int (nI (w 3)), .ref kA, .ref tA, .ref eA, .ref oA])), (kA, .inl (cy 0, 6, .inl fk)), (tA, .inl (cy 0, 6, .inl ft)), (eA, .inl (cy 0, 6, .inl fe)), (oA, .inl (cy 0, 6, .inl fo))] := hD
  refine lv_aload_n hx hb dX1_answer_5 rfl (lv_at hl 0 rfl) ?_
  refine lv_aload_n hx hb dX1_answer_6 rfl (lv_at hl 1 rfl) ?_
  refine lv_iload_n hx hb dX1_answer_7 rfl (lv_at hl 2 rfl) ?_
  refine lv_iload_n hx hb dX1_answer_8 rfl (lv_at hl 3 rfl) ?_
  refine lv_iconst (v := nI 0) hx hb dX1_answer_9 (by decide) ?_
  refine q_wizV (As := [.ref h, .int (nI c), .int (nI 0), .int (nI 0)]) (rest := []) (wr := []) ⟨hx, hb, hml, hown, hts⟩ (c_b0_4 l D cy k0 kt tf 0 h kA tA eA oA w fk ft fe fo hw hv c hc hkd (by omega) 0 (by omega)) (cwV 4 hts gX1_answer_X1_begin rfl rfl rfl (by decide +kernel) ⟨Nat.le_of_ble_eq_true rfl, Nat.le_of_ble_eq_true rfl⟩) hP hD hS hA hK hZ [0, 1, 2, 3, 4, 5, 6] [] rfl rfl (by decide) rfl (by decide) (by decide) 0 rfl rfl rfl rfl hl.1 rfl (Nat.le_of_ble_eq_true rfl) dX1_answer_10 ⟨Nat.zero_le _, Nat.zero_le _⟩ (fun r1 u2 H locs hr1 hP hD hS => ?_)
  obtain ⟨rfl, rfl⟩ := hr1
  have hP : va_P D vwCl [(k0, .inr (1, [.ref kt, .int (nI (0 + 2))])), (kt, .inl (cy 0, 16, .inl (trP tf 0 [13, 10]))), (h, .inr (2, [.int (nI (w 0)), .int (nI (w 1)), .int (nI (w 2)), .int (nI (w 4)), .int (nI (w 3)), .ref kA, .ref tA, .ref eA, .ref oA])), (kA, .inl (cy 0, 6, .inl fk)), (tA, .inl (cy 0, 6, .inl ft)), (eA, .inl (cy 0, 6, .inl fe)), (oA, .inl (cy 0, 6, .inl fo))] H := hP
  have hD : va_D A [(k0, .inr (1, [.ref kt, .int (nI (0 + 2))])), (kt, .inl (cy 0, 16, .inl (trP tf 0 [13, 10]))), (h, .inr (2, [.int (nI (w 0)), .int (nI (w 1)), .int (nI (w 2)), .int (nI (w 4)), .int (nI (w 3)), .ref kA, .ref tA, .ref eA, .ref oA])), (kA, .inl (cy 0, 6, .inl fk)), (tA, .inl (cy 0, 6, .inl ft)), (eA, .inl (cy 0, 6, .inl fe)), (oA, .inl (cy 0, 6, .inl fo))] := hD
  have hP9 := hP
  have hD9 := hD
  exact q_wiret (v := nI (ctT w c) - nI 100) hx hb hr hlocks dX1_answer_13 hP9 hD9 hS (⟨rfl, rfl⟩)
theorem nans_0_5_0 : ∀ w ∈ wsX10, w ∈ wsX1_answer := by decide +kernel
theorem mans_0_5_1 : Cond.fieldLink RX1 15 "ClueLeave$Asks" "traced" "I" ∈ wsX1_answer := by decide +kernel
set_option maxHeartbeats 4000000 in
set_option maxRecDepth 100000 in
theorem c_ans_0_5 (l : Launch) (D : va_G) (cy : Nat → ClassId) (k0 kt : Nat) (tf : Nat → Int32) (tn : Nat) (h kA tA eA oA : Nat) (w : Nat → Nat) (fk ft fe fo : Nat → Int32) (hw : ctIs w fk ft fe fo) (hv : ctOk w) (c : Nat) (hc : c < w 4) (hkd : ctK w c = 5) : q_WiZ l yX1_answer wsX1_answer 11 D cy [(k0, .inr (1, [.ref kt, .int (nI tn)])), (kt, .inl (cy 0, 16, .inl tf)), (h, .inr (2, [.int (nI (w 0)), .int (nI (w 1)), .int (nI (w 2)), .int (nI (w 4)), .int (nI (w 3)), .ref kA, .ref tA, .ref eA, .ref oA])), (kA, .inl (cy 0, 6, .inl fk)), (tA, .inl (cy 0, 6, .inl ft)), (eA, .inl (cy 0, 6, .inl fe)), (oA, .inl (cy 0, 6, .inl fo))] [.ref k0, .ref h, .int (nI c), .int (nI 0)] (fun r u => r = (nI 2) * (nI (ctT w c) - nI 100) ∧ u = [(k0, .inr (1, [.ref kt, .int (nI (0 + 3))])), (kt, .inl (cy 0, 16, .inl (trP tf 0 [14, 13, 10]))), (h, .inr (2, [.int (nI (w 0)), .int (nI (w 1)), .int (nI (w 2)), .int (nI (w 4)), .int (nI (w 3)), .ref kA, .ref tA, .ref eA, .ref oA])), (kA, .inl (cy 0, 6, .inl fk)), (tA, .inl (cy 0, 6, .inl ft)), (eA, .inl (cy 0, 6, .inl fe)), (oA, .inl (cy 0, 6, .inl fo))]) := by
  refine q_wiz_of (cc := cX1_answer) (maxL := 4) (ret := (some .int)) (by decide) rfl (Nat.le_of_ble_eq_true rfl) ?_
  intro pg en s mi args below meth cd A hC hA hK hZ H locs hP hD hS ls hl
  obtain ⟨hx, hb, hr, hml, hown, hts, hlocks⟩ := hC
  have hl : lv_has ls 4 [(0, .ref k0), (1, .ref h), (2, .int (nI c)), (3, .int (nI 0))] := hl
  refine lv_aload_n hx hb dX1_answer_0 rfl (lv_at hl 0 rfl) ?_
  refine lv_iconst (v := nI 0) hx hb dX1_answer_1 (by decide) ?_
  refine va_put (D := D) (ci := 1) (v := .int (nI 0)) (ty := .int) (C := RX1) (T := TX1) (N := 2) hx hb hts nans_0_5_0 tyX1 tyX1_ok nmX1 hown hK.1 hP hD hS 0 rfl rfl 1 (by decide) (hts _ mans_0_5_1) (fun _ h9 => h9) rfl (by decide +kernel) rfl rfl (Nat.le_of_ble_eq_true rfl) dX1_answer_2 (fun H locs hP hD hS => ?_)
  have hP : va_P D vwCl [(k0, .inr (1, [.ref kt, .int (nI 0)])), (kt, .inl (cy 0, 16, .inl tf)), (h, .inr (2, [.int (nI (w 0)), .int (nI (w 1)), .int (nI (w 2)), .int (nI (w 4)), .int (nI (w 3)), .ref kA, .ref tA, .ref eA, .ref oA])), (kA, .inl (cy 0, 6, .inl fk)), (tA, .inl (cy 0, 6, .inl ft)), (eA, .inl (cy 0, 6, .inl fe)), (oA, .inl (cy 0, 6, .inl fo))] H := hP
  have hD : va_D A [(k0, .inr (1, [.ref kt, .int (nI 0)])), (kt, .inl (cy 0, 16, .inl tf)), (h, .inr (2, [.int (nI (w 0)), .int (nI (w 1)), .int (nI (w 2)), .int (nI (w 4)), .int (nI (w 3)), .ref kA, .ref tA, .ref eA, .ref oA])), (kA, .inl (cy 0, 6, .inl fk)), (tA, .inl (cy 0, 6, .inl ft)), (eA, .inl (cy 0, 6, .inl fe)), (oA, .inl (cy 0, 6, .inl fo))] := hD
  refine lv_aload_n hx hb dX1_answer_5 rfl (lv_at hl 0 rfl) ?_
  refine lv_aload_n hx hb dX1_answer_6 rfl (lv_at hl 1 rfl) ?_
  refine lv_iload_n hx hb dX1_answer_7 rfl (lv_at hl 2 rfl) ?_
  refine lv_iload_n hx hb dX1_answer_8 rfl (lv_at hl 3 rfl) ?_
  refine lv_iconst (v := nI 0) hx hb dX1_answer_9 (by decide) ?_
  refine q_wizV (As := [.ref h, .int (nI c), .int (nI 0), .int (nI 0)]) (rest := []) (wr := []) ⟨hx, hb, hml, hown, hts⟩ (c_b0_5 l D cy k0 kt tf 0 h kA tA eA oA w fk ft fe fo hw hv c hc hkd (by omega) 0 (by omega)) (cwV 4 hts gX1_answer_X1_begin rfl rfl rfl (by decide +kernel) ⟨Nat.le_of_ble_eq_true rfl, Nat.le_of_ble_eq_true rfl⟩) hP hD hS hA hK hZ [0, 1, 2, 3, 4, 5, 6] [] rfl rfl (by decide) rfl (by decide) (by decide) 0 rfl rfl rfl rfl hl.1 rfl (Nat.le_of_ble_eq_true rfl) dX1_answer_10 ⟨Nat.zero_le _, Nat.zero_le _⟩ (fun r1 u2 H locs hr1 hP hD hS => ?_)
  obtain ⟨rfl, rfl⟩ := hr1
  have hP : va_P D vwCl [(k0, .inr (1, [.ref kt, .int (nI (0 + 3))])), (kt, .inl (cy 0, 16, .inl (trP tf 0 [14, 13, 10]))), (h, .inr (2, [.int (nI (w 0)), .int (nI (w 1)), .int (nI (w 2)), .int (nI (w 4)), .int (nI (w 3)), .ref kA, .ref tA, .ref eA, .ref oA])), (kA, .inl (cy 0, 6, .inl fk)), (tA, .inl (cy 0, 6, .inl ft)), (eA, .inl (cy 0, 6, .inl fe)), (oA, .inl (cy 0, 6, .inl fo))] H := hP
  have hD : va_D A [(k0, .inr (1, [.ref kt, .int (nI (0 + 3))])), (kt, .inl (cy 0, 16, .inl (trP tf 0 [14, 13, 10]))), (h, .inr (2, [.int (nI (w 0)), .int (nI (w 1)), .int (nI (w 2)), .int (nI (w 4)), .int (nI (w 3)), .ref kA, .ref tA, .ref eA, .ref oA])), (kA, .inl (cy 0, 6, .inl fk)), (tA, .inl (cy 0, 6, .inl ft)), (eA, .inl (cy 0, 6, .inl fe)), (oA, .inl (cy 0, 6, .inl fo))] := hD
  have hP9 := hP
  have hD9 := hD
  exact q_wiret (v := (nI 2) * (nI (ctT w c) - nI 100)) hx hb hr hlocks dX1_answer_13 hP9 hD9 hS (⟨rfl, rfl⟩)
theorem nans_1_1_0 : ∀ w ∈ wsX10, w ∈ wsX1_answer := by decide +kernel
theorem mans_1_1_1 : Cond.fieldLink RX1 15 "ClueLeave$Asks" "traced" "I" ∈ wsX1_answer := by decide +kernel
set_option maxHeartbeats 4000000 in
set_option maxRecDepth 100000 in
theorem c_ans_1_1 (l : Launch) (D : va_G) (cy : Nat → ClassId) (k0 kt : Nat) (tf : Nat → Int32) (tn : Nat) (h kA tA eA oA : Nat) (w : Nat → Nat) (fk ft fe fo : Nat → Int32) (hw : ctIs w fk ft fe fo) (hv : ctOk w) (c : Nat) (hc : c < w 4) (hkd : ctK w c = 1) : q_WiZ l yX1_answer wsX1_answer 11 D cy [(k0, .inr (1, [.ref kt, .int (nI tn)])), (kt, .inl (cy 0, 16, .inl tf)), (h, .inr (2, [.int (nI (w 0)), .int (nI (w 1)), .int (nI (w 2)), .int (nI (w 4)), .int (nI (w 3)), .ref kA, .ref tA, .ref eA, .ref oA])), (kA, .inl (cy 0, 6, .inl fk)), (tA, .inl (cy 0, 6, .inl ft)), (eA, .inl (cy 0, 6, .inl fe)), (oA, .inl (cy 0, 6, .inl fo))] [.ref k0, .ref h, .int (nI c), .int (nI 1)] (fun r u => r = nI (c + ctO w c) ∧ u = [(k0, .inr (1, [.ref kt, .int (nI (0 + 2))])), (kt, .inl (cy 0, 16, .inl (trP tf 0 [21, 20]))), (h, .inr (2, [.int (nI (w 0)), .int (nI (w 1)), .int (nI (w 2)), .int (nI (w 4)), .int (nI (w 3)), .ref kA, .ref tA, .ref eA, .ref oA])), (kA, .inl (cy 0, 6, .inl fk)), (tA, .inl (cy 0, 6, .inl ft)), (eA, .inl (cy 0, 6, .inl fe)), (oA, .inl (cy 0, 6, .inl fo))]) := by
  refine q_wiz_of (cc := cX1_answer) (maxL := 4) (ret := (some .int)) (by decide) rfl (Nat.le_of_ble_eq_true rfl) ?_
  intro pg en s mi args below meth cd A hC hA hK hZ H locs hP hD hS ls hl
  obtain ⟨hx, hb, hr, hml, hown, hts, hlocks⟩ := hC
  have hl : lv_has ls 4 [(0, .ref k0), (1, .ref h), (2, .int (nI c)), (3, .int (nI 1))] := hl
  refine lv_aload_n hx hb dX1_answer_0 rfl (lv_at hl 0 rfl) ?_
  refine lv_iconst (v := nI 0) hx hb dX1_answer_1 (by decide) ?_
  refine va_put (D := D) (ci := 1) (v := .int (nI 0)) (ty := .int) (C := RX1) (T := TX1) (N := 2) hx hb hts nans_1_1_0 tyX1 tyX1_ok nmX1 hown hK.1 hP hD hS 0 rfl rfl 1 (by decide) (hts _ mans_1_1_1) (fun _ h9 => h9) rfl (by decide +kernel) rfl rfl (Nat.le_of_ble_eq_true rfl) dX1_answer_2 (fun H locs hP hD hS => ?_)
  have hP : va_P D vwCl [(k0, .inr (1, [.ref kt, .int (nI 0)])), (kt, .inl (cy 0, 16, .inl tf)), (h, .inr (2, [.int (nI (w 0)), .int (nI (w 1)), .int (nI (w 2)), .int (nI (w 4)), .int (nI (w 3)), .ref kA, .ref tA, .ref eA, .ref oA])), (kA, .inl (cy 0, 6, .inl fk)), (tA, .inl (cy 0, 6, .inl ft)), (eA, .inl (cy 0, 6, .inl fe)), (oA, .inl (cy 0, 6, .inl fo))] H := hP
  have hD : va_D A [(k0, .inr (1, [.ref kt, .int (nI 0)])), (kt, .inl (cy 0, 16, .inl tf)), (h, .inr (2, [.int (nI (w 0)), .int (nI (w 1)), .int (nI (w 2)), .int (nI (w 4)), .int (nI (w 3)), .ref kA, .ref tA, .ref eA, .ref oA])), (kA, .inl (cy 0, 6, .inl fk)), (tA, .inl (cy 0, 6, .inl ft)), (eA, .inl (cy 0, 6, .inl fe)), (oA, .inl (cy 0, 6, .inl fo))] := hD
  refine lv_aload_n hx hb dX1_answer_5 rfl (lv_at hl 0 rfl) ?_
  refine lv_aload_n hx hb dX1_answer_6 rfl (lv_at hl 1 rfl) ?_
  refine lv_iload_n hx hb dX1_answer_7 rfl (lv_at hl 2 rfl) ?_
  refine lv_iload_n hx hb dX1_answer_8 rfl (lv_at hl 3 rfl) ?_
  refine lv_iconst (v := nI 0) hx hb dX1_answer_9 (by decide) ?_
  refine q_wizV (As := [.ref h, .int (nI c), .int (nI 1), .int (nI 0)]) (rest := []) (wr := []) ⟨hx, hb, hml, hown, hts⟩ (c_b1_1 l D cy k0 kt tf 0 h kA tA eA oA w fk ft fe fo hw hv c hc hkd (by omega) 0 (by omega)) (cwV 4 hts gX1_answer_X1_begin rfl rfl rfl (by decide +kernel) ⟨Nat.le_of_ble_eq_true rfl, Nat.le_of_ble_eq_true rfl⟩) hP hD hS hA hK hZ [0, 1, 2, 3, 4, 5, 6] [] rfl rfl (by decide) rfl (by decide) (by decide) 0 rfl rfl rfl rfl hl.1 rfl (Nat.le_of_ble_eq_true rfl) dX1_answer_10 ⟨Nat.zero_le _, Nat.zero_le _⟩ (fun r1 u2 H locs hr1 hP hD hS => ?_)
  obtain ⟨rfl, rfl⟩ := hr1
  have hP : va_P D vwCl [(k0, .inr (1, [.ref kt, .int (nI (0 + 2))])), (kt, .inl (cy 0, 16, .inl (trP tf 0 [21, 20]))), (h, .inr (2, [.int (nI (w 0)), .int (nI (w 1)), .int (nI (w 2)), .int (nI (w 4)), .int (nI (w 3)), .ref kA, .ref tA, .ref eA, .ref oA])), (kA, .inl (cy 0, 6, .inl fk)), (tA, .inl (cy 0, 6, .inl ft)), (eA, .inl (cy 0, 6, .inl fe)), (oA, .inl (cy 0, 6, .inl fo))] H := hP
  have hD : va_D A [(k0, .inr (1, [.ref kt, .int (nI (0 + 2))])), (kt, .inl (cy 0, 16, .inl (trP tf 0 [21, 20]))), (h, .inr (2, [.int (nI (w 0)), .int (nI (w 1)), .int (nI (w 2)), .int (nI (w 4)), .int (nI (w 3)), .ref kA, .ref tA, .ref eA, .ref oA])), (kA, .inl (cy 0, 6, .inl fk)), (tA, .inl (cy 0, 6, .inl ft)), (eA, .inl (cy 0, 6, .inl fe)), (oA, .inl (cy 0, 6, .inl fo))] := hD
  have hP9 := hP
  have hD9 := hD
  exact q_wiret (v := nI (c + ctO w c)) hx hb hr hlocks dX1_answer_13 hP9 hD9 hS (⟨rfl, rfl⟩)
theorem nans_1_2_0 : ∀ w ∈ wsX10, w ∈ wsX1_answer := by decide +kernel
theorem mans_1_2_1 : Cond.fieldLink RX1 15 "ClueLeave$Asks" "traced" "I" ∈ wsX1_answer := by decide +kernel
set_option maxHeartbeats 4000000 in
set_option maxRecDepth 100000 in
theorem c_ans_1_2 (l : Launch) (D : va_G) (cy : Nat → ClassId) (k0 kt : Nat) (tf : Nat → Int32) (tn : Nat) (h kA tA eA oA : Nat) (w : Nat → Nat) (fk ft fe fo : Nat → Int32) (hw : ctIs w fk ft fe fo) (hv : ctOk w) (c : Nat) (hc : c < w 4) (hkd : ctK w c = 2) : q_WiZ l yX1_answer wsX1_answer 11 D cy [(k0, .inr (1, [.ref kt, .int (nI tn)])), (kt, .inl (cy 0, 16, .inl tf)), (h, .inr (2, [.int (nI (w 0)), .int (nI (w 1)), .int (nI (w 2)), .int (nI (w 4)), .int (nI (w 3)), .ref kA, .ref tA, .ref eA, .ref oA])), (kA, .inl (cy 0, 6, .inl fk)), (tA, .inl (cy 0, 6, .inl ft)), (eA, .inl (cy 0, 6, .inl fe)), (oA, .inl (cy 0, 6, .inl fo))] [.ref k0, .ref h, .int (nI c), .int (nI 1)] (fun r u => r = nI (2 * (c + ctO w c)) ∧ u = [(k0, .inr (1, [.ref kt, .int (nI (0 + 3))])), (kt, .inl (cy 0, 16, .inl (trP tf 0 [24, 21, 20]))), (h, .inr (2, [.int (nI (w 0)), .int (nI (w 1)), .int (nI (w 2)), .int (nI (w 4)), .int (nI (w 3)), .ref kA, .ref tA, .ref eA, .ref oA])), (kA, .inl (cy 0, 6, .inl fk)), (tA, .inl (cy 0, 6, .inl ft)), (eA, .inl (cy 0, 6, .inl fe)), (oA, .inl (cy 0, 6, .inl fo))]) := by
  refine q_wiz_of (cc := cX1_answer) (maxL := 4) (ret := (some .int)) (by decide) rfl (Nat.le_of_ble_eq_true rfl) ?_
  intro pg en s mi args below meth cd A hC hA hK hZ H locs hP hD hS ls hl
  obtain ⟨hx, hb, hr, hml, hown, hts, hlocks⟩ := hC
  have hl : lv_has ls 4 [(0, .ref k0), (1, .ref h), (2, .int (nI c)), (3, .int (nI 1))] := hl
  refine lv_aload_n hx hb dX1_answer_0 rfl (lv_at hl 0 rfl) ?_
  refine lv_iconst (v := nI 0) hx hb dX1_answer_1 (by decide) ?_
  refine va_put (D := D) (ci := 1) (v := .int (nI 0)) (ty := .int) (C := RX1) (T := TX1) (N := 2) hx hb hts nans_1_2_0 tyX1 tyX1_ok nmX1 hown hK.1 hP hD hS 0 rfl rfl 1 (by decide) (hts _ mans_1_2_1) (fun _ h9 => h9) rfl (by decide +kernel) rfl rfl (Nat.le_of_ble_eq_true rfl) dX1_answer_2 (fun H locs hP hD hS => ?_)
  have hP : va_P D vwCl [(k0, .inr (1, [.ref kt, .int (nI 0)])), (kt, .inl (cy 0, 16, .inl tf)), (h, .inr (2, [.int (nI (w 0)), .int (nI (w 1)), .int (nI (w 2)), .int (nI (w 4)), .int (nI (w 3)), .ref kA, .ref tA, .ref eA, .ref oA])), (kA, .inl (cy 0, 6, .inl fk)), (tA, .inl (cy 0, 6, .inl ft)), (eA, .inl (cy 0, 6, .inl fe)), (oA, .inl (cy 0, 6, .inl fo))] H := hP
  have hD : va_D A [(k0, .inr (1, [.ref kt, .int (nI 0)])), (kt, .inl (cy 0, 16, .inl tf)), (h, .inr (2, [.int (nI (w 0)), .int (nI (w 1)), .int (nI (w 2)), .int (nI (w 4)), .int (nI (w 3)), .ref kA, .ref tA, .ref eA, .ref oA])), (kA, .inl (cy 0, 6, .inl fk)), (tA, .inl (cy 0, 6, .inl ft)), (eA, .inl (cy 0, 6, .inl fe)), (oA, .inl (cy 0, 6, .inl fo))] := hD
  refine lv_aload_n hx hb dX1_answer_5 rfl (lv_at hl 0 rfl) ?_
  refine lv_aload_n hx hb dX1_answer_6 rfl (lv_at hl 1 rfl) ?_
  refine lv_iload_n hx hb dX1_answer_7 rfl (lv_at hl 2 rfl) ?_
  refine lv_iload_n hx hb dX1_answer_8 rfl (lv_at hl 3 rfl) ?_
  refine lv_iconst (v := nI 0) hx hb dX1_answer_9 (by decide) ?_
  refine q_wizV (As := [.ref h, .int (nI c), .int (nI 1), .int (nI 0)]) (rest := []) (wr := []) ⟨hx, hb, hml, hown, hts⟩ (c_b1_2 l D cy k0 kt tf 0 h kA tA eA oA w fk ft fe fo hw hv c hc hkd (by omega) 0 (by omega)) (cwV 4 hts gX1_answer_X1_begin rfl rfl rfl (by decide +kernel) ⟨Nat.le_of_ble_eq_true rfl, Nat.le_of_ble_eq_true rfl⟩) hP hD hS hA hK hZ [0, 1, 2, 3, 4, 5, 6] [] rfl rfl (by decide) rfl (by decide) (by decide) 0 rfl rfl rfl rfl hl.1 rfl (Nat.le_of_ble_eq_true rfl) dX1_answer_10 ⟨Nat.zero_le _, Nat.zero_le _⟩ (fun r1 u2 H locs hr1 hP hD hS => ?_)
  obtain ⟨rfl, rfl⟩ := hr1
  have hP : va_P D vwCl [(k0, .inr (1, [.ref kt, .int (nI (0 + 3))])), (kt, .inl (cy 0, 16, .inl (trP tf 0 [24, 21, 20]))), (h, .inr (2, [.int (nI (w 0)), .int (nI (w 1)), .int (nI (w 2)), .int (nI (w 4)), .int (nI (w 3)), .ref kA, .ref tA, .ref eA, .ref oA])), (kA, .inl (cy 0, 6, .inl fk)), (tA, .inl (cy 0, 6, .inl ft)), (eA, .inl (cy 0, 6, .inl fe)), (oA, .inl (cy 0, 6, .inl fo))] H := hP
  have hD : va_D A [(k0, .inr (1, [.ref kt, .int (nI (0 + 3))])), (kt, .inl (cy 0, 16, .inl (trP tf 0 [24, 21, 20]))), (h, .inr (2, [.int (nI (w 0)), .int (nI (w 1)), .int (nI (w 2)), .int (nI (w 4)), .int (nI (w 3)), .ref kA, .ref tA, .ref eA, .ref oA])), (kA, .inl (cy 0, 6, .inl fk)), (tA, .inl (cy 0, 6, .inl ft)), (eA, .inl (cy 0, 6, .inl fe)), (oA, .inl (cy 0, 6, .inl fo))] := hD
  have hP9 := hP
  have hD9 := hD
  exact q_wiret (v := nI (2 * (c + ctO w c))) hx hb hr hlocks dX1_answer_13 hP9 hD9 hS (⟨rfl, rfl⟩)
theorem nans_1_3_0 : ∀ w ∈ wsX10, w ∈ wsX1_answer := by decide +kernel
theorem mans_1_3_1 : Cond.fieldLink RX1 15 "ClueLeave$Asks" "traced" "I" ∈ wsX1_answer := by decide +kernel
set_option maxHeartbeats 4000000 in
set_option maxRecDepth 100000 in
theorem c_ans_1_3 (l : Launch) (D : va_G) (cy : Nat → ClassId) (k0 kt : Nat) (tf : Nat → Int32) (tn : Nat) (h kA tA eA oA : Nat) (w : Nat → Nat) (fk ft fe fo : Nat → Int32) (hw : ctIs w fk ft fe fo) (hv : ctOk w) (c : Nat) (hc : c < w 4) (hkd : ctK w c = 3) : q_WiZ l yX1_answer wsX1_answer 11 D cy [(k0, .inr (1, [.ref kt, .int (nI tn)])), (kt, .inl (cy 0, 16, .inl tf)), (h, .inr (2, [.int (nI (w 0)), .int (nI (w 1)), .int (nI (w 2)), .int (nI (w 4)), .int (nI (w 3)), .ref kA, .ref tA, .ref eA, .ref oA])), (kA, .inl (cy 0, 6, .inl fk)), (tA, .inl (cy 0, 6, .inl ft)), (eA, .inl (cy 0, 6, .inl fe)), (oA, .inl (cy 0, 6, .inl fo))] [.ref k0, .ref h, .int (nI c), .int (nI 1)] (fun r u => r = nI (c + ctO w c) - nI 1000 ∧ u = [(k0, .inr (1, [.ref kt, .int (nI (0 + 3))])), (kt, .inl (cy 0, 16, .inl (trP tf 0 [22, 21, 20]))), (h, .inr (2, [.int (nI (w 0)), .int (nI (w 1)), .int (nI (w 2)), .int (nI (w 4)), .int (nI (w 3)), .ref kA, .ref tA, .ref eA, .ref oA])), (kA, .inl (cy 0, 6, .inl fk)), (tA, .inl (cy 0, 6, .inl ft)), (eA, .inl (cy 0, 6, .inl fe)), (oA, .inl (cy 0, 6, .inl fo))]) := by
  refine q_wiz_of (cc := cX1_answer) (maxL := 4) (ret := (some .int)) (by decide) rfl (Nat.le_of_ble_eq_true rfl) ?_
  intro pg en s mi args below meth cd A hC hA hK hZ H locs hP hD hS ls hl
  obtain ⟨hx, hb, hr, hml, hown, hts, hlocks⟩ := hC
  have hl : lv_has ls 4 [(0, .ref k0), (1, .ref h), (2, .int (nI c)), (3, .int (nI 1))] := hl
  refine lv_aload_n hx hb dX1_answer_0 rfl (lv_at hl 0 rfl) ?_
  refine lv_iconst (v := nI 0) hx hb dX1_answer_1 (by decide) ?_
  refine va_put (D := D) (ci := 1) (v := .int (nI 0)) (ty := .int) (C := RX1) (T := TX1) (N := 2) hx hb hts nans_1_3_0 tyX1 tyX1_ok nmX1 hown hK.1 hP hD hS 0 rfl rfl 1 (by decide) (hts _ mans_1_3_1) (fun _ h9 => h9) rfl (by decide +kernel) rfl rfl (Nat.le_of_ble_eq_true rfl) dX1_answer_2 (fun H locs hP hD hS => ?_)
  have hP : va_P D vwCl [(k0, .inr (1, [.ref kt, .int (nI 0)])), (kt, .inl (cy 0, 16, .inl tf)), (h, .inr (2, [.int (nI (w 0)), .int (nI (w 1)), .int (nI (w 2)), .int (nI (w 4)), .int (nI (w 3)), .ref kA, .ref tA, .ref eA, .ref oA])), (kA, .inl (cy 0, 6, .inl fk)), (tA, .inl (cy 0, 6, .inl ft)), (eA, .inl (cy 0, 6, .inl fe)), (oA, .inl (cy 0, 6, .inl fo))] H := hP
  have hD : va_D A [(k0, .inr (1, [.ref kt, .int (nI 0)])), (kt, .inl (cy 0, 16, .inl tf)), (h, .inr (2, [.int (nI (w 0)), .int (nI (w 1)), .int (nI (w 2)), .int (nI (w 4)), .int (nI (w 3)), .ref kA, .ref tA, .ref eA, .ref oA])), (kA, .inl (cy 0, 6, .inl fk)), (tA, .inl (cy 0, 6, .inl ft)), (eA, .inl (cy 0, 6, .inl fe)), (oA, .inl (cy 0, 6, .inl fo))] := hD
  refine lv_aload_n hx hb dX1_answer_5 rfl (lv_at hl 0 rfl) ?_
  refine lv_aload_n hx hb dX1_answer_6 rfl (lv_at hl 1 rfl) ?_
  refine lv_iload_n hx hb dX1_answer_7 rfl (lv_at hl 2 rfl) ?_
  refine lv_iload_n hx hb dX1_answer_8 rfl (lv_at hl 3 rfl) ?_
  refine lv_iconst (v := nI 0) hx hb dX1_answer_9 (by decide) ?_
  refine q_wizV (As := [.ref h, .int (nI c), .int (nI 1), .int (nI 0)]) (rest := []) (wr := []) ⟨hx, hb, hml, hown, hts⟩ (c_b1_3 l D cy k0 kt tf 0 h kA tA eA oA w fk ft fe fo hw hv c hc hkd (by omega) 0 (by omega)) (cwV 4 hts gX1_answer_X1_begin rfl rfl rfl (by decide +kernel) ⟨Nat.le_of_ble_eq_true rfl, Nat.le_of_ble_eq_true rfl⟩) hP hD hS hA hK hZ [0, 1, 2, 3, 4, 5, 6] [] rfl rfl (by decide) rfl (by decide) (by decide) 0 rfl rfl rfl rfl hl.1 rfl (Nat.le_of_ble_eq_true rfl) dX1_answer_10 ⟨Nat.zero_le _, Nat.zero_le _⟩ (fun r1 u2 H locs hr1 hP hD hS => ?_)
  obtain ⟨rfl, rfl⟩ := hr1
  have hP : va_P D vwCl [(k0, .inr (1, [.ref kt, .int (nI (0 + 3))])), (kt, .inl (cy 0, 16, .inl (trP tf 0 [22, 21, 20]))), (h, .inr (2, [.int (nI (w 0)), .int (nI (w 1)), .int (nI (w 2)), .int (nI (w 4)), .int (nI (w 3)), .ref kA, .ref tA, .ref eA, .ref oA])), (kA, .inl (cy 0, 6, .inl fk)), (tA, .inl (cy 0, 6, .inl ft)), (eA, .inl (cy 0, 6, .inl fe)), (oA, .inl (cy 0, 6, .inl fo))] H := hP
  have hD : va_D A [(k0, .inr (1, [.ref kt, .int (nI (0 + 3))])), (kt, .inl (cy 0, 16, .inl (trP tf 0 [22, 21, 20]))), (h, .inr (2, [.int (nI (w 0)), .int (nI (w 1)), .int (nI (w 2)), .int (nI (w 4)), .int (nI (w 3)), .ref kA, .ref tA, .ref eA, .ref oA])), (kA, .inl (cy 0, 6, .inl fk)), (tA, .inl (cy 0, 6, .inl ft)), (eA, .inl (cy 0, 6, .inl fe)), (oA, .inl (cy 0, 6, .inl fo))] := hD
  have hP9 := hP
  have hD9 := hD
  exact q_wiret (v := nI (c + ctO w c) - nI 1000) hx hb hr hlocks dX1_answer_13 hP9 hD9 hS (⟨rfl, rfl⟩)
theorem nans_1_4_0 : ∀ w ∈ wsX10, w ∈ wsX1_answer := by decide +kernel
theorem mans_1_4_1 : Cond.fieldLink RX1 15 "ClueLeave$Asks" "traced" "I" ∈ wsX1_answer := by decide +kernel
set_option maxHeartbeats 4000000 in
set_option maxRecDepth 100000 in
theorem c_ans_1_4 (l : Launch) (D : va_G) (cy : Nat → ClassId) (k0 kt : Nat) (tf : Nat → Int32) (tn : Nat) (h kA tA eA oA : Nat) (w : Nat → Nat) (fk ft fe fo : Nat → Int32) (hw : ctIs w fk ft fe fo) (hv : ctOk w) (c : Nat) (hc : c < w 4) (hkd : ctK w c = 4) : q_WiZ l yX1_answer wsX1_answer 11 D cy [(k0, .inr (1, [.ref kt, .int (nI tn)])), (kt, .inl (cy 0, 16, .inl tf)), (h, .inr (2, [.int (nI (w 0)), .int (nI (w 1)), .int (nI (w 2)), .int (nI (w 4)), .int (nI (w 3)), .ref kA, .ref tA, .ref eA, .ref oA])), (kA, .inl (cy 0, 6, .inl fk)), (tA, .inl (cy 0, 6, .inl ft)), (eA, .inl (cy 0, 6, .inl fe)), (oA, .inl (cy 0, 6, .inl fo))] [.ref k0, .ref h, .int (nI c), .int (nI 1)] (fun r u => r = (nI c) - (nI (ctT w c) - nI 100) ∧ u = [(k0, .inr (1, [.ref kt, .int (nI (0 + 4))])), (kt, .inl (cy 0, 16, .inl (trP tf 0 [23, 20, 13, 10]))), (h, .inr (2, [.int (nI (w 0)), .int (nI (w 1)), .int (nI (w 2)), .int (nI (w 4)), .int (nI (w 3)), .ref kA, .ref tA, .ref eA, .ref oA])), (kA, .inl (cy 0, 6, .inl fk)), (tA, .inl (cy 0, 6, .inl ft)), (eA, .inl (cy 0, 6, .inl fe)), (oA, .inl (cy 0, 6, .inl fo))]) := by
  refine q_wiz_of (cc := cX1_answer) (maxL := 4) (ret := (some .int)) (by decide) rfl (Nat.le_of_ble_eq_true rfl) ?_
  intro pg en s mi args below meth cd A hC hA hK hZ H locs hP hD hS ls hl
  obtain ⟨hx, hb, hr, hml, hown, hts, hlocks⟩ := hC
  have hl : lv_has ls 4 [(0, .ref k0), (1, .ref h), (2, .int (nI c)), (3, .int (nI 1))] := hl
  refine lv_aload_n hx hb dX1_answer_0 rfl (lv_at hl 0 rfl) ?_
  refine lv_iconst (v := nI 0) hx hb dX1_answer_1 (by decide) ?_
  refine va_put (D := D) (ci := 1) (v := .int (nI 0)) (ty := .int) (C := RX1) (T := TX1) (N := 2) hx hb hts nans_1_4_0 tyX1 tyX1_ok nmX1 hown hK.1 hP hD hS 0 rfl rfl 1 (by decide) (hts _ mans_1_4_1) (fun _ h9 => h9) rfl (by decide +kernel) rfl rfl (Nat.le_of_ble_eq_true rfl) dX1_answer_2 (fun H locs hP hD hS => ?_)
  have hP : va_P D vwCl [(k0, .inr (1, [.ref kt, .int (nI 0)])), (kt, .inl (cy 0, 16, .inl tf)), (h, .inr (2, [.int (nI (w 0)), .int (nI (w 1)), .int (nI (w 2)), .int (nI (w 4)), .int (nI (w 3)), .ref kA, .ref tA, .ref eA, .ref oA])), (kA, .inl (cy 0, 6, .inl fk)), (tA, .inl (cy 0, 6, .inl ft)), (eA, .inl (cy 0, 6, .inl fe)), (oA, .inl (cy 0, 6, .inl fo))] H := hP
  have hD : va_D A [(k0, .inr (1, [.ref kt, .int (nI 0)])), (kt, .inl (cy 0, 16, .inl tf)), (h, .inr (2, [.int (nI (w 0)), .int (nI (w 1)), .int (nI (w 2)), .int (nI (w 4)), .int (nI (w 3)), .ref kA, .ref tA, .ref eA, .ref oA])), (kA, .inl (cy 0, 6, .inl fk)), (tA, .inl (cy 0, 6, .inl ft)), (eA, .inl (cy 0, 6, .inl fe)), (oA, .inl (cy 0, 6, .inl fo))] := hD
  refine lv_aload_n hx hb dX1_answer_5 rfl (lv_at hl 0 rfl) ?_
  refine lv_aload_n hx hb dX1_answer_6 rfl (lv_at hl 1 rfl) ?_
  refine lv_iload_n hx hb dX1_answer_7 rfl (lv_at hl 2 rfl) ?_
  refine lv_iload_n hx hb dX1_answer_8 rfl (lv_at hl 3 rfl) ?_
  refine lv_iconst (v := nI 0) hx hb dX1_answer_9 (by decide) ?_
  refine q_wizV (As := [.ref h, .int (nI c), .int (nI 1), .int (nI 0)]) (rest := []) (wr := []) ⟨hx, hb, hml, hown, hts⟩ (c_b1_4 l D cy k0 kt tf 0 h kA tA eA oA w fk ft fe fo hw hv c hc hkd (by omega) 0 (by omega)) (cwV 4 hts gX1_answer_X1_begin rfl rfl rfl (by decide +kernel) ⟨Nat.le_of_ble_eq_true rfl, Nat.le_of_ble_eq_true rfl⟩) hP hD hS hA hK hZ [0, 1, 2, 3, 4, 5, 6] [] rfl rfl (by decide) rfl (by decide) (by decide) 0 rfl rfl rfl rfl hl.1 rfl (Nat.le_of_ble_eq_true rfl) dX1_answer_10 ⟨Nat.zero_le _, Nat.zero_le _⟩ (fun r1 u2 H locs hr1 hP hD hS => ?_)
  obtain ⟨rfl, rfl⟩ := hr1
  have hP : va_P D vwCl [(k0, .inr (1, [.ref kt, .int (nI (0 + 4))])), (kt, .inl (cy 0, 16, .inl (trP tf 0 [23, 20, 13, 10]))), (h, .inr (2, [.int (nI (w 0)), .int (nI (w 1)), .int (nI (w 2)), .int (nI (w 4)), .int (nI (w 3)), .ref kA, .ref tA, .ref eA, .ref oA])), (kA, .inl (cy 0, 6, .inl fk)), (tA, .inl (cy 0, 6, .inl ft)), (eA, .inl (cy 0, 6, .inl fe)), (oA, .inl (cy 0, 6, .inl fo))] H := hP
  have hD : va_D A [(k0, .inr (1, [.ref kt, .int (nI (0 + 4))])), (kt, .inl (cy 0, 16, .inl (trP tf 0 [23, 20, 13, 10]))), (h, .inr (2, [.int (nI (w 0)), .int (nI (w 1)), .int (nI (w 2)), .int (nI (w 4)), .int (nI (w 3)), .ref kA, .ref tA, .ref eA, .ref oA])), (kA, .inl (cy 0, 6, .inl fk)), (tA, .inl (cy 0, 6, .inl ft)), (eA, .inl (cy 0, 6, .inl fe)), (oA, .inl (cy 0, 6, .inl fo))] := hD
  have hP9 := hP
  have hD9 := hD
  exact q_wiret (v := (nI c) - (nI (ctT w c) - nI 100)) hx hb hr hlocks dX1_answer_13 hP9 hD9 hS (⟨rfl, rfl⟩)
theorem nans_1_5_0 : ∀ w ∈ wsX10, w ∈ wsX1_answer := by decide +kernel
theorem mans_1_5_1 : Cond.fieldLink RX1 15 "ClueLeave$Asks" "traced" "I" ∈ wsX1_answer := by decide +kernel
set_option maxHeartbeats 4000000 in
set_option maxRecDepth 100000 in
theorem c_ans_1_5 (l : Launch) (D : va_G) (cy : Nat → ClassId) (k0 kt : Nat) (tf : Nat → Int32) (tn : Nat) (h kA tA eA oA : Nat) (w : Nat → Nat) (fk ft fe fo : Nat → Int32) (hw : ctIs w fk ft fe fo) (hv : ctOk w) (c : Nat) (hc : c < w 4) (hkd : ctK w c = 5) : q_WiZ l yX1_answer wsX1_answer 11 D cy [(k0, .inr (1, [.ref kt, .int (nI tn)])), (kt, .inl (cy 0, 16, .inl tf)), (h, .inr (2, [.int (nI (w 0)), .int (nI (w 1)), .int (nI (w 2)), .int (nI (w 4)), .int (nI (w 3)), .ref kA, .ref tA, .ref eA, .ref oA])), (kA, .inl (cy 0, 6, .inl fk)), (tA, .inl (cy 0, 6, .inl ft)), (eA, .inl (cy 0, 6, .inl fe)), (oA, .inl (cy 0, 6, .inl fo))] [.ref k0, .ref h, .int (nI c), .int (nI 1)] (fun r u => r = (nI c) - ((nI 2) * (nI (ctT w c) - nI 100)) ∧ u = [(k0, .inr (1, [.ref kt, .int (nI (0 + 5))])), (kt, .inl (cy 0, 16, .inl (trP tf 0 [23, 20, 14, 13, 10]))), (h, .inr (2, [.int (nI (w 0)), .int (nI (w 1)), .int (nI (w 2)), .int (nI (w 4)), .int (nI (w 3)), .ref kA, .ref tA, .ref eA, .ref oA])), (kA, .inl (cy 0, 6, .inl fk)), (tA, .inl (cy 0, 6, .inl ft)), (eA, .inl (cy 0, 6, .inl fe)), (oA, .inl (cy 0, 6, .inl fo))]) := by
  refine q_wiz_of (cc := cX1_answer) (maxL := 4) (ret := (some .int)) (by decide) rfl (Nat.le_of_ble_eq_true rfl) ?_
  intro pg en s mi args below meth cd A hC hA hK hZ H locs hP hD hS ls hl
  obtain ⟨hx, hb, hr, hml, hown, hts, hlocks⟩ := hC
  have hl : lv_has ls 4 [(0, .ref k0), (1, .ref h), (2, .int (nI c)), (3, .int (nI 1))] := hl
  refine lv_aload_n hx hb dX1_answer_0 rfl (lv_at hl 0 rfl) ?_
  refine lv_iconst (v := nI 0) hx hb dX1_answer_1 (by decide) ?_
  refine va_put (D := D) (ci := 1) (v := .int (nI 0)) (ty := .int) (C := RX1) (T := TX1) (N := 2) hx hb hts nans_1_5_0 tyX1 tyX1_ok nmX1 hown hK.1 hP hD hS 0 rfl rfl 1 (by decide) (hts _ mans_1_5_1) (fun _ h9 => h9) rfl (by decide +kernel) rfl rfl (Nat.le_of_ble_eq_true rfl) dX1_answer_2 (fun H locs hP hD hS => ?_)
  have hP : va_P D vwCl [(k0, .inr (1, [.ref kt, .int (nI 0)])), (kt, .inl (cy 0, 16, .inl tf)), (h, .inr (2, [.int (nI (w 0)), .int (nI (w 1)), .int (nI (w 2)), .int (nI (w 4)), .int (nI (w 3)), .ref kA, .ref tA, .ref eA, .ref oA])), (kA, .inl (cy 0, 6, .inl fk)), (tA, .inl (cy 0, 6, .inl ft)), (eA, .inl (cy 0, 6, .inl fe)), (oA, .inl (cy 0, 6, .inl fo))] H := hP
  have hD : va_D A [(k0, .inr (1, [.ref kt, .int (nI 0)])), (kt, .inl (cy 0, 16, .inl tf)), (h, .inr (2, [.int (nI (w 0)), .int (nI (w 1)), .int (nI (w 2)), .int (nI (w 4)), .int (nI (w 3)), .ref kA, .ref tA, .ref eA, .ref oA])), (kA, .inl (cy 0, 6, .inl fk)), (tA, .inl (cy 0, 6, .inl ft)), (eA, .inl (cy 0, 6, .inl fe)), (oA, .inl (cy 0, 6, .inl fo))] := hD
  refine lv_aload_n hx hb dX1_answer_5 rfl (lv_at hl 0 rfl) ?_
  refine lv_aload_n hx hb dX1_answer_6 rfl (lv_at hl 1 rfl) ?_
  refine lv_iload_n hx hb dX1_answer_7 rfl (lv_at hl 2 rfl) ?_
  refine lv_iload_n hx hb dX1_answer_8 rfl (lv_at hl 3 rfl) ?_
  refine lv_iconst (v := nI 0) hx hb dX1_answer_9 (by decide) ?_
  refine q_wizV (As := [.ref h, .int (nI c), .int (nI 1), .int (nI 0)]) (rest := []) (wr := []) ⟨hx, hb, hml, hown, hts⟩ (c_b1_5 l D cy k0 kt tf 0 h kA tA eA oA w fk ft fe fo hw hv c hc hkd (by omega) 0 (by omega)) (cwV 4 hts gX1_answer_X1_begin rfl rfl rfl (by decide +kernel) ⟨Nat.le_of_ble_eq_true rfl, Nat.le_of_ble_eq_true rfl⟩) hP hD hS hA hK hZ [0, 1, 2, 3, 4, 5, 6] [] rfl rfl (by decide) rfl (by decide) (by decide) 0 rfl rfl rfl rfl hl.1 rfl (Nat.le_of_ble_eq_true rfl) dX1_answer_10 ⟨Nat.zero_le _, Nat.zero_le _⟩ (fun r1 u2 H locs hr1 hP hD hS => ?_)
  obtain ⟨rfl, rfl⟩ := hr1
  have hP : va_P D vwCl [(k0, .inr (1, [.ref kt, .int (nI (0 + 5))])), (kt, .inl (cy 0, 16, .inl (trP tf 0 [23, 20, 14, 13, 10]))), (h, .inr (2, [.int (nI (w 0)), .int (nI (w 1)), .int (nI (w 2)), .int (nI (w 4)), .int (nI (w 3)), .ref kA, .ref tA, .ref eA, .ref oA])), (kA, .inl (cy 0, 6, .inl fk)), (tA, .inl (cy 0, 6, .inl ft)), (eA, .inl (cy 0, 6, .inl fe)), (oA, .inl (cy 0, 6, .inl fo))] H := hP
  have hD : va_D A [(k0, .inr (1, [.ref kt, .int (nI (0 + 5))])), (kt, .inl (cy 0, 16, .inl (trP tf 0 [23, 20, 14, 13, 10]))), (h, .inr (2, [.int (nI (w 0)), .int (nI (w 1)), .int (nI (w 2)), .int (nI (w 4)), .int (nI (w 3)), .ref kA, .ref tA, .ref eA, .ref oA])), (kA, .inl (cy 0, 6, .inl fk)), (tA, .inl (cy 0, 6, .inl ft)), (eA, .inl (cy 0, 6, .inl fe)), (oA, .inl (cy 0, 6, .inl fo))] := hD
  have hP9 := hP
  have hD9 := hD
  exact q_wiret (v := (nI c) - ((nI 2) * (nI (ctT w c) - nI 100))) hx hb hr hlocks dX1_answer_13 hP9 hD9 hS (⟨rfl, rfl⟩)

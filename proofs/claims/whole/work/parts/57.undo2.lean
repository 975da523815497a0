theorem q_StA.moved {A : Nat → Prop} {u U : State} {H : Heap} (hvm : u.vm.Alike U.vm) (h : q_StA A u H) : q_StA A U H := by
  obtain ⟨t, h1, h2⟩ := h
  exact ⟨t, h1.moved hvm, h2.moved hvm⟩
theorem q_StA.kept {A : Nat → Prop} {U : State} {H H1 : Heap} (h : q_StA A U H) (hq : ∀ a : Nat, a < H.size → ¬ A a → H1[a]? = H[a]?) : q_StA A U H1 := by
  obtain ⟨t, h1, h2⟩ := h
  exact ⟨t, h1.kept hq, h2.kept hq⟩
theorem q_StA.narrow {A B : Nat → Prop} {U : State} {H : Heap} (h : q_StA A U H) (hAB : ∀ q, B q → A q) : q_StA B U H := by
  obtain ⟨t, h1, h2⟩ := h
  exact ⟨t, h1.narrow hAB, h2.narrow hAB⟩
section Q7A
variable {p : Program} {l : Launch} {e : Env} {R : Room} {s : State} {m : MethodId} {args : Array Value} {below : List Frame} {meth : Method} {c : Code} {H : Heap} {locs : List Loc} {cells slots : Nat} {Q : State → Prop}
variable {cc : ByteArray} {pc : Nat} {ls : Array Slot} {rest st0 : List Value} {D : va_G} {cy : Nat → ClassId} {A : Nat → Prop} {a : Nat} {ws X : va_W}
variable {y : MethodName} {bytes : ByteArray} {maxL nL n index d : Nat} {ret : Option FieldType} {wy : List Cond} {Ts : List Cond} {own C host : String} {b : Nat} {As : List Value}
theorem q_blindA {av : List Value} {sz : Nat} : FrameBlind (va_Pc av (fun U => U.heap.size = sz ∧ va_P D vwCl X U.heap ∧ q_K D cy U ∧ va_D (fun _ => True) X ∧ q_StA (va_A X sz) U U.heap)) := fun _ U g mk h => ⟨h.1, h.2.1, h.2.2.1, q_K.same (u := U) (U := U.calling g mk _) rfl h.2.2.2.1, h.2.2.2.2.1, q_StA.moved (u := U) (U := U.calling g mk _) (Vm.Alike.refl U.vm) h.2.2.2.2.2⟩
theorem q_wiaV {post : Int32 → va_W → Prop} {wr : va_W} (S : CallFix p m c cc nL s args Ts own) (hM : q_WiA l y wy d D cy X (.ref b :: As) post) (cw : CallW R s args own C index y bytes maxL ret wy (q_rm d) 0 0 n) (hP : va_P D vwCl ws H) (hD : va_D A ws) (hS : va_S A s.heap H locs) (hA : ∀ q, s.heap.size ≤ q → A q) (hK : q_K D cy s) (hZ : q_StA A s s.heap) (is ir : List Nat) (his : is.filterMap (fun i => ws[i]?) = X) (hC1 : is.map (fun i => ws[i]?) = X.map some) (hnd : va_nd is = true) (hR1 : ir.map (fun i => ws[i]?) = wr.map some) (hnr : va_nd ir = true) (hdis : ∀ i ∈ ir, i ∉ is) (q0 : Nat) {ci : Nat} {fs : List Value} (he : ws[q0]? = some (b, .inr (ci, fs))) {q : vw_C} (hc : vwCl[ci]? = some q) (hC : q.1 = C)
    (hn : As.length = n) (hsize : ls.size = nL) (hst : st0 = As.reverse ++ .ref b :: rest) (hW : (rest.map fun v => v.category).sum ≤ 8) (hdg : decode cc pc = .ok (.invokevirtual index, 3)) (hcs : cells ≤ R.cells ∧ slots ≤ R.slots) (kk : ∀ (r : Int32) (u : va_W) (H1 : Heap) (locs1 : List Loc), post r u → va_P D vwCl (wr ++ u) H1 → va_D A (wr ++ u) → va_S A s.heap H1 locs1 → W p l e R s m args below meth c H1 locs1 cells slots Q (F0 m (pc + 3) ls (.int r :: rest))) : W p l e R s m args below meth c H locs cells slots Q (F0 m pc ls st0) := by
  have hPc := hP.sub is his
  have hDc := hD.sub is hnd hC1
  have hFc := va_free hD hS hA is hC1
  have hZc : q_StA (va_A X H.size) s H := (hZ.kept (fun a h1 h2 => hS.2.1 a h1 h2)).narrow hFc
  refine va_calli (va_runV S (hM H.size) cw ⟨q_blindA, (by subst hC; exact va_recv hK.1 hP hc he), fun U hU hW => ⟨rfl, by rw [hU], by rw [hU]; exact hPc, hK.warm hW, hDc.weaken (fun _ _ _ _ => trivial), by rw [hU]; exact hZc.moved hW.alike⟩⟩ rfl hn hsize hst (lv_room hW) hdg hcs) hS (fun q _ h => hFc q h) hFc (fun r u t H1 locs1 ht hvm hw hB hz1 hk1 hS1 => ?_)
  obtain ⟨hP1, hD1⟩ := hB
  rw [ht] at hP1
  obtain ⟨hP2, hD2⟩ := va_join hP hD is ir hC1 hR1 hnr hdis hk1 hFc hP1 hD1
  exact kk r u H1 locs1 hw hP2 hD2 hS1
end Q7A
theorem nX6_undo_0_0 : ∀ w ∈ wsX60, w ∈ wsX6_undo := by decide +kernel
theorem mX6_undo_0_1 : Cond.fieldLink RX6 26 "ClueLeave" "acts" "LClueLeave$Acts;" ∈ wsX6_undo := by decide +kernel
theorem mX6_undo_0_2 : Cond.constant RX6 129 (-1000002) ∈ wsX6_undo := by decide +kernel
set_option maxHeartbeats 4000000 in
set_option maxRecDepth 100000 in
theorem c_X6_undo_0 (l : Launch) (D : va_G) (cy : Nat → ClassId) (x0 r0 t0 s0 k0 j0 im : Nat) (st : Int32) (h kA tA eA oA : Nat) (w : Nat → Nat) (fk ft fe fo : Nat → Int32) (hw : ctIs w fk ft fe fo) (hv : ctOk w) (q qs qc qb : Nat) (fs fc fb : Nat → Int32) (nx kp : Nat) (hnx : nx < 24) (hkp : kp ≤ 24) (hk0 : kp = 0) : q_Wi l yX6_undo wsX6_undo 2 D cy [(x0, .inr (6, [.ref r0, .ref t0, .ref q, .ref s0, .ref k0, .ref h, .ref j0, .ref im, .int (st)])), (h, .inr (2, [.int (nI (w 0)), .int (nI (w 1)), .int (nI (w 2)), .int (nI (w 4)), .int (nI (w 3)), .ref kA, .ref tA, .ref eA, .ref oA])), (kA, .inl (cy 0, 6, .inl fk)), (tA, .inl (cy 0, 6, .inl ft)), (eA, .inl (cy 0, 6, .inl fe)), (oA, .inl (cy 0, 6, .inl fo)), (q, .inr (0, [.ref qs, .ref qc, .ref qb, .int (nI nx), .int (nI kp)])), (qs, .inl (cy 0, 24, .inl fs)), (qc, .inl (cy 0, 24, .inl fc)), (qb, .inl (cy 0, 24, .inl fb))] [.ref x0] (fun r u => r = -1000002 ∧ u = [(x0, .inr (6, [.ref r0, .ref t0, .ref q, .ref s0, .ref k0, .ref h, .ref j0, .ref im, .int (st)])), (h, .inr (2, [.int (nI (w 0)), .int (nI (w 1)), .int (nI (w 2)), .int (nI (w 4)), .int (nI (w 3)), .ref kA, .ref tA, .ref eA, .ref oA])), (kA, .inl (cy 0, 6, .inl fk)), (tA, .inl (cy 0, 6, .inl ft)), (eA, .inl (cy 0, 6, .inl fe)), (oA, .inl (cy 0, 6, .inl fo)), (q, .inr (0, [.ref qs, .ref qc, .ref qb, .int (nI nx), .int (nI kp)])), (qs, .inl (cy 0, 24, .inl fs)), (qc, .inl (cy 0, 24, .inl fc)), (qb, .inl (cy 0, 24, .inl fb))]) := by
  refine q_wi_of (cc := cX6_undo) (maxL := 1) (ret := (some .int)) (by decide) rfl (Nat.le_of_ble_eq_true rfl) ?_
  intro pg en s mi args below meth cd A hC hA hK H locs hP hD hS ls hl
  obtain ⟨hx, hb, hr, hml, hown, hts, hlocks⟩ := hC
  have hl : lv_has ls 1 [(0, .ref x0)] := hl
  obtain ⟨hv0, hv1, hv2, hv3, hv4, hvc⟩ := id hv
  refine lv_aload_n hx hb dX6_undo_0 rfl (lv_at hl 0 rfl) ?_
  refine va_get (D := D) (ci := 6) (v := .ref q) (C := RX6) (T := TX6) (N := 9) hx hb hts nX6_undo_0_0 hown hK.1 hP 0 rfl rfl 2 (by decide) (hts _ mX6_undo_0_1) (fun _ h9 => h9) rfl dX6_undo_1 ?_
  refine q_rV (As := []) (rest := []) ⟨hx, hb, hml, hown, hts⟩ (c_X0_kept l D cy q qs qc qb fs fc fb nx kp hnx hkp) (cwV 0 hts gX6_undo_X0_kept rfl rfl rfl (by decide +kernel) ⟨Nat.le_of_ble_eq_true rfl, Nat.le_of_ble_eq_true rfl⟩) hP hK [6, 7, 8, 9] rfl 6 rfl rfl rfl rfl hl.1 rfl (Nat.le_of_ble_eq_true rfl) dX6_undo_4 ⟨Nat.zero_le _, Nat.zero_le _⟩ (fun r1 hr1 => ?_)
  obtain rfl := hr1
  refine q_if_ne (tgt := 13) hx hb dX6_undo_7 (by decide) (by omega) (fun c2 => absurd c2 (by omega)) (fun c2 => ?_)
  refine lv_ldc (v := (-1000002)) hx hb hown (hts _ mX6_undo_0_2) dX6_undo_10 ?_
  have hP9 := hP
  have hD9 := hD
  exact q_wiret (v := (-1000002)) hx hb hr hlocks dX6_undo_12 hP9 hD9 hS (⟨rfl, rfl⟩)
theorem nX6_undo_k_0 : ∀ w ∈ wsX60, w ∈ wsX6_undo := by decide +kernel
theorem mX6_undo_k_1 : Cond.fieldLink RX6 26 "ClueLeave" "acts" "LClueLeave$Acts;" ∈ wsX6_undo := by decide +kernel
theorem mX6_undo_k_2 : Cond.fieldLink RX6 47 "ClueLeave" "city" "LClueLeave$City;" ∈ wsX6_undo := by decide +kernel
set_option maxHeartbeats 4000000 in
set_option maxRecDepth 100000 in
theorem c_X6_undo_k (l : Launch) (D : va_G) (cy : Nat → ClassId) (x0 r0 t0 s0 k0 j0 im : Nat) (st : Int32) (h kA tA eA oA : Nat) (w : Nat → Nat) (fk ft fe fo : Nat → Int32) (hw : ctIs w fk ft fe fo) (hv : ctOk w) (q qs qc qb : Nat) (fs fc fb : Nat → Int32) (nx kp : Nat) (hnx : nx < 24) (hkp : kp ≤ 24) (so cl be : Nat) (hu1 : fs ((nx + 24 - 1) % 24) = nI so) (hu2 : fc ((nx + 24 - 1) % 24) = nI cl) (hu3 : fb ((nx + 24 - 1) % 24) = nI be) (hso : so ≤ 3) (hcl : so = 2 ∨ so = 3 → cl < w 4) (hd : so = 0 → 1 ≤ w 2) (hk1 : 1 ≤ kp) : q_Wi l yX6_undo wsX6_undo 2 D cy [(x0, .inr (6, [.ref r0, .ref t0, .ref q, .ref s0, .ref k0, .ref h, .ref j0, .ref im, .int (st)])), (h, .inr (2, [.int (nI (w 0)), .int (nI (w 1)), .int (nI (w 2)), .int (nI (w 4)), .int (nI (w 3)), .ref kA, .ref tA, .ref eA, .ref oA])), (kA, .inl (cy 0, 6, .inl fk)), (tA, .inl (cy 0, 6, .inl ft)), (eA, .inl (cy 0, 6, .inl fe)), (oA, .inl (cy 0, 6, .inl fo)), (q, .inr (0, [.ref qs, .ref qc, .ref qb, .int (nI nx), .int (nI kp)])), (qs, .inl (cy 0, 24, .inl fs)), (qc, .inl (cy 0, 24, .inl fc)), (qb, .inl (cy 0, 24, .inl fb))] [.ref x0] (fun r u => ∃ ft2 fo2 : Nat → Int32, ctIs (ctUn w so cl be) fk ft2 fe fo2 ∧ r = nI (kp - 1) ∧ u = [(x0, .inr (6, [.ref r0, .ref t0, .ref q, .ref s0, .ref k0, .ref h, .ref j0, .ref im, .int (st)])), (h, .inr (2, [.int (nI ((ctUn w so cl be) 0)), .int (nI ((ctUn w so cl be) 1)), .int (nI ((ctUn w so cl be) 2)), .int (nI ((ctUn w so cl be) 4)), .int (nI ((ctUn w so cl be) 3)), .ref kA, .ref tA, .ref eA, .ref oA])), (kA, .inl (cy 0, 6, .inl fk)), (tA, .inl (cy 0, 6, .inl ft2)), (eA, .inl (cy 0, 6, .inl fe)), (oA, .inl (cy 0, 6, .inl fo2)), (q, .inr (0, [.ref qs, .ref qc, .ref qb, .int (nI ((nx + 24 - 1) % 24)), .int (nI (kp - 1))])), (qs, .inl (cy 0, 24, .inl fs)), (qc, .inl (cy 0, 24, .inl fc)), (qb, .inl (cy 0, 24, .inl fb))]) := by
  refine q_wi_of (cc := cX6_undo) (maxL := 1) (ret := (some .int)) (by decide) rfl (Nat.le_of_ble_eq_true rfl) ?_
  intro pg en s mi args below meth cd A hC hA hK H locs hP hD hS ls hl
  obtain ⟨hx, hb, hr, hml, hown, hts, hlocks⟩ := hC
  have hl : lv_has ls 1 [(0, .ref x0)] := hl
  obtain ⟨hv0, hv1, hv2, hv3, hv4, hvc⟩ := id hv
  refine lv_aload_n hx hb dX6_undo_0 rfl (lv_at hl 0 rfl) ?_
  refine va_get (D := D) (ci := 6) (v := .ref q) (C := RX6) (T := TX6) (N := 9) hx hb hts nX6_undo_k_0 hown hK.1 hP 0 rfl rfl 2 (by decide) (hts _ mX6_undo_k_1) (fun _ h9 => h9) rfl dX6_undo_1 ?_
  refine q_rV (As := []) (rest := []) ⟨hx, hb, hml, hown, hts⟩ (c_X0_kept l D cy q qs qc qb fs fc fb nx kp hnx hkp) (cwV 0 hts gX6_undo_X0_kept rfl rfl rfl (by decide +kernel) ⟨Nat.le_of_ble_eq_true rfl, Nat.le_of_ble_eq_true rfl⟩) hP hK [6, 7, 8, 9] rfl 6 rfl rfl rfl rfl hl.1 rfl (Nat.le_of_ble_eq_true rfl) dX6_undo_4 ⟨Nat.zero_le _, Nat.zero_le _⟩ (fun r1 hr1 => ?_)
  obtain rfl := hr1
  refine q_if_ne (tgt := 13) hx hb dX6_undo_7 (by decide) (by omega) (fun c2 => ?_) (fun c2 => absurd c2 (by omega))
  refine lv_aload_n hx hb dX6_undo_13 rfl (lv_at hl 0 rfl) ?_
  refine va_get (D := D) (ci := 6) (v := .ref q) (C := RX6) (T := TX6) (N := 9) hx hb hts nX6_undo_k_0 hown hK.1 hP 0 rfl rfl 2 (by decide) (hts _ mX6_undo_k_1) (fun _ h9 => h9) rfl dX6_undo_14 ?_
  refine lv_aload_n hx hb dX6_undo_17 rfl (lv_at hl 0 rfl) ?_
  refine va_get (D := D) (ci := 6) (v := .ref h) (C := RX6) (T := TX6) (N := 9) hx hb hts nX6_undo_k_0 hown hK.1 hP 0 rfl rfl 5 (by decide) (hts _ mX6_undo_k_2) (fun _ h9 => h9) rfl dX6_undo_18 ?_
  refine q_wvV (As := [.ref h]) (rest := []) (wr := [(x0, .inr (6, [.ref r0, .ref t0, .ref q, .ref s0, .ref k0, .ref h, .ref j0, .ref im, .int (st)]))]) ⟨hx, hb, hml, hown, hts⟩ (c_X0_takeBack l D cy q qs qc qb fs fc fb nx kp hnx hkp h kA tA eA oA w fk ft fe fo hw hv so cl be hu1 hu2 hu3 hso hcl hd (by omega)) (cwV 1 hts gX6_undo_X0_takeBack rfl rfl rfl (by decide +kernel) ⟨Nat.le_of_ble_eq_true rfl, Nat.le_of_ble_eq_true rfl⟩) hP hD hS hA hK [6, 7, 8, 9, 1, 2, 3, 4, 5] [0] rfl rfl (by decide) rfl (by decide) (by decide) 6 rfl rfl rfl rfl hl.1 rfl (Nat.le_of_ble_eq_true rfl) dX6_undo_21 ⟨Nat.zero_le _, Nat.zero_le _⟩ (fun u4 H locs hr3 hP hD hS => ?_)
  obtain ⟨ft2, fo2, hu8, rfl⟩ := hr3
  have hP : va_P D vwCl [(x0, .inr (6, [.ref r0, .ref t0, .ref q, .ref s0, .ref k0, .ref h, .ref j0, .ref im, .int (st)])), (q, .inr (0, [.ref qs, .ref qc, .ref qb, .int (nI ((nx + 24 - 1) % 24)), .int (nI (kp - 1))])), (qs, .inl (cy 0, 24, .inl fs)), (qc, .inl (cy 0, 24, .inl fc)), (qb, .inl (cy 0, 24, .inl fb)), (h, .inr (2, [.int (nI ((ctUn w so cl be) 0)), .int (nI ((ctUn w so cl be) 1)), .int (nI ((ctUn w so cl be) 2)), .int (nI ((ctUn w so cl be) 4)), .int (nI ((ctUn w so cl be) 3)), .ref kA, .ref tA, .ref eA, .ref oA])), (kA, .inl (cy 0, 6, .inl fk)), (tA, .inl (cy 0, 6, .inl ft2)), (eA, .inl (cy 0, 6, .inl fe)), (oA, .inl (cy 0, 6, .inl fo2))] H := hP
  have hD : va_D A [(x0, .inr (6, [.ref r0, .ref t0, .ref q, .ref s0, .ref k0, .ref h, .ref j0, .ref im, .int (st)])), (q, .inr (0, [.ref qs, .ref qc, .ref qb, .int (nI ((nx + 24 - 1) % 24)), .int (nI (kp - 1))])), (qs, .inl (cy 0, 24, .inl fs)), (qc, .inl (cy 0, 24, .inl fc)), (qb, .inl (cy 0, 24, .inl fb)), (h, .inr (2, [.int (nI ((ctUn w so cl be) 0)), .int (nI ((ctUn w so cl be) 1)), .int (nI ((ctUn w so cl be) 2)), .int (nI ((ctUn w so cl be) 4)), .int (nI ((ctUn w so cl be) 3)), .ref kA, .ref tA, .ref eA, .ref oA])), (kA, .inl (cy 0, 6, .inl fk)), (tA, .inl (cy 0, 6, .inl ft2)), (eA, .inl (cy 0, 6, .inl fe)), (oA, .inl (cy 0, 6, .inl fo2))] := hD
  refine lv_aload_n hx hb dX6_undo_24 rfl (lv_at hl 0 rfl) ?_
  refine va_get (D := D) (ci := 6) (v := .ref q) (C := RX6) (T := TX6) (N := 9) hx hb hts nX6_undo_k_0 hown hK.1 hP 0 rfl rfl 2 (by decide) (hts _ mX6_undo_k_1) (fun _ h9 => h9) rfl dX6_undo_25 ?_
  refine q_rV (As := []) (rest := []) ⟨hx, hb, hml, hown, hts⟩ (c_X0_kept l D cy q qs qc qb fs fc fb ((nx + 24 - 1) % 24) (kp - 1) (Nat.mod_lt _ (by decide)) (by omega)) (cwV 0 hts gX6_undo_X0_kept rfl rfl rfl (by decide +kernel) ⟨Nat.le_of_ble_eq_true rfl, Nat.le_of_ble_eq_true rfl⟩) hP hK [1, 2, 3, 4] rfl 1 rfl rfl rfl rfl hl.1 rfl (Nat.le_of_ble_eq_true rfl) dX6_undo_28 ⟨Nat.zero_le _, Nat.zero_le _⟩ (fun r5 hr5 => ?_)
  obtain rfl := hr5
  have hP9 := hP.sub (ws' := [(x0, .inr (6, [.ref r0, .ref t0, .ref q, .ref s0, .ref k0, .ref h, .ref j0, .ref im, .int (st)])), (h, .inr (2, [.int (nI ((ctUn w so cl be) 0)), .int (nI ((ctUn w so cl be) 1)), .int (nI ((ctUn w so cl be) 2)), .int (nI ((ctUn w so cl be) 4)), .int (nI ((ctUn w so cl be) 3)), .ref kA, .ref tA, .ref eA, .ref oA])), (kA, .inl (cy 0, 6, .inl fk)), (tA, .inl (cy 0, 6, .inl ft2)), (eA, .inl (cy 0, 6, .inl fe)), (oA, .inl (cy 0, 6, .inl fo2)), (q, .inr (0, [.ref qs, .ref qc, .ref qb, .int (nI ((nx + 24 - 1) % 24)), .int (nI (kp - 1))])), (qs, .inl (cy 0, 24, .inl fs)), (qc, .inl (cy 0, 24, .inl fc)), (qb, .inl (cy 0, 24, .inl fb))]) [0, 5, 6, 7, 8, 9, 1, 2, 3, 4] rfl
  have hD9 := hD.sub (ws' := [(x0, .inr (6, [.ref r0, .ref t0, .ref q, .ref s0, .ref k0, .ref h, .ref j0, .ref im, .int (st)])), (h, .inr (2, [.int (nI ((ctUn w so cl be) 0)), .int (nI ((ctUn w so cl be) 1)), .int (nI ((ctUn w so cl be) 2)), .int (nI ((ctUn w so cl be) 4)), .int (nI ((ctUn w so cl be) 3)), .ref kA, .ref tA, .ref eA, .ref oA])), (kA, .inl (cy 0, 6, .inl fk)), (tA, .inl (cy 0, 6, .inl ft2)), (eA, .inl (cy 0, 6, .inl fe)), (oA, .inl (cy 0, 6, .inl fo2)), (q, .inr (0, [.ref qs, .ref qc, .ref qb, .int (nI ((nx + 24 - 1) % 24)), .int (nI (kp - 1))])), (qs, .inl (cy 0, 24, .inl fs)), (qc, .inl (cy 0, 24, .inl fc)), (qb, .inl (cy 0, 24, .inl fb))]) [0, 5, 6, 7, 8, 9, 1, 2, 3, 4] (by decide) rfl
  exact q_wiret (v := nI (kp - 1)) hx hb hr hlocks dX6_undo_31 hP9 hD9 hS (⟨ft2, fo2, hu8, rfl, rfl⟩)

section Q9
variable {p : Program} {l : Launch} {e : Env} {R : Room} {s : State} {m : MethodId} {args : Array Value} {below : List Frame} {meth : Method} {c : Code} {H : Heap} {locs : List Loc} {cells slots : Nat} {Q : State → Prop}
variable {cc : ByteArray} {pc : Nat} {ls : Array Slot} {rest st0 : List Value} {D : va_G} {cy : Nat → ClassId} {A : Nat → Prop} {a : Nat} {ws X : va_W} {H0 : Heap}
theorem q_zald (hexec : p.tables.exec = Jvm.exec) (hb : c.code = cc) (hK : q_K D cy s) (hP : va_P D vwCl ws H) (q0 : Nat) {n j : Nat} {f : Nat → Int32} {v : Int32} (ha : ws[q0]? = some (a, .inl (cy 1, n, .inl f))) (hj : j < n) (hn : n < 2 ^ 31) (hv : f j = v) (hdg : decode cc pc = .ok (.baload, 1)) (kk : W p l e R s m args below meth c H locs cells slots Q (F0 m (pc + 1) ls (.int v :: rest))) : W p l e R s m args below meth c H locs cells slots Q (F0 m pc ls (.int (nI j) :: .ref a :: rest)) :=
  va_zald hexec hb hK.1 hP q0 1 ha rfl (vp_in_nI hj hn) hdg (by rw [nI_clamp (by omega), hv]; exact kk)
theorem q_zast (hexec : p.tables.exec = Jvm.exec) (hb : c.code = cc) (hK : q_K D cy s) (hP : va_P D vwCl ws H) (hD : va_D A ws) (hS : va_S A H0 H locs) (q0 : Nat) {n j : Nat} {f : Nat → Int32} {x : Int32} (ha : ws[q0]? = some (a, .inl (cy 1, n, .inl f))) (hj : j < n) (hn : n < 2 ^ 31) (hxx : vp_nar .boolean x = x) (hdg : decode cc pc = .ok (.bastore, 1)) (kk : ∀ (H1 : Heap) (locs1 : List Loc), va_P D vwCl (ws.set q0 (a, .inl (cy 1, n, .inl (upd f j x)))) H1 → va_D A (ws.set q0 (a, .inl (cy 1, n, .inl (upd f j x)))) → va_S A H0 H1 locs1 → W p l e R s m args below meth c H1 locs1 cells slots Q (F0 m (pc + 1) ls rest)) : W p l e R s m args below meth c H locs cells slots Q (F0 m pc ls (.int x :: .int (nI j) :: .ref a :: rest)) :=
  va_zast hexec hb hK.1 hP hD hS q0 1 ha rfl (vp_in_nI hj hn) hdg (by rw [nI_clamp (by omega), hxx]; exact kk)
end Q9
/-! the model's acts: the cities ahead of them -/
def paIs (sn : Nat → Nat → Nat) (ac : Nat) (fp : Nat → Int32) : Prop := ∀ i, i < ac → ∀ k, k < 29 → fp (29 * i + k) = nI (sn i k)
def ntS (sn : Nat → Nat → Nat) (ac : Nat) (w : Nat → Nat) : Nat → Nat → Nat := if ac = 24 then fun i => if i = 23 then w else sn (i + 1) else fun i => if i = ac then w else sn i
def shF (fp : Nat → Int32) (k : Nat) : Nat → Int32 := fun q => if q < k then fp (q + 29) else fp q
theorem shF_0 (fp : Nat → Int32) : shF fp 0 = fp := funext fun q => if_neg (Nat.not_lt_zero q)
theorem shF_s (fp : Nat → Int32) (k : Nat) : upd (shF fp k) k (shF fp k (k + 29)) = shF fp (k + 1) := by
  funext q
  by_cases e : q = k
  · subst e; rw [pk_us]; unfold shF; rw [if_neg (by omega), if_pos (by omega)]
  · rw [pk_un e]; unfold shF
    by_cases h : q < k
    · rw [if_pos h, if_pos (by omega)]
    · rw [if_neg h, if_neg (by omega)]
theorem paIs_f {w : Nat → Nat} {f : Nat → Int32} {sn : Nat → Nat → Nat} {ac : Nat} {fp : Nat → Int32} (hm : mwIs w f) (h : paIs sn ac fp) (hac : ac = 24) : paIs (ntS sn ac w) (min (ac + 1) 24) (va_cpy f (shF fp 667) 0 (29 * (ac - 1)) 29) := by
  subst hac
  intro i hi k hk
  have hi2 : i < 24 := by omega
  unfold ntS
  rw [if_pos rfl]
  by_cases e : i = 23
  · subst e
    rw [pk_cpy_in (by omega) (by omega)]
    simp only [if_true]
    have e9 : 0 + (29 * 23 + k - 29 * (24 - 1)) = k := by omega
    rw [e9]
    exact hm k hk
  · simp only [if_neg e]
    rw [pk_cpy_out (by omega), ← h (i + 1) (by omega) k hk]
    unfold shF
    rw [if_pos (by omega)]
    congr 1; omega
theorem paIs_n {w : Nat → Nat} {f : Nat → Int32} {sn : Nat → Nat → Nat} {ac : Nat} {fp : Nat → Int32} (hm : mwIs w f) (h : paIs sn ac fp) (hac : ac ≠ 24) (hac2 : ac ≤ 24) : paIs (ntS sn ac w) (min (ac + 1) 24) (va_cpy f fp 0 (29 * ac) 29) := by
  intro i hi k hk
  unfold ntS
  rw [if_neg hac]
  by_cases e : i = ac
  · subst e
    rw [pk_cpy_in (by omega) (by omega)]
    simp only [if_true]
    rw [← hm k hk]; congr 1; omega
  · simp only [if_neg e]
    rw [pk_cpy_out (by omega)]
    exact h i (by omega) k hk
theorem mwIs_set {w : Nat → Nat} {f : Nat → Int32} {j z v : Nat} (hm : mwIs w f) (hj : j = z) (h5 : 5 ≤ z) : mwIs (ctSet w z v) (upd f j (nI v)) := fun k hk => by
  subst hj
  unfold ctSet
  by_cases e : k = j
  · subst e; rw [pk_us, if_neg (by omega), if_pos rfl]
  · rw [pk_un e, hm k hk]
    by_cases q : k < 5
    · rw [if_pos q]
    · rw [if_neg q, if_neg e]
theorem mwIs_br {w : Nat → Nat} {f : Nat → Int32} {c : Nat} (hm : mwIs w f) : mwIs (ctBr w c) (upd f 3 (nI (w 3 ^^^ (1 * 2 ^ c)))) := fun k hk => by
  unfold ctBr
  by_cases e : k = 3
  · subst e; rw [pk_us, if_pos rfl]
  · rw [pk_un e, if_neg e]; exact hm k hk
theorem mwIs_d0 {w : Nat → Nat} {f : Nat → Int32} (hm : mwIs w f) : mwIs (ctDay w 0) f := fun k hk => by
  unfold ctDay
  split
  · next e => subst e; exact hm 2 hk
  · exact hm k hk
theorem mwIs_ds {w : Nat → Nat} {f : Nat → Int32} {i : Nat} (hm : mwIs (ctDay w i) f) : mwIs (ctDay w (i + 1)) (upd f 2 (nI (ctDay w i 2 + 1))) := fun k hk => by
  by_cases e : k = 2
  · subst e; rw [pk_us]; rfl
  · rw [pk_un e, hm k hk]; unfold ctDay; rw [if_neg e, if_neg e]
def mnD (sn : Nat → Nat → Nat) (ac : Nat) (w : Nat → Nat) : Nat → (Nat → Nat → Nat) × Nat
  | 0 => (sn, ac)
  | i + 1 => (ntS (mnD sn ac w i).1 (mnD sn ac w i).2 (ctDay w i), min ((mnD sn ac w i).2 + 1) 24)
theorem mnD_le {sn : Nat → Nat → Nat} {ac : Nat} {w : Nat → Nat} (i : Nat) (h : ac ≤ 24) : (mnD sn ac w i).2 ≤ 24 := by
  cases i with
  | zero => exact h
  | succ i => exact Nat.min_le_right _ _
theorem mwIs_un {sn : Nat → Nat → Nat} {ac : Nat} {fp f : Nat → Int32} (h : paIs sn ac fp) (h0 : 0 < ac) : mwIs (sn (ac - 1)) (va_cpy fp f (29 * (ac - 1)) 0 29) := fun k hk => by
  rw [pk_cpy_in (by omega) (by omega)]
  exact h (ac - 1) (by omega) k hk
theorem tb_dy {a b m : Nat} (h : a / 2 ^ b &&& 1 = m) (hm : m ≤ 1) : a.testBit b = decide (m = 1) := by
  rw [← h]
  by_cases q : a.testBit b = true
  · rw [q, (q_tb a b).mp q]; rfl
  · rw [Bool.eq_false_iff.mpr q]
    exact (decide_eq_false (fun z => q ((q_tb a b).mpr z))).symm
theorem tb_dn {a b m : Nat} (h : a / 2 ^ b &&& 1 ≠ m) (hm : m ≤ 1) : ¬ a.testBit b = decide (m = 1) := fun q => by
  have h1 := q_tb_lt a b
  by_cases z : m = 1
  · rw [decide_eq_true z] at q
    exact h (by rw [(q_tb a b).mp q, z])
  · rw [decide_eq_false z] at q
    have h2 : ¬ a / 2 ^ b &&& 1 = 1 := fun y => by rw [(q_tb a b).mpr y] at q; exact Bool.noConfusion q
    omega
abbrev mAc : Type := Int32 × (Nat → Nat) × (Nat → Nat → Nat) × Nat
def mLearn (w : Nat → Nat) (sn : Nat → Nat → Nat) (ac : Nat) (x t : Int32) : mAc :=
  if inC (w 4) x then if nI 1 ≤ t ∧ t ≤ nI (ctAll w) then (nI (ctT w x.toNatClampNeg), ctSet w (6 + 4 * x.toNatClampNeg) t.toNatClampNeg, ntS sn ac w, min (ac + 1) 24) else (-1000001, w, sn, ac) else (-1000001, w, sn, ac)
def mShift (w : Nat → Nat) (sn : Nat → Nat → Nat) (ac : Nat) (x t : Int32) : mAc :=
  if inC (w 4) x then if nI 0 ≤ t ∧ t ≤ nI (ctE w x.toNatClampNeg - 1) then (nI (ctO w x.toNatClampNeg), ctSet w (8 + 4 * x.toNatClampNeg) t.toNatClampNeg, ntS sn ac w, min (ac + 1) 24) else (-1000001, w, sn, ac) else (-1000001, w, sn, ac)
def mBribe (w : Nat → Nat) (sn : Nat → Nat → Nat) (ac : Nat) (x t : Int32) : mAc :=
  if inC (w 4) x then if inW 1 t then if (w 3).testBit x.toNatClampNeg = decide (t.toNatClampNeg = 1) then (-1000002, w, sn, ac) else (nI (w 3 ^^^ (1 * 2 ^ x.toNatClampNeg)), ctBr w x.toNatClampNeg, ntS sn ac w, min (ac + 1) 24) else (-1000001, w, sn, ac) else (-1000001, w, sn, ac)
def mDays (w : Nat → Nat) (sn : Nat → Nat → Nat) (ac : Nat) (n : Int32) : mAc :=
  if 0 < w 0 then if nI 1 ≤ n ∧ n ≤ nI 24 then if w 2 + n.toNatClampNeg ≤ 999 then (nI (ctLeft (ctDay w n.toNatClampNeg) (w 2 + n.toNatClampNeg)), ctDay w n.toNatClampNeg, (mnD sn ac w n.toNatClampNeg).1, (mnD sn ac w n.toNatClampNeg).2) else (-1000003, w, sn, ac) else (-1000001, w, sn, ac) else (-1000002, w, sn, ac)
/-! images -/
def b0C (w : Nat → Nat) : Int32 := if 0 < w 0 then nI 1 else nI 0
theorem b0C_c (w : Nat → Nat) : (0 < w 0 ∧ b0C w = nI 1) ∨ (¬ 0 < w 0 ∧ b0C w = nI 0) := by
  unfold b0C
  by_cases h : 0 < w 0
  · exact Or.inl ⟨h, if_pos h⟩
  · exact Or.inr ⟨h, if_neg h⟩
def igIs (w0 w1 : Nat → Nat) (fg fx : Nat → Int32) : Prop := fx 0 = b0C w0 ∧ fx 1 = b0C w1 ∧ (0 < w0 0 → ∀ k, k < 29 → fg k = nI (w0 k)) ∧ (0 < w1 0 → ∀ k, k < 29 → fg (29 + k) = nI (w1 k))
theorem igIs_0 {w w0 w1 : Nat → Nat} {f fg fx : Nat → Int32} (hm : mwIs w f) (h : igIs w0 w1 fg fx) (hs : 0 < w 0) : igIs w w1 (va_cpy f fg 0 0 29) (upd fx 0 (nI 1)) := by
  refine ⟨by rw [pk_us]; exact (if_pos hs).symm, by rw [pk_un (by decide)]; exact h.2.1, fun _ k hk => ?_, fun h1 k hk => ?_⟩
  · rw [pk_cpy_in (by omega) (by omega), ← hm k hk]; congr 1; omega
  · rw [pk_cpy_out (by omega)]; exact h.2.2.2 h1 k hk
theorem igIs_1 {w w0 w1 : Nat → Nat} {f fg fx : Nat → Int32} (hm : mwIs w f) (h : igIs w0 w1 fg fx) (hs : 0 < w 0) : igIs w0 w (va_cpy f fg 0 29 29) (upd fx 1 (nI 1)) := by
  refine ⟨by rw [pk_un (by decide)]; exact h.1, by rw [pk_us]; exact (if_pos hs).symm, fun h1 k hk => ?_, fun _ k hk => ?_⟩
  · rw [pk_cpy_out (by omega)]; exact h.2.2.1 h1 k hk
  · rw [pk_cpy_in (by omega) (by omega), ← hm k hk]; congr 1; omega
theorem igIs_r0 {w0 w1 : Nat → Nat} {f fg fx : Nat → Int32} (h : igIs w0 w1 fg fx) (hs : 0 < w0 0) : mwIs w0 (va_cpy fg f 0 0 29) := fun k hk => by
  rw [pk_cpy_in (by omega) (by omega), ← h.2.2.1 hs k hk]; congr 1; omega
theorem igIs_r1 {w0 w1 : Nat → Nat} {f fg fx : Nat → Int32} (h : igIs w0 w1 fg fx) (hs : 0 < w1 0) : mwIs w1 (va_cpy fg f 29 0 29) := fun k hk => by
  rw [pk_cpy_in (by omega) (by omega), ← h.2.2.2 hs k hk]; congr 1
theorem asM_fin : ∀ k, k < 6 → ∀ m, m < 6 → ((asM k).testBit m = true ↔ (1 ≤ k ∧ (m = 0 ∨ m = k ∨ (m = 1 ∧ k < 4) ∨ (m = 4 ∧ k = 5))) ∨ (k = 0 ∧ m = 0)) := by decide +kernel
theorem asM_y {k m : Nat} (h1 : 1 ≤ k) (h5 : k ≤ 5) (hm : m ≤ 5) (h : m = 0 ∨ m = k ∨ (m = 1 ∧ k < 4) ∨ (m = 4 ∧ k = 5)) : (asM k).testBit m = true := (asM_fin k (by omega) m (by omega)).mpr (Or.inl ⟨h1, h⟩)
theorem asM_n {k m : Nat} (h1 : 1 ≤ k) (h5 : k ≤ 5) (hm : m ≤ 5) (h : ¬ (m = 0 ∨ m = k ∨ (m = 1 ∧ k < 4) ∨ (m = 4 ∧ k = 5))) : ¬ (asM k).testBit m = true := fun q => by
  have := (asM_fin k (by omega) m (by omega)).mp q
  omega
theorem nX7_notes_0 : ∀ w ∈ wsX70, w ∈ wsX7_notes := by decide +kernel
theorem mX7_notes_1 : Cond.fieldLink RX7 135 "ClueLeaveModel" "acts" "I" ∈ wsX7_notes := by decide +kernel
theorem mX7_notes_2 : Cond.fieldLink RX7 25 "ClueLeaveModel" "now" "[I" ∈ wsX7_notes := by decide +kernel
theorem mX7_notes_3 : Cond.fieldLink RX7 34 "ClueLeaveModel" "past" "[I" ∈ wsX7_notes := by decide +kernel
set_option maxHeartbeats 4000000 in
set_option maxRecDepth 100000 in
theorem c_X7_notes (l : Launch) (D : va_G) (cy : Nat → ClassId) (m0 ml mm mit ms mt nw dr tr pa ig kx be tc : Nat) (st fk fp av sv ov vv : Int32) (tn ac td : Nat) (f : Nat → Int32) (w : Nat → Nat) (hm : mwIs w f) (hv : ctOk w) (pst : Nat → Int32) (sn : Nat → Nat → Nat) (hac : ac ≤ 24) (hpa : paIs sn ac pst) : q_Wv l yX7_notes wsX7_notes 2 D cy [(m0, .inr (7, [.ref ml, .ref mm, .ref mit, .ref ms, .int (st), .ref mt, .int (nI tn), .int (fk), .int (fp), .int (av), .int (sv), .int (ov), .int (vv), .ref nw, .ref dr, .ref tr, .ref pa, .int (nI ac), .ref ig, .ref kx, .ref be, .ref tc, .int (nI td)])), (nw, .inl (cy 0, 29, .inl f)), (pa, .inl (cy 0, 696, .inl pst))] [.ref m0] (fun u => ∃ fp2 : Nat → Int32, paIs (ntS sn ac w) (min (ac + 1) 24) fp2 ∧ u = [(m0, .inr (7, [.ref ml, .ref mm, .ref mit, .ref ms, .int (st), .ref mt, .int (nI tn), .int (fk), .int (fp), .int (av), .int (sv), .int (ov), .int (vv), .ref nw, .ref dr, .ref tr, .ref pa, .int (nI (min (ac + 1) 24)), .ref ig, .ref kx, .ref be, .ref tc, .int (nI td)])), (nw, .inl (cy 0, 29, .inl f)), (pa, .inl (cy 0, 696, .inl fp2))]) := by
  refine q_wv_of (cc := cX7_notes) (maxL := 2) (ret := none) (by decide) rfl (Nat.le_of_ble_eq_true rfl) ?_
  intro pg en s mi args below meth cd A hC hA hK H locs hP hD hS ls hl
  obtain ⟨hx, hb, hr, hml, hown, hts, hlocks⟩ := hC
  have hl : lv_has ls 2 [(0, .ref m0)] := hl
  refine lv_aload_n hx hb dX7_notes_0 rfl (lv_at hl 0 rfl) ?_
  refine va_get (D := D) (ci := 7) (v := .int (nI ac)) (C := RX7) (T := TX7) (N := 23) hx hb hts nX7_notes_0 hown hK.1 hP 0 rfl rfl 17 (by decide) (hts _ mX7_notes_1) (fun _ h9 => h9) rfl dX7_notes_1 ?_
  refine lv_bipush (v := nI 24) hx hb dX7_notes_4 (by decide) ?_
  refine q_icmp_ne (tgt := 49) hx hb dX7_notes_6 (by decide) (by omega) (by decide) (fun c1 => ?_) (fun c1 => ?_)
  · refine lv_aload_n hx hb dX7_notes_49 rfl (lv_at hl 0 rfl) ?_
    refine va_get (D := D) (ci := 7) (v := .ref nw) (C := RX7) (T := TX7) (N := 23) hx hb hts nX7_notes_0 hown hK.1 hP 0 rfl rfl 13 (by decide) (hts _ mX7_notes_2) (fun _ h9 => h9) rfl dX7_notes_50 ?_
    refine lv_iconst (v := nI 0) hx hb dX7_notes_53 (by decide) ?_
    refine lv_aload_n hx hb dX7_notes_54 rfl (lv_at hl 0 rfl) ?_
    refine va_get (D := D) (ci := 7) (v := .ref pa) (C := RX7) (T := TX7) (N := 23) hx hb hts nX7_notes_0 hown hK.1 hP 0 rfl rfl 16 (by decide) (hts _ mX7_notes_3) (fun _ h9 => h9) rfl dX7_notes_55 ?_
    refine lv_bipush (v := nI 29) hx hb dX7_notes_58 (by decide) ?_
    refine lv_aload_n hx hb dX7_notes_60 rfl (lv_at hl 0 rfl) ?_
    refine va_get (D := D) (ci := 7) (v := .int (nI ac)) (C := RX7) (T := TX7) (N := 23) hx hb hts nX7_notes_0 hown hK.1 hP 0 rfl rfl 17 (by decide) (hts _ mX7_notes_1) (fun _ h9 => h9) rfl dX7_notes_61 ?_
    refine lv_imul hx hb dX7_notes_64 ?_
    refine q_top (y := nI (29 * ac)) (pk_mul _ _) ?_
    refine q_wvS (As := [.ref nw, .int (nI 0), .ref pa, .int (nI (29 * ac))]) (rest := []) (wr := [(m0, .inr (7, [.ref ml, .ref mm, .ref mit, .ref ms, .int (st), .ref mt, .int (nI tn), .int (fk), .int (fp), .int (av), .int (sv), .int (ov), .int (vv), .ref nw, .ref dr, .ref tr, .ref pa, .int (nI ac), .ref ig, .ref kx, .ref be, .ref tc, .int (nI td)]))]) ⟨hx, hb, hml, hown, hts⟩ (c_X7_copies l D cy nw pa 29 696 (by decide) (by decide) f pst 0 (29 * ac) (by omega) (by omega)) (va_cwS 4 hts gX7_notes_X7_copies rfl rfl rfl (by decide +kernel) ⟨Nat.le_of_ble_eq_true rfl, Nat.le_of_ble_eq_true rfl⟩) hP hD hS hA hK [1, 2] [0] rfl rfl (by decide) rfl (by decide) (by decide) rfl hl.1 rfl (Nat.le_of_ble_eq_true rfl) dX7_notes_65 ⟨Nat.zero_le _, Nat.zero_le _⟩ (fun u3 H locs hr2 hP hD hS => ?_)
    obtain rfl := hr2
    have hP : va_P D vwCl [(m0, .inr (7, [.ref ml, .ref mm, .ref mit, .ref ms, .int (st), .ref mt, .int (nI tn), .int (fk), .int (fp), .int (av), .int (sv), .int (ov), .int (vv), .ref nw, .ref dr, .ref tr, .ref pa, .int (nI ac), .ref ig, .ref kx, .ref be, .ref tc, .int (nI td)])), (nw, .inl (cy 0, 29, .inl f)), (pa, .inl (cy 0, 696, .inl (va_cpy f pst 0 (29 * ac) 29)))] H := hP
    have hD : va_D A [(m0, .inr (7, [.ref ml, .ref mm, .ref mit, .ref ms, .int (st), .ref mt, .int (nI tn), .int (fk), .int (fp), .int (av), .int (sv), .int (ov), .int (vv), .ref nw, .ref dr, .ref tr, .ref pa, .int (nI ac), .ref ig, .ref kx, .ref be, .ref tc, .int (nI td)])), (nw, .inl (cy 0, 29, .inl f)), (pa, .inl (cy 0, 696, .inl (va_cpy f pst 0 (29 * ac) 29)))] := hD
    refine lv_aload_n hx hb dX7_notes_68 rfl (lv_at hl 0 rfl) ?_
    refine lv_dup hx hb dX7_notes_69 rfl ?_
    refine va_get (D := D) (ci := 7) (v := .int (nI ac)) (C := RX7) (T := TX7) (N := 23) hx hb hts nX7_notes_0 hown hK.1 hP 0 rfl rfl 17 (by decide) (hts _ mX7_notes_1) (fun _ h9 => h9) rfl dX7_notes_70 ?_
    refine lv_iconst (v := nI 1) hx hb dX7_notes_73 (by decide) ?_
    refine lv_iadd hx hb dX7_notes_74 ?_
    refine q_top (y := nI (ac + 1)) (nI_add _ _) ?_
    refine q_top (y := nI (min (ac + 1) 24)) (by congr 1; omega) ?_
    refine va_put (D := D) (ci := 7) (v := .int (nI (min (ac + 1) 24))) (ty := .int) (C := RX7) (T := TX7) (N := 23) hx hb hts nX7_notes_0 tyX7 tyX7_ok nmX7 hown hK.1 hP hD hS 0 rfl rfl 17 (by decide) (hts _ mX7_notes_1) (fun _ h9 => h9) rfl (by decide +kernel) rfl rfl (Nat.le_of_ble_eq_true rfl) dX7_notes_75 (fun H locs hP hD hS => ?_)
    have hP : va_P D vwCl [(m0, .inr (7, [.ref ml, .ref mm, .ref mit, .ref ms, .int (st), .ref mt, .int (nI tn), .int (fk), .int (fp), .int (av), .int (sv), .int (ov), .int (vv), .ref nw, .ref dr, .ref tr, .ref pa, .int (nI (min (ac + 1) 24)), .ref ig, .ref kx, .ref be, .ref tc, .int (nI td)])), (nw, .inl (cy 0, 29, .inl f)), (pa, .inl (cy 0, 696, .inl (va_cpy f pst 0 (29 * ac) 29)))] H := hP
    have hD : va_D A [(m0, .inr (7, [.ref ml, .ref mm, .ref mit, .ref ms, .int (st), .ref mt, .int (nI tn), .int (fk), .int (fp), .int (av), .int (sv), .int (ov), .int (vv), .ref nw, .ref dr, .ref tr, .ref pa, .int (nI (min (ac + 1) 24)), .ref ig, .ref kx, .ref be, .ref tc, .int (nI td)])), (nw, .inl (cy 0, 29, .inl f)), (pa, .inl (cy 0, 696, .inl (va_cpy f pst 0 (29 * ac) 29)))] := hD
    have hP9 := hP
    have hD9 := hD
    exact q_wvret hx hb hr hlocks dX7_notes_78 hP9 hD9 hS (⟨_, paIs_n hm hpa (by omega) (by omega), rfl⟩)
  · refine lv_iconst (v := nI 0) hx hb dX7_notes_9 (by decide) ?_
    refine lv_istore_n (lv' := [(1, .int (nI 0)), (0, .ref m0)]) hx hb dX7_notes_10 rfl hl (by decide) rfl (fun ls hl => ?_)
    have L11_35 : ∀ (fu k : Nat), k ≤ 667 → 667 < k + fu → ∀ (H : Heap) (locs : List Loc), va_P D vwCl [(m0, .inr (7, [.ref ml, .ref mm, .ref mit, .ref ms, .int (st), .ref mt, .int (nI tn), .int (fk), .int (fp), .int (av), .int (sv), .int (ov), .int (vv), .ref nw, .ref dr, .ref tr, .ref pa, .int (nI ac), .ref ig, .ref kx, .ref be, .ref tc, .int (nI td)])), (nw, .inl (cy 0, 29, .inl f)), (pa, .inl (cy 0, 696, .inl (shF pst k)))] H → va_D A [(m0, .inr (7, [.ref ml, .ref mm, .ref mit, .ref ms, .int (st), .ref mt, .int (nI tn), .int (fk), .int (fp), .int (av), .int (sv), .int (ov), .int (vv), .ref nw, .ref dr, .ref tr, .ref pa, .int (nI ac), .ref ig, .ref kx, .ref be, .ref tc, .int (nI td)])), (nw, .inl (cy 0, 29, .inl f)), (pa, .inl (cy 0, 696, .inl (shF pst k)))] → va_S A s.heap H locs → ∀ ls : Array Slot, lv_has ls 2 [(0, .ref m0), (1, .int (nI k))] → W pg l en (q_rm 2) s mi args below meth cd H locs 0 0 (MQ below (va_Qv (fun u => ∃ fp2 : Nat → Int32, paIs (ntS sn ac w) (min (ac + 1) 24) fp2 ∧ u = [(m0, .inr (7, [.ref ml, .ref mm, .ref mit, .ref ms, .int (st), .ref mt, .int (nI tn), .int (fk), .int (fp), .int (av), .int (sv), .int (ov), .int (vv), .ref nw, .ref dr, .ref tr, .ref pa, .int (nI (min (ac + 1) 24)), .ref ig, .ref kx, .ref be, .ref tc, .int (nI td)])), (nw, .inl (cy 0, 29, .inl f)), (pa, .inl (cy 0, 696, .inl fp2))]) (fun (u : va_W) t => va_P D vwCl u t.heap ∧ va_D A u) A) args s 0 0 A) (F0 mi 11 ls []) := by
      intro fu
      induction fu with
      | zero =>
        intro k h1 h2
        exact absurd h2 (by omega)
      | succ fu ih11 =>
        intro k h1_11 h2_11 H locs hP hD hS ls hl
        refine lv_iload_n hx hb dX7_notes_11 rfl (lv_at hl 1 rfl) ?_
        refine lv_sipush (v := nI 667) hx hb dX7_notes_12 (by decide) ?_
        refine q_icmp_ge (tgt := 39) hx hb dX7_notes_15 (by decide) (by omega) (by decide) (fun c4 => ?_) (fun c4 => ?_)
        · have hk667 : k = 667 := by omega
          refine lv_aload_n hx hb dX7_notes_39 rfl (lv_at hl 0 rfl) ?_
          refine lv_dup hx hb dX7_notes_40 rfl ?_
          refine va_get (D := D) (ci := 7) (v := .int (nI ac)) (C := RX7) (T := TX7) (N := 23) hx hb hts nX7_notes_0 hown hK.1 hP 0 rfl rfl 17 (by decide) (hts _ mX7_notes_1) (fun _ h9 => h9) rfl dX7_notes_41 ?_
          refine lv_iconst (v := nI 1) hx hb dX7_notes_44 (by decide) ?_
          refine lv_isub hx hb dX7_notes_45 ?_
          refine q_top (y := nI (ac - 1)) (pk_sub (by omega)) ?_
          refine va_put (D := D) (ci := 7) (v := .int (nI (ac - 1))) (ty := .int) (C := RX7) (T := TX7) (N := 23) hx hb hts nX7_notes_0 tyX7 tyX7_ok nmX7 hown hK.1 hP hD hS 0 rfl rfl 17 (by decide) (hts _ mX7_notes_1) (fun _ h9 => h9) rfl (by decide +kernel) rfl rfl (Nat.le_of_ble_eq_true rfl) dX7_notes_46 (fun H locs hP hD hS => ?_)
          have hP : va_P D vwCl [(m0, .inr (7, [.ref ml, .ref mm, .ref mit, .ref ms, .int (st), .ref mt, .int (nI tn), .int (fk), .int (fp), .int (av), .int (sv), .int (ov), .int (vv), .ref nw, .ref dr, .ref tr, .ref pa, .int (nI (ac - 1)), .ref ig, .ref kx, .ref be, .ref tc, .int (nI td)])), (nw, .inl (cy 0, 29, .inl f)), (pa, .inl (cy 0, 696, .inl (shF pst k)))] H := hP
          have hD : va_D A [(m0, .inr (7, [.ref ml, .ref mm, .ref mit, .ref ms, .int (st), .ref mt, .int (nI tn), .int (fk), .int (fp), .int (av), .int (sv), .int (ov), .int (vv), .ref nw, .ref dr, .ref tr, .ref pa, .int (nI (ac - 1)), .ref ig, .ref kx, .ref be, .ref tc, .int (nI td)])), (nw, .inl (cy 0, 29, .inl f)), (pa, .inl (cy 0, 696, .inl (shF pst k)))] := hD
          refine lv_aload_n hx hb dX7_notes_49 rfl (lv_at hl 0 rfl) ?_
          refine va_get (D := D) (ci := 7) (v := .ref nw) (C := RX7) (T := TX7) (N := 23) hx hb hts nX7_notes_0 hown hK.1 hP 0 rfl rfl 13 (by decide) (hts _ mX7_notes_2) (fun _ h9 => h9) rfl dX7_notes_50 ?_
          refine lv_iconst (v := nI 0) hx hb dX7_notes_53 (by decide) ?_
          refine lv_aload_n hx hb dX7_notes_54 rfl (lv_at hl 0 rfl) ?_
          refine va_get (D := D) (ci := 7) (v := .ref pa) (C := RX7) (T := TX7) (N := 23) hx hb hts nX7_notes_0 hown hK.1 hP 0 rfl rfl 16 (by decide) (hts _ mX7_notes_3) (fun _ h9 => h9) rfl dX7_notes_55 ?_
          refine lv_bipush (v := nI 29) hx hb dX7_notes_58 (by decide) ?_
          refine lv_aload_n hx hb dX7_notes_60 rfl (lv_at hl 0 rfl) ?_
          refine va_get (D := D) (ci := 7) (v := .int (nI (ac - 1))) (C := RX7) (T := TX7) (N := 23) hx hb hts nX7_notes_0 hown hK.1 hP 0 rfl rfl 17 (by decide) (hts _ mX7_notes_1) (fun _ h9 => h9) rfl dX7_notes_61 ?_
          refine lv_imul hx hb dX7_notes_64 ?_
          refine q_top (y := nI (29 * (ac - 1))) (pk_mul _ _) ?_
          refine q_wvS (As := [.ref nw, .int (nI 0), .ref pa, .int (nI (29 * (ac - 1)))]) (rest := []) (wr := [(m0, .inr (7, [.ref ml, .ref mm, .ref mit, .ref ms, .int (st), .ref mt, .int (nI tn), .int (fk), .int (fp), .int (av), .int (sv), .int (ov), .int (vv), .ref nw, .ref dr, .ref tr, .ref pa, .int (nI (ac - 1)), .ref ig, .ref kx, .ref be, .ref tc, .int (nI td)]))]) ⟨hx, hb, hml, hown, hts⟩ (c_X7_copies l D cy nw pa 29 696 (by decide) (by decide) f (shF pst k) 0 (29 * (ac - 1)) (by omega) (by omega)) (va_cwS 4 hts gX7_notes_X7_copies rfl rfl rfl (by decide +kernel) ⟨Nat.le_of_ble_eq_true rfl, Nat.le_of_ble_eq_true rfl⟩) hP hD hS hA hK [1, 2] [0] rfl rfl (by decide) rfl (by decide) (by decide) rfl hl.1 rfl (Nat.le_of_ble_eq_true rfl) dX7_notes_65 ⟨Nat.zero_le _, Nat.zero_le _⟩ (fun u6 H locs hr5 hP hD hS => ?_)
          obtain rfl := hr5
          have hP : va_P D vwCl [(m0, .inr (7, [.ref ml, .ref mm, .ref mit, .ref ms, .int (st), .ref mt, .int (nI tn), .int (fk), .int (fp), .int (av), .int (sv), .int (ov), .int (vv), .ref nw, .ref dr, .ref tr, .ref pa, .int (nI (ac - 1)), .ref ig, .ref kx, .ref be, .ref tc, .int (nI td)])), (nw, .inl (cy 0, 29, .inl f)), (pa, .inl (cy 0, 696, .inl (va_cpy f (shF pst k) 0 (29 * (ac - 1)) 29)))] H := hP
          have hD : va_D A [(m0, .inr (7, [.ref ml, .ref mm, .ref mit, .ref ms, .int (st), .ref mt, .int (nI tn), .int (fk), .int (fp), .int (av), .int (sv), .int (ov), .int (vv), .ref nw, .ref dr, .ref tr, .ref pa, .int (nI (ac - 1)), .ref ig, .ref kx, .ref be, .ref tc, .int (nI td)])), (nw, .inl (cy 0, 29, .inl f)), (pa, .inl (cy 0, 696, .inl (va_cpy f (shF pst k) 0 (29 * (ac - 1)) 29)))] := hD
          refine lv_aload_n hx hb dX7_notes_68 rfl (lv_at hl 0 rfl) ?_
          refine lv_dup hx hb dX7_notes_69 rfl ?_
          refine va_get (D := D) (ci := 7) (v := .int (nI (ac - 1))) (C := RX7) (T := TX7) (N := 23) hx hb hts nX7_notes_0 hown hK.1 hP 0 rfl rfl 17 (by decide) (hts _ mX7_notes_1) (fun _ h9 => h9) rfl dX7_notes_70 ?_
          refine lv_iconst (v := nI 1) hx hb dX7_notes_73 (by decide) ?_
          refine lv_iadd hx hb dX7_notes_74 ?_
          refine q_top (y := nI ((ac - 1) + 1)) (nI_add _ _) ?_
          refine q_top (y := nI (min (ac + 1) 24)) (by congr 1; omega) ?_
          refine va_put (D := D) (ci := 7) (v := .int (nI (min (ac + 1) 24))) (ty := .int) (C := RX7) (T := TX7) (N := 23) hx hb hts nX7_notes_0 tyX7 tyX7_ok nmX7 hown hK.1 hP hD hS 0 rfl rfl 17 (by decide) (hts _ mX7_notes_1) (fun _ h9 => h9) rfl (by decide +kernel) rfl rfl (Nat.le_of_ble_eq_true rfl) dX7_notes_75 (fun H locs hP hD hS => ?_)
          have hP : va_P D vwCl [(m0, .inr (7, [.ref ml, .ref mm, .ref mit, .ref ms, .int (st), .ref mt, .int (nI tn), .int (fk), .int (fp), .int (av), .int (sv), .int (ov), .int (vv), .ref nw, .ref dr, .ref tr, .ref pa, .int (nI (min (ac + 1) 24)), .ref ig, .ref kx, .ref be, .ref tc, .int (nI td)])), (nw, .inl (cy 0, 29, .inl f)), (pa, .inl (cy 0, 696, .inl (va_cpy f (shF pst k) 0 (29 * (ac - 1)) 29)))] H := hP
          have hD : va_D A [(m0, .inr (7, [.ref ml, .ref mm, .ref mit, .ref ms, .int (st), .ref mt, .int (nI tn), .int (fk), .int (fp), .int (av), .int (sv), .int (ov), .int (vv), .ref nw, .ref dr, .ref tr, .ref pa, .int (nI (min (ac + 1) 24)), .ref ig, .ref kx, .ref be, .ref tc, .int (nI td)])), (nw, .inl (cy 0, 29, .inl f)), (pa, .inl (cy 0, 696, .inl (va_cpy f (shF pst k) 0 (29 * (ac - 1)) 29)))] := hD
          have hP9 := hP
          have hD9 := hD
          exact q_wvret hx hb hr hlocks dX7_notes_78 hP9 hD9 hS (⟨_, by rw [hk667]; exact paIs_f hm hpa (by omega), rfl⟩)
        · refine lv_aload_n hx hb dX7_notes_18 rfl (lv_at hl 0 rfl) ?_
          refine va_get (D := D) (ci := 7) (v := .ref pa) (C := RX7) (T := TX7) (N := 23) hx hb hts nX7_notes_0 hown hK.1 hP 0 rfl rfl 16 (by decide) (hts _ mX7_notes_3) (fun _ h9 => h9) rfl dX7_notes_19 ?_
          refine lv_iload_n hx hb dX7_notes_22 rfl (lv_at hl 1 rfl) ?_
          refine lv_aload_n hx hb dX7_notes_23 rfl (lv_at hl 0 rfl) ?_
          refine va_get (D := D) (ci := 7) (v := .ref pa) (C := RX7) (T := TX7) (N := 23) hx hb hts nX7_notes_0 hown hK.1 hP 0 rfl rfl 16 (by decide) (hts _ mX7_notes_3) (fun _ h9 => h9) rfl dX7_notes_24 ?_
          refine lv_iload_n hx hb dX7_notes_27 rfl (lv_at hl 1 rfl) ?_
          refine lv_bipush (v := nI 29) hx hb dX7_notes_28 (by decide) ?_
          refine lv_iadd hx hb dX7_notes_30 ?_
          refine q_top (y := nI (k + 29)) (nI_add _ _) ?_
          refine q_iald (j := (k + 29)) (v := (shF pst k) (k + 29)) hx hb hK hP 2 rfl (by omega) (by decide) (rfl) dX7_notes_31 ?_
          refine q_iast (j := k) hx hb hK hP hD hS 2 rfl (by omega) (by decide) dX7_notes_32 (fun H locs hP hD hS => ?_)
          have hP : va_P D vwCl [(m0, .inr (7, [.ref ml, .ref mm, .ref mit, .ref ms, .int (st), .ref mt, .int (nI tn), .int (fk), .int (fp), .int (av), .int (sv), .int (ov), .int (vv), .ref nw, .ref dr, .ref tr, .ref pa, .int (nI ac), .ref ig, .ref kx, .ref be, .ref tc, .int (nI td)])), (nw, .inl (cy 0, 29, .inl f)), (pa, .inl (cy 0, 696, .inl (upd (shF pst k) k ((shF pst k) (k + 29)))))] H := hP
          have hD : va_D A [(m0, .inr (7, [.ref ml, .ref mm, .ref mit, .ref ms, .int (st), .ref mt, .int (nI tn), .int (fk), .int (fp), .int (av), .int (sv), .int (ov), .int (vv), .ref nw, .ref dr, .ref tr, .ref pa, .int (nI ac), .ref ig, .ref kx, .ref be, .ref tc, .int (nI td)])), (nw, .inl (cy 0, 29, .inl f)), (pa, .inl (cy 0, 696, .inl (upd (shF pst k) k ((shF pst k) (k + 29)))))] := hD
          refine lv_iinc (v := nI (k + 1)) (lv' := [(1, .int (nI (k + 1))), (0, .ref m0)]) hx hb dX7_notes_33 hl (k := 1) rfl (q_inc k 1) (by decide) rfl (fun ls hl => ?_)
          refine lv_goto (tgt := 11) hx hb dX7_notes_36 (by decide) ?_
          have hP := q_Pc (w1 := [(m0, .inr (7, [.ref ml, .ref mm, .ref mit, .ref ms, .int (st), .ref mt, .int (nI tn), .int (fk), .int (fp), .int (av), .int (sv), .int (ov), .int (vv), .ref nw, .ref dr, .ref tr, .ref pa, .int (nI ac), .ref ig, .ref kx, .ref be, .ref tc, .int (nI td)])), (nw, .inl (cy 0, 29, .inl f)), (pa, .inl (cy 0, 696, .inl (upd (shF pst k) k ((shF pst k) (k + 29)))))]) (w2 := [(m0, .inr (7, [.ref ml, .ref mm, .ref mit, .ref ms, .int (st), .ref mt, .int (nI tn), .int (fk), .int (fp), .int (av), .int (sv), .int (ov), .int (vv), .ref nw, .ref dr, .ref tr, .ref pa, .int (nI ac), .ref ig, .ref kx, .ref be, .ref tc, .int (nI td)])), (nw, .inl (cy 0, 29, .inl f)), (pa, .inl (cy 0, 696, .inl (shF pst (k + 1))))]) (q_c1 (f := fun z0 => ([(m0, .inr (7, [.ref ml, .ref mm, .ref mit, .ref ms, .int (st), .ref mt, .int (nI tn), .int (fk), .int (fp), .int (av), .int (sv), .int (ov), .int (vv), .ref nw, .ref dr, .ref tr, .ref pa, .int (nI ac), .ref ig, .ref kx, .ref be, .ref tc, .int (nI td)])), (nw, .inl (cy 0, 29, .inl f)), (pa, .inl (cy 0, 696, .inl z0))] : va_W)) (show (upd (shF pst k) k ((shF pst k) (k + 29)) : Nat → Int32) = shF pst (k + 1) from shF_s pst k)) hP
          have hD := q_Dc (w1 := [(m0, .inr (7, [.ref ml, .ref mm, .ref mit, .ref ms, .int (st), .ref mt, .int (nI tn), .int (fk), .int (fp), .int (av), .int (sv), .int (ov), .int (vv), .ref nw, .ref dr, .ref tr, .ref pa, .int (nI ac), .ref ig, .ref kx, .ref be, .ref tc, .int (nI td)])), (nw, .inl (cy 0, 29, .inl f)), (pa, .inl (cy 0, 696, .inl (upd (shF pst k) k ((shF pst k) (k + 29)))))]) (w2 := [(m0, .inr (7, [.ref ml, .ref mm, .ref mit, .ref ms, .int (st), .ref mt, .int (nI tn), .int (fk), .int (fp), .int (av), .int (sv), .int (ov), .int (vv), .ref nw, .ref dr, .ref tr, .ref pa, .int (nI ac), .ref ig, .ref kx, .ref be, .ref tc, .int (nI td)])), (nw, .inl (cy 0, 29, .inl f)), (pa, .inl (cy 0, 696, .inl (shF pst (k + 1))))]) (q_c1 (f := fun z0 => ([(m0, .inr (7, [.ref ml, .ref mm, .ref mit, .ref ms, .int (st), .ref mt, .int (nI tn), .int (fk), .int (fp), .int (av), .int (sv), .int (ov), .int (vv), .ref nw, .ref dr, .ref tr, .ref pa, .int (nI ac), .ref ig, .ref kx, .ref be, .ref tc, .int (nI td)])), (nw, .inl (cy 0, 29, .inl f)), (pa, .inl (cy 0, 696, .inl z0))] : va_W)) (show (upd (shF pst k) k ((shF pst k) (k + 29)) : Nat → Int32) = shF pst (k + 1) from shF_s pst k)) hD
          exact ih11 (k + 1) (by omega) (by omega) H locs hP hD hS ls (lv_sub (l' := [(0, .ref m0), (1, .int (nI (k + 1)))]) hl [1, 0] rfl)
    have hP := q_Pc (w1 := [(m0, .inr (7, [.ref ml, .ref mm, .ref mit, .ref ms, .int (st), .ref mt, .int (nI tn), .int (fk), .int (fp), .int (av), .int (sv), .int (ov), .int (vv), .ref nw, .ref dr, .ref tr, .ref pa, .int (nI ac), .ref ig, .ref kx, .ref be, .ref tc, .int (nI td)])), (nw, .inl (cy 0, 29, .inl f)), (pa, .inl (cy 0, 696, .inl pst))]) (w2 := [(m0, .inr (7, [.ref ml, .ref mm, .ref mit, .ref ms, .int (st), .ref mt, .int (nI tn), .int (fk), .int (fp), .int (av), .int (sv), .int (ov), .int (vv), .ref nw, .ref dr, .ref tr, .ref pa, .int (nI ac), .ref ig, .ref kx, .ref be, .ref tc, .int (nI td)])), (nw, .inl (cy 0, 29, .inl f)), (pa, .inl (cy 0, 696, .inl (shF pst 0)))]) (q_c1 (f := fun z0 => ([(m0, .inr (7, [.ref ml, .ref mm, .ref mit, .ref ms, .int (st), .ref mt, .int (nI tn), .int (fk), .int (fp), .int (av), .int (sv), .int (ov), .int (vv), .ref nw, .ref dr, .ref tr, .ref pa, .int (nI ac), .ref ig, .ref kx, .ref be, .ref tc, .int (nI td)])), (nw, .inl (cy 0, 29, .inl f)), (pa, .inl (cy 0, 696, .inl z0))] : va_W)) (show (pst : Nat → Int32) = shF pst 0 from (shF_0 pst).symm)) hP
    have hD := q_Dc (w1 := [(m0, .inr (7, [.ref ml, .ref mm, .ref mit, .ref ms, .int (st), .ref mt, .int (nI tn), .int (fk), .int (fp), .int (av), .int (sv), .int (ov), .int (vv), .ref nw, .ref dr, .ref tr, .ref pa, .int (nI ac), .ref ig, .ref kx, .ref be, .ref tc, .int (nI td)])), (nw, .inl (cy 0, 29, .inl f)), (pa, .inl (cy 0, 696, .inl pst))]) (w2 := [(m0, .inr (7, [.ref ml, .ref mm, .ref mit, .ref ms, .int (st), .ref mt, .int (nI tn), .int (fk), .int (fp), .int (av), .int (sv), .int (ov), .int (vv), .ref nw, .ref dr, .ref tr, .ref pa, .int (nI ac), .ref ig, .ref kx, .ref be, .ref tc, .int (nI td)])), (nw, .inl (cy 0, 29, .inl f)), (pa, .inl (cy 0, 696, .inl (shF pst 0)))]) (q_c1 (f := fun z0 => ([(m0, .inr (7, [.ref ml, .ref mm, .ref mit, .ref ms, .int (st), .ref mt, .int (nI tn), .int (fk), .int (fp), .int (av), .int (sv), .int (ov), .int (vv), .ref nw, .ref dr, .ref tr, .ref pa, .int (nI ac), .ref ig, .ref kx, .ref be, .ref tc, .int (nI td)])), (nw, .inl (cy 0, 29, .inl f)), (pa, .inl (cy 0, 696, .inl z0))] : va_W)) (show (pst : Nat → Int32) = shF pst 0 from (shF_0 pst).symm)) hD
    exact L11_35 (667 + 1) 0 (by omega) (by omega) H locs hP hD hS ls (lv_sub (l' := [(0, .ref m0), (1, .int (nI 0))]) hl [1, 0] rfl)
theorem nX7_puts_0 : ∀ w ∈ wsX70, w ∈ wsX7_puts := by decide +kernel
theorem mX7_puts_1 : Cond.fieldLink RX7 25 "ClueLeaveModel" "now" "[I" ∈ wsX7_puts := by decide +kernel
set_option maxHeartbeats 4000000 in
set_option maxRecDepth 100000 in
theorem c_X7_puts (l : Launch) (D : va_G) (cy : Nat → ClassId) (m0 ml mm mit ms mt nw dr tr pa ig kx be tc : Nat) (st fk fp av sv ov vv : Int32) (tn ac td : Nat) (f : Nat → Int32) (w : Nat → Nat) (hm : mwIs w f) (hv : ctOk w) (pst : Nat → Int32) (sn : Nat → Nat → Nat) (hac : ac ≤ 24) (hpa : paIs sn ac pst) (pl : Nat) (hpl : pl < 29) (v : Int32) : q_Wi l yX7_puts wsX7_puts 3 D cy [(m0, .inr (7, [.ref ml, .ref mm, .ref mit, .ref ms, .int (st), .ref mt, .int (nI tn), .int (fk), .int (fp), .int (av), .int (sv), .int (ov), .int (vv), .ref nw, .ref dr, .ref tr, .ref pa, .int (nI ac), .ref ig, .ref kx, .ref be, .ref tc, .int (nI td)])), (nw, .inl (cy 0, 29, .inl f)), (pa, .inl (cy 0, 696, .inl pst))] [.ref m0, .int (nI pl), .int (v)] (fun r u => ∃ fp2 : Nat → Int32, paIs (ntS sn ac w) (min (ac + 1) 24) fp2 ∧ r = nI (w pl) ∧ u = [(m0, .inr (7, [.ref ml, .ref mm, .ref mit, .ref ms, .int (st), .ref mt, .int (nI tn), .int (fk), .int (fp), .int (av), .int (sv), .int (ov), .int (vv), .ref nw, .ref dr, .ref tr, .ref pa, .int (nI (min (ac + 1) 24)), .ref ig, .ref kx, .ref be, .ref tc, .int (nI td)])), (nw, .inl (cy 0, 29, .inl (upd f pl v))), (pa, .inl (cy 0, 696, .inl fp2))]) := by
  refine q_wi_of (cc := cX7_puts) (maxL := 4) (ret := (some .int)) (by decide) rfl (Nat.le_of_ble_eq_true rfl) ?_
  intro pg en s mi args below meth cd A hC hA hK H locs hP hD hS ls hl
  obtain ⟨hx, hb, hr, hml, hown, hts, hlocks⟩ := hC
  have hl : lv_has ls 4 [(0, .ref m0), (1, .int (nI pl)), (2, .int (v))] := hl
  refine lv_aload_n hx hb dX7_puts_0 rfl (lv_at hl 0 rfl) ?_
  refine q_wvV (As := []) (rest := []) (wr := []) ⟨hx, hb, hml, hown, hts⟩ (c_X7_notes l D cy m0 ml mm mit ms mt nw dr tr pa ig kx be tc st fk fp av sv ov vv tn ac td f w hm hv pst sn hac hpa) (cwV 0 hts gX7_puts_X7_notes rfl rfl rfl (by decide +kernel) ⟨Nat.le_of_ble_eq_true rfl, Nat.le_of_ble_eq_true rfl⟩) hP hD hS hA hK [0, 1, 2] [] rfl rfl (by decide) rfl (by decide) (by decide) 0 rfl rfl rfl rfl hl.1 rfl (Nat.le_of_ble_eq_true rfl) dX7_puts_1 ⟨Nat.zero_le _, Nat.zero_le _⟩ (fun u2 H locs hr1 hP hD hS => ?_)
  obtain ⟨fp3, hfp3, rfl⟩ := hr1
  have hP : va_P D vwCl [(m0, .inr (7, [.ref ml, .ref mm, .ref mit, .ref ms, .int (st), .ref mt, .int (nI tn), .int (fk), .int (fp), .int (av), .int (sv), .int (ov), .int (vv), .ref nw, .ref dr, .ref tr, .ref pa, .int (nI (min (ac + 1) 24)), .ref ig, .ref kx, .ref be, .ref tc, .int (nI td)])), (nw, .inl (cy 0, 29, .inl f)), (pa, .inl (cy 0, 696, .inl fp3))] H := hP
  have hD : va_D A [(m0, .inr (7, [.ref ml, .ref mm, .ref mit, .ref ms, .int (st), .ref mt, .int (nI tn), .int (fk), .int (fp), .int (av), .int (sv), .int (ov), .int (vv), .ref nw, .ref dr, .ref tr, .ref pa, .int (nI (min (ac + 1) 24)), .ref ig, .ref kx, .ref be, .ref tc, .int (nI td)])), (nw, .inl (cy 0, 29, .inl f)), (pa, .inl (cy 0, 696, .inl fp3))] := hD
  refine lv_aload_n hx hb dX7_puts_4 rfl (lv_at hl 0 rfl) ?_
  refine va_get (D := D) (ci := 7) (v := .ref nw) (C := RX7) (T := TX7) (N := 23) hx hb hts nX7_puts_0 hown hK.1 hP 0 rfl rfl 13 (by decide) (hts _ mX7_puts_1) (fun _ h9 => h9) rfl dX7_puts_5 ?_
  refine lv_iload_n hx hb dX7_puts_8 rfl (lv_at hl 1 rfl) ?_
  refine q_iald (j := pl) (v := nI (w pl)) hx hb hK hP 1 rfl (by omega) (by decide) (hm _ (by omega)) dX7_puts_9 ?_
  refine lv_istore_n (lv' := [(3, .int (nI (w pl))), (0, .ref m0), (1, .int (nI pl)), (2, .int (v))]) hx hb dX7_puts_10 rfl hl (by decide) rfl (fun ls hl => ?_)
  refine lv_aload_n hx hb dX7_puts_11 rfl (lv_at hl 1 rfl) ?_
  refine va_get (D := D) (ci := 7) (v := .ref nw) (C := RX7) (T := TX7) (N := 23) hx hb hts nX7_puts_0 hown hK.1 hP 0 rfl rfl 13 (by decide) (hts _ mX7_puts_1) (fun _ h9 => h9) rfl dX7_puts_12 ?_
  refine lv_iload_n hx hb dX7_puts_15 rfl (lv_at hl 2 rfl) ?_
  refine lv_iload_n hx hb dX7_puts_16 rfl (lv_at hl 3 rfl) ?_
  refine q_iast (j := pl) hx hb hK hP hD hS 1 rfl (by omega) (by decide) dX7_puts_17 (fun H locs hP hD hS => ?_)
  have hP : va_P D vwCl [(m0, .inr (7, [.ref ml, .ref mm, .ref mit, .ref ms, .int (st), .ref mt, .int (nI tn), .int (fk), .int (fp), .int (av), .int (sv), .int (ov), .int (vv), .ref nw, .ref dr, .ref tr, .ref pa, .int (nI (min (ac + 1) 24)), .ref ig, .ref kx, .ref be, .ref tc, .int (nI td)])), (nw, .inl (cy 0, 29, .inl (upd f pl v))), (pa, .inl (cy 0, 696, .inl fp3))] H := hP
  have hD : va_D A [(m0, .inr (7, [.ref ml, .ref mm, .ref mit, .ref ms, .int (st), .ref mt, .int (nI tn), .int (fk), .int (fp), .int (av), .int (sv), .int (ov), .int (vv), .ref nw, .ref dr, .ref tr, .ref pa, .int (nI (min (ac + 1) 24)), .ref ig, .ref kx, .ref be, .ref tc, .int (nI td)])), (nw, .inl (cy 0, 29, .inl (upd f pl v))), (pa, .inl (cy 0, 696, .inl fp3))] := hD
  refine lv_iload_n hx hb dX7_puts_18 rfl (lv_at hl 0 rfl) ?_
  have hP9 := hP
  have hD9 := hD
  exact q_wiret (v := nI (w pl)) hx hb hr hlocks dX7_puts_19 hP9 hD9 hS (⟨_, hfp3, rfl, rfl⟩)
theorem nX7_learn_0 : ∀ w ∈ wsX70, w ∈ wsX7_learn := by decide +kernel
theorem mX7_learn_1 : Cond.fieldLink RX7 25 "ClueLeaveModel" "now" "[I" ∈ wsX7_learn := by decide +kernel
theorem mX7_learn_2 : Cond.constant RX7 64 (-1000001) ∈ wsX7_learn := by decide +kernel
set_option maxHeartbeats 4000000 in
set_option maxRecDepth 100000 in
theorem c_X7_learn (l : Launch) (D : va_G) (cy : Nat → ClassId) (m0 ml mm mit ms mt nw dr tr pa ig kx be tc : Nat) (st fk fp av sv ov vv : Int32) (tn ac td : Nat) (f : Nat → Int32) (w : Nat → Nat) (hm : mwIs w f) (hv : ctOk w) (pst : Nat → Int32) (sn : Nat → Nat → Nat) (hac : ac ≤ 24) (hpa : paIs sn ac pst) (x t : Int32) : q_Wi l yX7_learn wsX7_learn 4 D cy [(m0, .inr (7, [.ref ml, .ref mm, .ref mit, .ref ms, .int (st), .ref mt, .int (nI tn), .int (fk), .int (fp), .int (av), .int (sv), .int (ov), .int (vv), .ref nw, .ref dr, .ref tr, .ref pa, .int (nI ac), .ref ig, .ref kx, .ref be, .ref tc, .int (nI td)])), (nw, .inl (cy 0, 29, .inl f)), (pa, .inl (cy 0, 696, .inl pst))] [.ref m0, .int (x), .int (t)] (fun r u => ∃ (w2 : Nat → Nat) (sn2 : Nat → Nat → Nat) (ac2 : Nat) (f2 fp2 : Nat → Int32), mLearn w sn ac x t = (r, w2, sn2, ac2) ∧ ctOk w2 ∧ mwIs w2 f2 ∧ ac2 ≤ 24 ∧ paIs sn2 ac2 fp2 ∧ u = [(m0, .inr (7, [.ref ml, .ref mm, .ref mit, .ref ms, .int (st), .ref mt, .int (nI tn), .int (fk), .int (fp), .int (av), .int (sv), .int (ov), .int (vv), .ref nw, .ref dr, .ref tr, .ref pa, .int (nI ac2), .ref ig, .ref kx, .ref be, .ref tc, .int (nI td)])), (nw, .inl (cy 0, 29, .inl f2)), (pa, .inl (cy 0, 696, .inl fp2))]) := by
  refine q_wi_of (cc := cX7_learn) (maxL := 3) (ret := (some .int)) (by decide) rfl (Nat.le_of_ble_eq_true rfl) ?_
  intro pg en s mi args below meth cd A hC hA hK H locs hP hD hS ls hl
  obtain ⟨hx, hb, hr, hml, hown, hts, hlocks⟩ := hC
  have hl : lv_has ls 3 [(0, .ref m0), (1, .int (x)), (2, .int (t))] := hl
  obtain ⟨hv0, hv1, hv2, hv3, hv4, hvc⟩ := id hv
  have hal := ctAll_lt hv0
  refine lv_aload_n hx hb dX7_learn_0 rfl (lv_at hl 0 rfl) ?_
  refine lv_iload_n hx hb dX7_learn_1 rfl (lv_at hl 1 rfl) ?_
  refine q_rV (As := [.int (x)]) (rest := []) ⟨hx, hb, hml, hown, hts⟩ (c_X7_isClue l D cy m0 ml mm mit ms mt nw dr tr pa ig kx be tc st fk fp av sv ov vv tn ac td f w hm hv x) (cwV 1 hts gX7_learn_X7_isClue rfl rfl rfl (by decide +kernel) ⟨Nat.le_of_ble_eq_true rfl, Nat.le_of_ble_eq_true rfl⟩) hP hK [0, 1] rfl 0 rfl rfl rfl rfl hl.1 rfl (Nat.le_of_ble_eq_true rfl) dX7_learn_2 ⟨Nat.zero_le _, Nat.zero_le _⟩ (fun r1 hr1 => ?_)
  rcases hr1 with ⟨rfl, b2⟩ | ⟨rfl, b2⟩
  · have _ := b2
    refine lv_if_eq (tgt := 38) hx hb dX7_learn_5 (by decide) (fun c9 => absurd c9 (by decide)) (fun _ => ?_)
    obtain ⟨c, hc, rfl⟩ := (inC_i (by omega)).mpr b2
    obtain ⟨hk1, hk5, ht1, ht2, he2, he4, ho1⟩ := hvc c hc
    refine lv_iload_n hx hb dX7_learn_8 rfl (lv_at hl 2 rfl) ?_
    refine lv_iconst (v := nI 1) hx hb dX7_learn_9 (by decide) ?_
    refine lv_aload_n hx hb dX7_learn_10 rfl (lv_at hl 0 rfl) ?_
    refine va_get (D := D) (ci := 7) (v := .ref nw) (C := RX7) (T := TX7) (N := 23) hx hb hts nX7_learn_0 hown hK.1 hP 0 rfl rfl 13 (by decide) (hts _ mX7_learn_1) (fun _ h9 => h9) rfl dX7_learn_11 ?_
    refine q_rS (As := [.ref nw]) (rest := [.int (nI 1), .int (t)]) ⟨hx, hb, hml, hown, hts⟩ (c_X7_all l D cy nw f w hm hv) (va_cwS 1 hts gX7_learn_X7_all rfl rfl rfl (by decide +kernel) ⟨Nat.le_of_ble_eq_true rfl, Nat.le_of_ble_eq_true rfl⟩) hP hK [1] rfl rfl hl.1 rfl (Nat.le_of_ble_eq_true rfl) dX7_learn_14 ⟨Nat.zero_le _, Nat.zero_le _⟩ (fun r3 hr3 => ?_)
    obtain rfl := hr3
    refine q_rS (As := [.int (t), .int (nI 1), .int (nI (ctAll w))]) (rest := []) ⟨hx, hb, hml, hown, hts⟩ (c_X7_in l D cy t (nI 1) (nI (ctAll w))) (va_cwS 3 hts gX7_learn_X7_in rfl rfl rfl (by decide +kernel) ⟨Nat.le_of_ble_eq_true rfl, Nat.le_of_ble_eq_true rfl⟩) hP hK [] rfl rfl hl.1 rfl (Nat.le_of_ble_eq_true rfl) dX7_learn_17 ⟨Nat.zero_le _, Nat.zero_le _⟩ (fun r4 hr4 => ?_)
    rcases hr4 with ⟨rfl, b5⟩ | ⟨rfl, b5⟩
    · have _ := b5
      refine lv_if_eq (tgt := 38) hx hb dX7_learn_20 (by decide) (fun c9 => absurd c9 (by decide)) (fun _ => ?_)
      obtain ⟨m, hm1, hm12, rfl⟩ := q_rng b5 (by omega) (by decide)
      refine lv_aload_n hx hb dX7_learn_23 rfl (lv_at hl 0 rfl) ?_
      refine lv_iconst (v := nI 5) hx hb dX7_learn_24 (by decide) ?_
      refine lv_iconst (v := nI 4) hx hb dX7_learn_25 (by decide) ?_
      refine lv_iload_n hx hb dX7_learn_26 rfl (lv_at hl 1 rfl) ?_
      refine lv_imul hx hb dX7_learn_27 ?_
      refine q_top (y := nI (4 * c)) (pk_mul _ _) ?_
      refine lv_iadd hx hb dX7_learn_28 ?_
      refine q_top (y := nI (5 + (4 * c))) (nI_add _ _) ?_
      refine lv_iconst (v := nI 1) hx hb dX7_learn_29 (by decide) ?_
      refine lv_iadd hx hb dX7_learn_30 ?_
      refine q_top (y := nI ((5 + (4 * c)) + 1)) (nI_add _ _) ?_
      refine lv_iload_n hx hb dX7_learn_31 rfl (lv_at hl 2 rfl) ?_
      refine q_wiV (As := [.int (nI ((5 + (4 * c)) + 1)), .int (nI m)]) (rest := []) (wr := []) ⟨hx, hb, hml, hown, hts⟩ (c_X7_puts l D cy m0 ml mm mit ms mt nw dr tr pa ig kx be tc st fk fp av sv ov vv tn ac td f w hm hv pst sn hac hpa ((5 + (4 * c)) + 1) (by omega) (nI m)) (cwV 2 hts gX7_learn_X7_puts rfl rfl rfl (by decide +kernel) ⟨Nat.le_of_ble_eq_true rfl, Nat.le_of_ble_eq_true rfl⟩) hP hD hS hA hK [0, 1, 2] [] rfl rfl (by decide) rfl (by decide) (by decide) 0 rfl rfl rfl rfl hl.1 rfl (Nat.le_of_ble_eq_true rfl) dX7_learn_32 ⟨Nat.zero_le _, Nat.zero_le _⟩ (fun r6 u7 H locs hr6 hP hD hS => ?_)
      obtain ⟨fp9, hfp9, rfl, rfl⟩ := hr6
      have hP : va_P D vwCl [(m0, .inr (7, [.ref ml, .ref mm, .ref mit, .ref ms, .int (st), .ref mt, .int (nI tn), .int (fk), .int (fp), .int (av), .int (sv), .int (ov), .int (vv), .ref nw, .ref dr, .ref tr, .ref pa, .int (nI (min (ac + 1) 24)), .ref ig, .ref kx, .ref be, .ref tc, .int (nI td)])), (nw, .inl (cy 0, 29, .inl (upd f ((5 + (4 * c)) + 1) (nI m)))), (pa, .inl (cy 0, 696, .inl fp9))] H := hP
      have hD : va_D A [(m0, .inr (7, [.ref ml, .ref mm, .ref mit, .ref ms, .int (st), .ref mt, .int (nI tn), .int (fk), .int (fp), .int (av), .int (sv), .int (ov), .int (vv), .ref nw, .ref dr, .ref tr, .ref pa, .int (nI (min (ac + 1) 24)), .ref ig, .ref kx, .ref be, .ref tc, .int (nI td)])), (nw, .inl (cy 0, 29, .inl (upd f ((5 + (4 * c)) + 1) (nI m)))), (pa, .inl (cy 0, 696, .inl fp9))] := hD
      refine lv_goto (tgt := 40) hx hb dX7_learn_35 (by decide) ?_
      refine q_top (y := nI (ctT w c)) (congrArg nI (ctT_e w c)) ?_
      have hP9 := hP
      have hD9 := hD
      exact q_wiret (v := nI (ctT w c)) hx hb hr hlocks dX7_learn_40 hP9 hD9 hS (⟨_, _, _, _, _, by simp only [mLearn, q_cl (by omega : c < 2147483648), q_cl (by omega : m < 2147483648), if_pos b2, if_pos b5], ctOk_T (c := c) hv hm1 (by omega), mwIs_set (z := 6 + 4 * c) (j := 5 + 4 * c + 1) (v := m) hm (by omega) (by omega), Nat.min_le_right _ _, hfp9, rfl⟩)
    · have _ := b5
      refine lv_if_eq (tgt := 38) hx hb dX7_learn_20 (by decide) (fun _ => ?_) (fun c9 => absurd (by decide) c9)
      refine lv_ldc (v := (-1000001)) hx hb hown (hts _ mX7_learn_2) dX7_learn_38 ?_
      have hP9 := hP
      have hD9 := hD
      exact q_wiret (v := (-1000001)) hx hb hr hlocks dX7_learn_40 hP9 hD9 hS (⟨w, sn, ac, f, pst, by simp only [mLearn, q_cl (by omega : c < 2147483648), if_pos b2, if_neg b5], hv, hm, hac, hpa, rfl⟩)
  · have _ := b2
    refine lv_if_eq (tgt := 38) hx hb dX7_learn_5 (by decide) (fun _ => ?_) (fun c9 => absurd (by decide) c9)
    refine lv_ldc (v := (-1000001)) hx hb hown (hts _ mX7_learn_2) dX7_learn_38 ?_
    have hP9 := hP
    have hD9 := hD
    exact q_wiret (v := (-1000001)) hx hb hr hlocks dX7_learn_40 hP9 hD9 hS (⟨w, sn, ac, f, pst, by simp only [mLearn, if_neg b2], hv, hm, hac, hpa, rfl⟩)
theorem nX7_shift_0 : ∀ w ∈ wsX70, w ∈ wsX7_shift := by decide +kernel
theorem mX7_shift_1 : Cond.fieldLink RX7 25 "ClueLeaveModel" "now" "[I" ∈ wsX7_shift := by decide +kernel
theorem mX7_shift_2 : Cond.constant RX7 64 (-1000001) ∈ wsX7_shift := by decide +kernel
set_option maxHeartbeats 4000000 in
set_option maxRecDepth 100000 in
theorem c_X7_shift (l : Launch) (D : va_G) (cy : Nat → ClassId) (m0 ml mm mit ms mt nw dr tr pa ig kx be tc : Nat) (st fk fp av sv ov vv : Int32) (tn ac td : Nat) (f : Nat → Int32) (w : Nat → Nat) (hm : mwIs w f) (hv : ctOk w) (pst : Nat → Int32) (sn : Nat → Nat → Nat) (hac : ac ≤ 24) (hpa : paIs sn ac pst) (x t : Int32) : q_Wi l yX7_shift wsX7_shift 4 D cy [(m0, .inr (7, [.ref ml, .ref mm, .ref mit, .ref ms, .int (st), .ref mt, .int (nI tn), .int (fk), .int (fp), .int (av), .int (sv), .int (ov), .int (vv), .ref nw, .ref dr, .ref tr, .ref pa, .int (nI ac), .ref ig, .ref kx, .ref be, .ref tc, .int (nI td)])), (nw, .inl (cy 0, 29, .inl f)), (pa, .inl (cy 0, 696, .inl pst))] [.ref m0, .int (x), .int (t)] (fun r u => ∃ (w2 : Nat → Nat) (sn2 : Nat → Nat → Nat) (ac2 : Nat) (f2 fp2 : Nat → Int32), mShift w sn ac x t = (r, w2, sn2, ac2) ∧ ctOk w2 ∧ mwIs w2 f2 ∧ ac2 ≤ 24 ∧ paIs sn2 ac2 fp2 ∧ u = [(m0, .inr (7, [.ref ml, .ref mm, .ref mit, .ref ms, .int (st), .ref mt, .int (nI tn), .int (fk), .int (fp), .int (av), .int (sv), .int (ov), .int (vv), .ref nw, .ref dr, .ref tr, .ref pa, .int (nI ac2), .ref ig, .ref kx, .ref be, .ref tc, .int (nI td)])), (nw, .inl (cy 0, 29, .inl f2)), (pa, .inl (cy 0, 696, .inl fp2))]) := by
  refine q_wi_of (cc := cX7_shift) (maxL := 3) (ret := (some .int)) (by decide) rfl (Nat.le_of_ble_eq_true rfl) ?_
  intro pg en s mi args below meth cd A hC hA hK H locs hP hD hS ls hl
  obtain ⟨hx, hb, hr, hml, hown, hts, hlocks⟩ := hC
  have hl : lv_has ls 3 [(0, .ref m0), (1, .int (x)), (2, .int (t))] := hl
  obtain ⟨hv0, hv1, hv2, hv3, hv4, hvc⟩ := id hv
  refine lv_aload_n hx hb dX7_shift_0 rfl (lv_at hl 0 rfl) ?_
  refine lv_iload_n hx hb dX7_shift_1 rfl (lv_at hl 1 rfl) ?_
  refine q_rV (As := [.int (x)]) (rest := []) ⟨hx, hb, hml, hown, hts⟩ (c_X7_isClue l D cy m0 ml mm mit ms mt nw dr tr pa ig kx be tc st fk fp av sv ov vv tn ac td f w hm hv x) (cwV 1 hts gX7_shift_X7_isClue rfl rfl rfl (by decide +kernel) ⟨Nat.le_of_ble_eq_true rfl, Nat.le_of_ble_eq_true rfl⟩) hP hK [0, 1] rfl 0 rfl rfl rfl rfl hl.1 rfl (Nat.le_of_ble_eq_true rfl) dX7_shift_2 ⟨Nat.zero_le _, Nat.zero_le _⟩ (fun r1 hr1 => ?_)
  rcases hr1 with ⟨rfl, b2⟩ | ⟨rfl, b2⟩
  · have _ := b2
    refine lv_if_eq (tgt := 45) hx hb dX7_shift_5 (by decide) (fun c9 => absurd c9 (by decide)) (fun _ => ?_)
    obtain ⟨c, hc, rfl⟩ := (inC_i (by omega)).mpr b2
    obtain ⟨hk1, hk5, ht1, ht2, he2, he4, ho1⟩ := hvc c hc
    refine lv_iload_n hx hb dX7_shift_8 rfl (lv_at hl 2 rfl) ?_
    refine lv_iconst (v := nI 0) hx hb dX7_shift_9 (by decide) ?_
    refine lv_aload_n hx hb dX7_shift_10 rfl (lv_at hl 0 rfl) ?_
    refine va_get (D := D) (ci := 7) (v := .ref nw) (C := RX7) (T := TX7) (N := 23) hx hb hts nX7_shift_0 hown hK.1 hP 0 rfl rfl 13 (by decide) (hts _ mX7_shift_1) (fun _ h9 => h9) rfl dX7_shift_11 ?_
    refine lv_iconst (v := nI 5) hx hb dX7_shift_14 (by decide) ?_
    refine lv_iconst (v := nI 4) hx hb dX7_shift_15 (by decide) ?_
    refine lv_iload_n hx hb dX7_shift_16 rfl (lv_at hl 1 rfl) ?_
    refine lv_imul hx hb dX7_shift_17 ?_
    refine q_top (y := nI (4 * c)) (pk_mul _ _) ?_
    refine lv_iadd hx hb dX7_shift_18 ?_
    refine q_top (y := nI (5 + (4 * c))) (nI_add _ _) ?_
    refine lv_iconst (v := nI 2) hx hb dX7_shift_19 (by decide) ?_
    refine lv_iadd hx hb dX7_shift_20 ?_
    refine q_top (y := nI ((5 + (4 * c)) + 2)) (nI_add _ _) ?_
    refine q_iald (j := ((5 + (4 * c)) + 2)) (v := nI (w ((5 + (4 * c)) + 2))) hx hb hK hP 1 rfl (by omega) (by decide) (hm _ (by omega)) dX7_shift_21 ?_
    refine q_top (y := nI (ctE w c)) (congrArg nI (ctE_e w c)) ?_
    refine lv_iconst (v := nI 1) hx hb dX7_shift_22 (by decide) ?_
    refine lv_isub hx hb dX7_shift_23 ?_
    refine q_top (y := nI ((ctE w c) - 1)) (pk_sub (by omega)) ?_
    refine q_rS (As := [.int (t), .int (nI 0), .int (nI ((ctE w c) - 1))]) (rest := []) ⟨hx, hb, hml, hown, hts⟩ (c_X7_in l D cy t (nI 0) (nI ((ctE w c) - 1))) (va_cwS 3 hts gX7_shift_X7_in rfl rfl rfl (by decide +kernel) ⟨Nat.le_of_ble_eq_true rfl, Nat.le_of_ble_eq_true rfl⟩) hP hK [] rfl rfl hl.1 rfl (Nat.le_of_ble_eq_true rfl) dX7_shift_24 ⟨Nat.zero_le _, Nat.zero_le _⟩ (fun r3 hr3 => ?_)
    rcases hr3 with ⟨rfl, b4⟩ | ⟨rfl, b4⟩
    · have _ := b4
      refine lv_if_eq (tgt := 45) hx hb dX7_shift_27 (by decide) (fun c9 => absurd c9 (by decide)) (fun _ => ?_)
      obtain ⟨m, hm1, hm12, rfl⟩ := q_rng b4 (by omega) (by decide)
      refine lv_aload_n hx hb dX7_shift_30 rfl (lv_at hl 0 rfl) ?_
      refine lv_iconst (v := nI 5) hx hb dX7_shift_31 (by decide) ?_
      refine lv_iconst (v := nI 4) hx hb dX7_shift_32 (by decide) ?_
      refine lv_iload_n hx hb dX7_shift_33 rfl (lv_at hl 1 rfl) ?_
      refine lv_imul hx hb dX7_shift_34 ?_
      refine q_top (y := nI (4 * c)) (pk_mul _ _) ?_
      refine lv_iadd hx hb dX7_shift_35 ?_
      refine q_top (y := nI (5 + (4 * c))) (nI_add _ _) ?_
      refine lv_iconst (v := nI 3) hx hb dX7_shift_36 (by decide) ?_
      refine lv_iadd hx hb dX7_shift_37 ?_
      refine q_top (y := nI ((5 + (4 * c)) + 3)) (nI_add _ _) ?_
      refine lv_iload_n hx hb dX7_shift_38 rfl (lv_at hl 2 rfl) ?_
      refine q_wiV (As := [.int (nI ((5 + (4 * c)) + 3)), .int (nI m)]) (rest := []) (wr := []) ⟨hx, hb, hml, hown, hts⟩ (c_X7_puts l D cy m0 ml mm mit ms mt nw dr tr pa ig kx be tc st fk fp av sv ov vv tn ac td f w hm hv pst sn hac hpa ((5 + (4 * c)) + 3) (by omega) (nI m)) (cwV 2 hts gX7_shift_X7_puts rfl rfl rfl (by decide +kernel) ⟨Nat.le_of_ble_eq_true rfl, Nat.le_of_ble_eq_true rfl⟩) hP hD hS hA hK [0, 1, 2] [] rfl rfl (by decide) rfl (by decide) (by decide) 0 rfl rfl rfl rfl hl.1 rfl (Nat.le_of_ble_eq_true rfl) dX7_shift_39 ⟨Nat.zero_le _, Nat.zero_le _⟩ (fun r5 u6 H locs hr5 hP hD hS => ?_)
      obtain ⟨fp9, hfp9, rfl, rfl⟩ := hr5
      have hP : va_P D vwCl [(m0, .inr (7, [.ref ml, .ref mm, .ref mit, .ref ms, .int (st), .ref mt, .int (nI tn), .int (fk), .int (fp), .int (av), .int (sv), .int (ov), .int (vv), .ref nw, .ref dr, .ref tr, .ref pa, .int (nI (min (ac + 1) 24)), .ref ig, .ref kx, .ref be, .ref tc, .int (nI td)])), (nw, .inl (cy 0, 29, .inl (upd f ((5 + (4 * c)) + 3) (nI m)))), (pa, .inl (cy 0, 696, .inl fp9))] H := hP
      have hD : va_D A [(m0, .inr (7, [.ref ml, .ref mm, .ref mit, .ref ms, .int (st), .ref mt, .int (nI tn), .int (fk), .int (fp), .int (av), .int (sv), .int (ov), .int (vv), .ref nw, .ref dr, .ref tr, .ref pa, .int (nI (min (ac + 1) 24)), .ref ig, .ref kx, .ref be, .ref tc, .int (nI td)])), (nw, .inl (cy 0, 29, .inl (upd f ((5 + (4 * c)) + 3) (nI m)))), (pa, .inl (cy 0, 696, .inl fp9))] := hD
      refine lv_goto (tgt := 47) hx hb dX7_shift_42 (by decide) ?_
      refine q_top (y := nI (ctO w c)) (congrArg nI (ctO_e w c)) ?_
      have hP9 := hP
      have hD9 := hD
      exact q_wiret (v := nI (ctO w c)) hx hb hr hlocks dX7_shift_47 hP9 hD9 hS (⟨_, _, _, _, _, by simp only [mShift, q_cl (by omega : c < 2147483648), q_cl (by omega : m < 2147483648), if_pos b2, if_pos b4], ctOk_O (v := m) hv hc (by omega), mwIs_set (z := 8 + 4 * c) (j := 5 + 4 * c + 3) (v := m) hm (by omega) (by omega), Nat.min_le_right _ _, hfp9, rfl⟩)
    · have _ := b4
      refine lv_if_eq (tgt := 45) hx hb dX7_shift_27 (by decide) (fun _ => ?_) (fun c9 => absurd (by decide) c9)
      refine lv_ldc (v := (-1000001)) hx hb hown (hts _ mX7_shift_2) dX7_shift_45 ?_
      have hP9 := hP
      have hD9 := hD
      exact q_wiret (v := (-1000001)) hx hb hr hlocks dX7_shift_47 hP9 hD9 hS (⟨w, sn, ac, f, pst, by simp only [mShift, q_cl (by omega : c < 2147483648), if_pos b2, if_neg b4], hv, hm, hac, hpa, rfl⟩)
  · have _ := b2
    refine lv_if_eq (tgt := 45) hx hb dX7_shift_5 (by decide) (fun _ => ?_) (fun c9 => absurd (by decide) c9)
    refine lv_ldc (v := (-1000001)) hx hb hown (hts _ mX7_shift_2) dX7_shift_45 ?_
    have hP9 := hP
    have hD9 := hD
    exact q_wiret (v := (-1000001)) hx hb hr hlocks dX7_shift_47 hP9 hD9 hS (⟨w, sn, ac, f, pst, by simp only [mShift, if_neg b2], hv, hm, hac, hpa, rfl⟩)
theorem nX7_bribe_0 : ∀ w ∈ wsX70, w ∈ wsX7_bribe := by decide +kernel
theorem mX7_bribe_1 : Cond.fieldLink RX7 25 "ClueLeaveModel" "now" "[I" ∈ wsX7_bribe := by decide +kernel
theorem mX7_bribe_2 : Cond.constant RX7 163 (-1000002) ∈ wsX7_bribe := by decide +kernel
theorem mX7_bribe_3 : Cond.constant RX7 64 (-1000001) ∈ wsX7_bribe := by decide +kernel
set_option maxHeartbeats 4000000 in
set_option maxRecDepth 100000 in
theorem c_X7_bribe (l : Launch) (D : va_G) (cy : Nat → ClassId) (m0 ml mm mit ms mt nw dr tr pa ig kx be tc : Nat) (st fk fp av sv ov vv : Int32) (tn ac td : Nat) (f : Nat → Int32) (w : Nat → Nat) (hm : mwIs w f) (hv : ctOk w) (pst : Nat → Int32) (sn : Nat → Nat → Nat) (hac : ac ≤ 24) (hpa : paIs sn ac pst) (x t : Int32) : q_Wi l yX7_bribe wsX7_bribe 3 D cy [(m0, .inr (7, [.ref ml, .ref mm, .ref mit, .ref ms, .int (st), .ref mt, .int (nI tn), .int (fk), .int (fp), .int (av), .int (sv), .int (ov), .int (vv), .ref nw, .ref dr, .ref tr, .ref pa, .int (nI ac), .ref ig, .ref kx, .ref be, .ref tc, .int (nI td)])), (nw, .inl (cy 0, 29, .inl f)), (pa, .inl (cy 0, 696, .inl pst))] [.ref m0, .int (x), .int (t)] (fun r u => ∃ (w2 : Nat → Nat) (sn2 : Nat → Nat → Nat) (ac2 : Nat) (f2 fp2 : Nat → Int32), mBribe w sn ac x t = (r, w2, sn2, ac2) ∧ ctOk w2 ∧ mwIs w2 f2 ∧ ac2 ≤ 24 ∧ paIs sn2 ac2 fp2 ∧ u = [(m0, .inr (7, [.ref ml, .ref mm, .ref mit, .ref ms, .int (st), .ref mt, .int (nI tn), .int (fk), .int (fp), .int (av), .int (sv), .int (ov), .int (vv), .ref nw, .ref dr, .ref tr, .ref pa, .int (nI ac2), .ref ig, .ref kx, .ref be, .ref tc, .int (nI td)])), (nw, .inl (cy 0, 29, .inl f2)), (pa, .inl (cy 0, 696, .inl fp2))]) := by
  refine q_wi_of (cc := cX7_bribe) (maxL := 3) (ret := (some .int)) (by decide) rfl (Nat.le_of_ble_eq_true rfl) ?_
  intro pg en s mi args below meth cd A hC hA hK H locs hP hD hS ls hl
  obtain ⟨hx, hb, hr, hml, hown, hts, hlocks⟩ := hC
  have hl : lv_has ls 3 [(0, .ref m0), (1, .int (x)), (2, .int (t))] := hl
  obtain ⟨hv0, hv1, hv2, hv3, hv4, hvc⟩ := id hv
  refine lv_aload_n hx hb dX7_bribe_0 rfl (lv_at hl 0 rfl) ?_
  refine lv_iload_n hx hb dX7_bribe_1 rfl (lv_at hl 1 rfl) ?_
  refine q_rV (As := [.int (x)]) (rest := []) ⟨hx, hb, hml, hown, hts⟩ (c_X7_isClue l D cy m0 ml mm mit ms mt nw dr tr pa ig kx be tc st fk fp av sv ov vv tn ac td f w hm hv x) (cwV 1 hts gX7_bribe_X7_isClue rfl rfl rfl (by decide +kernel) ⟨Nat.le_of_ble_eq_true rfl, Nat.le_of_ble_eq_true rfl⟩) hP hK [0, 1] rfl 0 rfl rfl rfl rfl hl.1 rfl (Nat.le_of_ble_eq_true rfl) dX7_bribe_2 ⟨Nat.zero_le _, Nat.zero_le _⟩ (fun r1 hr1 => ?_)
  rcases hr1 with ⟨rfl, b2⟩ | ⟨rfl, b2⟩
  · have _ := b2
    refine lv_if_eq (tgt := 17) hx hb dX7_bribe_5 (by decide) (fun c9 => absurd c9 (by decide)) (fun _ => ?_)
    obtain ⟨c, hc, rfl⟩ := (inC_i (by omega)).mpr b2
    obtain ⟨hk1, hk5, ht1, ht2, he2, he4, ho1⟩ := hvc c hc
    refine lv_iload_n hx hb dX7_bribe_8 rfl (lv_at hl 2 rfl) ?_
    refine lv_iconst (v := nI 0) hx hb dX7_bribe_9 (by decide) ?_
    refine lv_iconst (v := nI 1) hx hb dX7_bribe_10 (by decide) ?_
    refine q_rS (As := [.int (t), .int (nI 0), .int (nI 1)]) (rest := []) ⟨hx, hb, hml, hown, hts⟩ (c_X7_in l D cy t (nI 0) (nI 1)) (va_cwS 3 hts gX7_bribe_X7_in rfl rfl rfl (by decide +kernel) ⟨Nat.le_of_ble_eq_true rfl, Nat.le_of_ble_eq_true rfl⟩) hP hK [] rfl rfl hl.1 rfl (Nat.le_of_ble_eq_true rfl) dX7_bribe_11 ⟨Nat.zero_le _, Nat.zero_le _⟩ (fun r3 hr3 => ?_)
    rcases hr3 with ⟨rfl, b4⟩ | ⟨rfl, b4⟩
    · have _ := b4
      refine lv_if_ne (tgt := 20) hx hb dX7_bribe_14 (by decide) (fun _ => ?_) (fun c9 => absurd c9 (by decide))
      obtain ⟨m, -, hx_m, rfl⟩ := q_rng b4 (by decide) (by decide)
      refine lv_aload_n hx hb dX7_bribe_20 rfl (lv_at hl 0 rfl) ?_
      refine va_get (D := D) (ci := 7) (v := .ref nw) (C := RX7) (T := TX7) (N := 23) hx hb hts nX7_bribe_0 hown hK.1 hP 0 rfl rfl 13 (by decide) (hts _ mX7_bribe_1) (fun _ h9 => h9) rfl dX7_bribe_21 ?_
      refine lv_iconst (v := nI 3) hx hb dX7_bribe_24 (by decide) ?_
      refine q_iald (j := 3) (v := nI (w 3)) hx hb hK hP 1 rfl (by omega) (by decide) (hm _ (by omega)) dX7_bribe_25 ?_
      refine lv_iload_n hx hb dX7_bribe_26 rfl (lv_at hl 1 rfl) ?_
      have hdv := q_dv_lt (w 3) c (by omega)
      refine lv_ishr hx hb dX7_bribe_27 ?_
      refine q_top (y := nI ((w 3) / 2 ^ c)) (q_shr (by omega) (by omega)) ?_
      refine lv_iconst (v := nI 1) hx hb dX7_bribe_28 (by decide) ?_
      refine lv_iand hx hb dX7_bribe_29 ?_
      refine q_top (y := nI (((w 3) / 2 ^ c) &&& 1)) (q_and _ _) ?_
      refine lv_iload_n hx hb dX7_bribe_30 rfl (lv_at hl 2 rfl) ?_
      have htl := q_tb_lt (w 3) c
      refine q_icmp_ne (tgt := 37) hx hb dX7_bribe_31 (by decide) (by omega) (by omega) (fun c5 => ?_) (fun c5 => ?_)
      · have hpw := q_pw6 c (by omega)
        refine lv_aload_n hx hb dX7_bribe_37 rfl (lv_at hl 0 rfl) ?_
        refine q_wvV (As := []) (rest := []) (wr := []) ⟨hx, hb, hml, hown, hts⟩ (c_X7_notes l D cy m0 ml mm mit ms mt nw dr tr pa ig kx be tc st fk fp av sv ov vv tn ac td f w hm hv pst sn hac hpa) (cwV 0 hts gX7_bribe_X7_notes rfl rfl rfl (by decide +kernel) ⟨Nat.le_of_ble_eq_true rfl, Nat.le_of_ble_eq_true rfl⟩) hP hD hS hA hK [0, 1, 2] [] rfl rfl (by decide) rfl (by decide) (by decide) 0 rfl rfl rfl rfl hl.1 rfl (Nat.le_of_ble_eq_true rfl) dX7_bribe_38 ⟨Nat.zero_le _, Nat.zero_le _⟩ (fun u7 H locs hr6 hP hD hS => ?_)
        obtain ⟨fp8, hfp8, rfl⟩ := hr6
        have hP : va_P D vwCl [(m0, .inr (7, [.ref ml, .ref mm, .ref mit, .ref ms, .int (st), .ref mt, .int (nI tn), .int (fk), .int (fp), .int (av), .int (sv), .int (ov), .int (vv), .ref nw, .ref dr, .ref tr, .ref pa, .int (nI (min (ac + 1) 24)), .ref ig, .ref kx, .ref be, .ref tc, .int (nI td)])), (nw, .inl (cy 0, 29, .inl f)), (pa, .inl (cy 0, 696, .inl fp8))] H := hP
        have hD : va_D A [(m0, .inr (7, [.ref ml, .ref mm, .ref mit, .ref ms, .int (st), .ref mt, .int (nI tn), .int (fk), .int (fp), .int (av), .int (sv), .int (ov), .int (vv), .ref nw, .ref dr, .ref tr, .ref pa, .int (nI (min (ac + 1) 24)), .ref ig, .ref kx, .ref be, .ref tc, .int (nI td)])), (nw, .inl (cy 0, 29, .inl f)), (pa, .inl (cy 0, 696, .inl fp8))] := hD
        refine lv_aload_n hx hb dX7_bribe_41 rfl (lv_at hl 0 rfl) ?_
        refine va_get (D := D) (ci := 7) (v := .ref nw) (C := RX7) (T := TX7) (N := 23) hx hb hts nX7_bribe_0 hown hK.1 hP 0 rfl rfl 13 (by decide) (hts _ mX7_bribe_1) (fun _ h9 => h9) rfl dX7_bribe_42 ?_
        refine lv_iconst (v := nI 3) hx hb dX7_bribe_45 (by decide) ?_
        refine lv_dup2_11 hx hb dX7_bribe_46 rfl rfl ?_
        refine q_iald (j := 3) (v := nI (w 3)) hx hb hK hP 1 rfl (by omega) (by decide) (hm _ (by omega)) dX7_bribe_47 ?_
        refine lv_iconst (v := nI 1) hx hb dX7_bribe_48 (by decide) ?_
        refine lv_iload_n hx hb dX7_bribe_49 rfl (lv_at hl 1 rfl) ?_
        refine lv_ishl hx hb dX7_bribe_50 ?_
        refine q_top (y := nI (1 * 2 ^ c)) (q_shl (by omega) (by omega)) ?_
        refine lv_ixor hx hb dX7_bribe_51 ?_
        refine q_top (y := nI ((w 3) ^^^ (1 * 2 ^ c))) (q_xor _ _) ?_
        refine q_iast (j := 3) hx hb hK hP hD hS 1 rfl (by omega) (by decide) dX7_bribe_52 (fun H locs hP hD hS => ?_)
        have hP : va_P D vwCl [(m0, .inr (7, [.ref ml, .ref mm, .ref mit, .ref ms, .int (st), .ref mt, .int (nI tn), .int (fk), .int (fp), .int (av), .int (sv), .int (ov), .int (vv), .ref nw, .ref dr, .ref tr, .ref pa, .int (nI (min (ac + 1) 24)), .ref ig, .ref kx, .ref be, .ref tc, .int (nI td)])), (nw, .inl (cy 0, 29, .inl (upd f 3 (nI ((w 3) ^^^ (1 * 2 ^ c)))))), (pa, .inl (cy 0, 696, .inl fp8))] H := hP
        have hD : va_D A [(m0, .inr (7, [.ref ml, .ref mm, .ref mit, .ref ms, .int (st), .ref mt, .int (nI tn), .int (fk), .int (fp), .int (av), .int (sv), .int (ov), .int (vv), .ref nw, .ref dr, .ref tr, .ref pa, .int (nI (min (ac + 1) 24)), .ref ig, .ref kx, .ref be, .ref tc, .int (nI td)])), (nw, .inl (cy 0, 29, .inl (upd f 3 (nI ((w 3) ^^^ (1 * 2 ^ c)))))), (pa, .inl (cy 0, 696, .inl fp8))] := hD
        refine lv_aload_n hx hb dX7_bribe_53 rfl (lv_at hl 0 rfl) ?_
        refine va_get (D := D) (ci := 7) (v := .ref nw) (C := RX7) (T := TX7) (N := 23) hx hb hts nX7_bribe_0 hown hK.1 hP 0 rfl rfl 13 (by decide) (hts _ mX7_bribe_1) (fun _ h9 => h9) rfl dX7_bribe_54 ?_
        refine lv_iconst (v := nI 3) hx hb dX7_bribe_57 (by decide) ?_
        refine q_iald (j := 3) (v := (upd f 3 (nI ((w 3) ^^^ (1 * 2 ^ c)))) 3) hx hb hK hP 1 rfl (by omega) (by decide) (rfl) dX7_bribe_58 ?_
        refine q_top (y := nI (w 3 ^^^ (1 * 2 ^ c))) (by rw [pk_us]) ?_
        have hP9 := hP
        have hD9 := hD
        exact q_wiret (v := nI (w 3 ^^^ (1 * 2 ^ c))) hx hb hr hlocks dX7_bribe_59 hP9 hD9 hS (⟨_, _, _, _, _, by simp only [mBribe, q_cl (by omega : c < 2147483648), q_cl (by omega : m < 2147483648), if_pos b2, if_pos b4, if_neg (tb_dn c5 (by omega))], ctOk_br (c := c) hv (by omega), mwIs_br (c := c) hm, Nat.min_le_right _ _, hfp8, rfl⟩)
      · refine lv_ldc (v := (-1000002)) hx hb hown (hts _ mX7_bribe_2) dX7_bribe_34 ?_
        have hP9 := hP
        have hD9 := hD
        exact q_wiret (v := (-1000002)) hx hb hr hlocks dX7_bribe_36 hP9 hD9 hS (⟨w, sn, ac, f, pst, by simp only [mBribe, q_cl (by omega : c < 2147483648), q_cl (by omega : m < 2147483648), if_pos b2, if_pos b4, if_pos (tb_dy c5 (by omega))], hv, hm, hac, hpa, rfl⟩)
    · have _ := b4
      refine lv_if_ne (tgt := 20) hx hb dX7_bribe_14 (by decide) (fun c9 => absurd (by decide) c9) (fun _ => ?_)
      refine lv_ldc (v := (-1000001)) hx hb hown (hts _ mX7_bribe_3) dX7_bribe_17 ?_
      have hP9 := hP
      have hD9 := hD
      exact q_wiret (v := (-1000001)) hx hb hr hlocks dX7_bribe_19 hP9 hD9 hS (⟨w, sn, ac, f, pst, by simp only [mBribe, q_cl (by omega : c < 2147483648), if_pos b2, if_neg b4], hv, hm, hac, hpa, rfl⟩)
  · have _ := b2
    refine lv_if_eq (tgt := 17) hx hb dX7_bribe_5 (by decide) (fun _ => ?_) (fun c9 => absurd (by decide) c9)
    refine lv_ldc (v := (-1000001)) hx hb hown (hts _ mX7_bribe_3) dX7_bribe_17 ?_
    have hP9 := hP
    have hD9 := hD
    exact q_wiret (v := (-1000001)) hx hb hr hlocks dX7_bribe_19 hP9 hD9 hS (⟨w, sn, ac, f, pst, by simp only [mBribe, if_neg b2], hv, hm, hac, hpa, rfl⟩)
theorem nX7_days_0 : ∀ w ∈ wsX70, w ∈ wsX7_days := by decide +kernel
theorem mX7_days_1 : Cond.fieldLink RX7 25 "ClueLeaveModel" "now" "[I" ∈ wsX7_days := by decide +kernel
theorem mX7_days_2 : Cond.constant RX7 85 (-1000003) ∈ wsX7_days := by decide +kernel
theorem mX7_days_3 : Cond.constant RX7 64 (-1000001) ∈ wsX7_days := by decide +kernel
theorem mX7_days_4 : Cond.constant RX7 163 (-1000002) ∈ wsX7_days := by decide +kernel
set_option maxHeartbeats 4000000 in
set_option maxRecDepth 100000 in
theorem c_X7_days (l : Launch) (D : va_G) (cy : Nat → ClassId) (m0 ml mm mit ms mt nw dr tr pa ig kx be tc : Nat) (st fk fp av sv ov vv : Int32) (tn ac td : Nat) (f : Nat → Int32) (w : Nat → Nat) (hm : mwIs w f) (hv : ctOk w) (pst : Nat → Int32) (sn : Nat → Nat → Nat) (hac : ac ≤ 24) (hpa : paIs sn ac pst) (n : Int32) : q_Wi l yX7_days wsX7_days 5 D cy [(m0, .inr (7, [.ref ml, .ref mm, .ref mit, .ref ms, .int (st), .ref mt, .int (nI tn), .int (fk), .int (fp), .int (av), .int (sv), .int (ov), .int (vv), .ref nw, .ref dr, .ref tr, .ref pa, .int (nI ac), .ref ig, .ref kx, .ref be, .ref tc, .int (nI td)])), (nw, .inl (cy 0, 29, .inl f)), (pa, .inl (cy 0, 696, .inl pst))] [.ref m0, .int (n)] (fun r u => ∃ (w2 : Nat → Nat) (sn2 : Nat → Nat → Nat) (ac2 : Nat) (f2 fp2 : Nat → Int32), mDays w sn ac n = (r, w2, sn2, ac2) ∧ ctOk w2 ∧ mwIs w2 f2 ∧ ac2 ≤ 24 ∧ paIs sn2 ac2 fp2 ∧ u = [(m0, .inr (7, [.ref ml, .ref mm, .ref mit, .ref ms, .int (st), .ref mt, .int (nI tn), .int (fk), .int (fp), .int (av), .int (sv), .int (ov), .int (vv), .ref nw, .ref dr, .ref tr, .ref pa, .int (nI ac2), .ref ig, .ref kx, .ref be, .ref tc, .int (nI td)])), (nw, .inl (cy 0, 29, .inl f2)), (pa, .inl (cy 0, 696, .inl fp2))]) := by
  refine q_wi_of (cc := cX7_days) (maxL := 3) (ret := (some .int)) (by decide) rfl (Nat.le_of_ble_eq_true rfl) ?_
  intro pg en s mi args below meth cd A hC hA hK H locs hP hD hS ls hl
  obtain ⟨hx, hb, hr, hml, hown, hts, hlocks⟩ := hC
  have hl : lv_has ls 3 [(0, .ref m0), (1, .int (n))] := hl
  obtain ⟨hv0, hv1, hv2, hv3, hv4, hvc⟩ := id hv
  refine lv_aload_n hx hb dX7_days_0 rfl (lv_at hl 0 rfl) ?_
  refine q_rV (As := []) (rest := []) ⟨hx, hb, hml, hown, hts⟩ (c_X7_isCity l D cy m0 ml mm mit ms mt nw dr tr pa ig kx be tc st fk fp av sv ov vv tn ac td f w hm hv) (cwV 0 hts gX7_days_X7_isCity rfl rfl rfl (by decide +kernel) ⟨Nat.le_of_ble_eq_true rfl, Nat.le_of_ble_eq_true rfl⟩) hP hK [0, 1] rfl 0 rfl rfl rfl rfl hl.1 rfl (Nat.le_of_ble_eq_true rfl) dX7_days_1 ⟨Nat.zero_le _, Nat.zero_le _⟩ (fun r1 hr1 => ?_)
  rcases hr1 with ⟨rfl, b2⟩ | ⟨rfl, b2⟩
  · have _ := b2
    refine lv_if_ne (tgt := 10) hx hb dX7_days_4 (by decide) (fun _ => ?_) (fun c9 => absurd c9 (by decide))
    refine lv_iload_n hx hb dX7_days_10 rfl (lv_at hl 1 rfl) ?_
    refine lv_iconst (v := nI 1) hx hb dX7_days_11 (by decide) ?_
    refine lv_bipush (v := nI 24) hx hb dX7_days_12 (by decide) ?_
    refine q_rS (As := [.int (n), .int (nI 1), .int (nI 24)]) (rest := []) ⟨hx, hb, hml, hown, hts⟩ (c_X7_in l D cy n (nI 1) (nI 24)) (va_cwS 3 hts gX7_days_X7_in rfl rfl rfl (by decide +kernel) ⟨Nat.le_of_ble_eq_true rfl, Nat.le_of_ble_eq_true rfl⟩) hP hK [] rfl rfl hl.1 rfl (Nat.le_of_ble_eq_true rfl) dX7_days_14 ⟨Nat.zero_le _, Nat.zero_le _⟩ (fun r3 hr3 => ?_)
    rcases hr3 with ⟨rfl, b4⟩ | ⟨rfl, b4⟩
    · have _ := b4
      refine lv_if_ne (tgt := 23) hx hb dX7_days_17 (by decide) (fun _ => ?_) (fun c9 => absurd c9 (by decide))
      obtain ⟨m, -, hx_m, rfl⟩ := q_rng b4 (by decide) (by decide)
      refine lv_aload_n hx hb dX7_days_23 rfl (lv_at hl 0 rfl) ?_
      refine va_get (D := D) (ci := 7) (v := .ref nw) (C := RX7) (T := TX7) (N := 23) hx hb hts nX7_days_0 hown hK.1 hP 0 rfl rfl 13 (by decide) (hts _ mX7_days_1) (fun _ h9 => h9) rfl dX7_days_24 ?_
      refine lv_iconst (v := nI 2) hx hb dX7_days_27 (by decide) ?_
      refine q_iald (j := 2) (v := nI (w 2)) hx hb hK hP 1 rfl (by omega) (by decide) (hm _ (by omega)) dX7_days_28 ?_
      refine lv_iload_n hx hb dX7_days_29 rfl (lv_at hl 1 rfl) ?_
      refine lv_iadd hx hb dX7_days_30 ?_
      refine q_top (y := nI ((w 2) + m)) (nI_add _ _) ?_
      refine lv_sipush (v := nI 999) hx hb dX7_days_31 (by decide) ?_
      refine q_icmp_le (tgt := 40) hx hb dX7_days_34 (by decide) (by omega) (by decide) (fun c5 => ?_) (fun c5 => ?_)
      · refine lv_iconst (v := nI 0) hx hb dX7_days_40 (by decide) ?_
        refine lv_istore_n (lv' := [(2, .int (nI 0)), (0, .ref m0), (1, .int (nI m))]) hx hb dX7_days_41 rfl hl (by decide) rfl (fun ls hl => ?_)
        have L42_27 : ∀ (fu i : Nat), i ≤ m → m < i + fu → ∀ (g1 : Nat → Int32), ∀ (g2 : Nat → Int32), mwIs (ctDay w i) g1 → paIs (mnD sn ac w i).1 (mnD sn ac w i).2 g2 → ∀ (H : Heap) (locs : List Loc), va_P D vwCl [(m0, .inr (7, [.ref ml, .ref mm, .ref mit, .ref ms, .int (st), .ref mt, .int (nI tn), .int (fk), .int (fp), .int (av), .int (sv), .int (ov), .int (vv), .ref nw, .ref dr, .ref tr, .ref pa, .int (nI ((mnD sn ac w i).2)), .ref ig, .ref kx, .ref be, .ref tc, .int (nI td)])), (nw, .inl (cy 0, 29, .inl g1)), (pa, .inl (cy 0, 696, .inl g2))] H → va_D A [(m0, .inr (7, [.ref ml, .ref mm, .ref mit, .ref ms, .int (st), .ref mt, .int (nI tn), .int (fk), .int (fp), .int (av), .int (sv), .int (ov), .int (vv), .ref nw, .ref dr, .ref tr, .ref pa, .int (nI ((mnD sn ac w i).2)), .ref ig, .ref kx, .ref be, .ref tc, .int (nI td)])), (nw, .inl (cy 0, 29, .inl g1)), (pa, .inl (cy 0, 696, .inl g2))] → va_S A s.heap H locs → ∀ ls : Array Slot, lv_has ls 3 [(0, .ref m0), (1, .int (nI m)), (2, .int (nI i))] → W pg l en (q_rm 5) s mi args below meth cd H locs 0 0 (MQ below (va_Qi (fun r u => ∃ (w2 : Nat → Nat) (sn2 : Nat → Nat → Nat) (ac2 : Nat) (f2 fp2 : Nat → Int32), mDays w sn ac (nI m) = (r, w2, sn2, ac2) ∧ ctOk w2 ∧ mwIs w2 f2 ∧ ac2 ≤ 24 ∧ paIs sn2 ac2 fp2 ∧ u = [(m0, .inr (7, [.ref ml, .ref mm, .ref mit, .ref ms, .int (st), .ref mt, .int (nI tn), .int (fk), .int (fp), .int (av), .int (sv), .int (ov), .int (vv), .ref nw, .ref dr, .ref tr, .ref pa, .int (nI ac2), .ref ig, .ref kx, .ref be, .ref tc, .int (nI td)])), (nw, .inl (cy 0, 29, .inl f2)), (pa, .inl (cy 0, 696, .inl fp2))]) (fun (u : va_W) t => va_P D vwCl u t.heap ∧ va_D A u) A) args s 0 0 A) (F0 mi 42 ls []) := by
          intro fu
          induction fu with
          | zero =>
            intro i h1 h2
            exact absurd h2 (by omega)
          | succ fu ih42 =>
            intro i h1_42 h2_42 g1 g2 hf42_0 hf42_1 H locs hP hD hS ls hl
            refine lv_iload_n hx hb dX7_days_42 rfl (lv_at hl 2 rfl) ?_
            refine lv_iload_n hx hb dX7_days_43 rfl (lv_at hl 1 rfl) ?_
            refine q_icmp_ge (tgt := 67) hx hb dX7_days_44 (by decide) (by omega) (by omega) (fun c6 => ?_) (fun c6 => ?_)
            · have him : i = m := by omega
              refine lv_aload_n hx hb dX7_days_67 rfl (lv_at hl 0 rfl) ?_
              refine va_get (D := D) (ci := 7) (v := .ref nw) (C := RX7) (T := TX7) (N := 23) hx hb hts nX7_days_0 hown hK.1 hP 0 rfl rfl 13 (by decide) (hts _ mX7_days_1) (fun _ h9 => h9) rfl dX7_days_68 ?_
              refine lv_aload_n hx hb dX7_days_71 rfl (lv_at hl 0 rfl) ?_
              refine va_get (D := D) (ci := 7) (v := .ref nw) (C := RX7) (T := TX7) (N := 23) hx hb hts nX7_days_0 hown hK.1 hP 0 rfl rfl 13 (by decide) (hts _ mX7_days_1) (fun _ h9 => h9) rfl dX7_days_72 ?_
              refine lv_iconst (v := nI 2) hx hb dX7_days_75 (by decide) ?_
              refine q_iald (j := 2) (v := nI ((ctDay w i) 2)) hx hb hK hP 1 rfl (by omega) (by decide) (hf42_0 _ (by omega)) dX7_days_76 ?_
              refine q_top (y := nI (w 2 + i)) (congrArg nI (if_pos rfl)) ?_
              refine q_rS (As := [.ref nw, .int (nI (w 2 + i))]) (rest := []) ⟨hx, hb, hml, hown, hts⟩ (c_X7_leftOn l D cy nw g1 (ctDay w i) hf42_0 (ctOk_day hv (by omega)) (w 2 + i) (by omega)) (va_cwS 2 hts gX7_days_X7_leftOn rfl rfl rfl (by decide +kernel) ⟨Nat.le_of_ble_eq_true rfl, Nat.le_of_ble_eq_true rfl⟩) hP hK [1] rfl rfl hl.1 rfl (Nat.le_of_ble_eq_true rfl) dX7_days_77 ⟨Nat.zero_le _, Nat.zero_le _⟩ (fun r7 hr7 => ?_)
              obtain rfl := hr7
              have hP9 := hP
              have hD9 := hD
              exact q_wiret (v := nI (ctLeft (ctDay w i) (w 2 + i))) hx hb hr hlocks dX7_days_80 hP9 hD9 hS (⟨ctDay w i, (mnD sn ac w i).1, (mnD sn ac w i).2, g1, g2, by rw [him]; simp only [mDays, q_cl (by omega : m < 2147483648), if_pos b2, if_pos b4, if_pos (by omega : w 2 + m ≤ 999)], ctOk_day hv (by omega), hf42_0, mnD_le i hac, hf42_1, rfl⟩)
            · refine lv_aload_n hx hb dX7_days_47 rfl (lv_at hl 0 rfl) ?_
              refine q_wvV (As := []) (rest := []) (wr := []) ⟨hx, hb, hml, hown, hts⟩ (c_X7_notes l D cy m0 ml mm mit ms mt nw dr tr pa ig kx be tc st fk fp av sv ov vv tn ((mnD sn ac w i).2) td g1 (ctDay w i) hf42_0 (ctOk_day hv (by omega)) g2 ((mnD sn ac w i).1) (mnD_le i hac) hf42_1) (cwV 0 hts gX7_days_X7_notes rfl rfl rfl (by decide +kernel) ⟨Nat.le_of_ble_eq_true rfl, Nat.le_of_ble_eq_true rfl⟩) hP hD hS hA hK [0, 1, 2] [] rfl rfl (by decide) rfl (by decide) (by decide) 0 rfl rfl rfl rfl hl.1 rfl (Nat.le_of_ble_eq_true rfl) dX7_days_48 ⟨Nat.zero_le _, Nat.zero_le _⟩ (fun u9 H locs hr8 hP hD hS => ?_)
              obtain ⟨fp10, hfp10, rfl⟩ := hr8
              have hP : va_P D vwCl [(m0, .inr (7, [.ref ml, .ref mm, .ref mit, .ref ms, .int (st), .ref mt, .int (nI tn), .int (fk), .int (fp), .int (av), .int (sv), .int (ov), .int (vv), .ref nw, .ref dr, .ref tr, .ref pa, .int (nI (min (((mnD sn ac w i).2) + 1) 24)), .ref ig, .ref kx, .ref be, .ref tc, .int (nI td)])), (nw, .inl (cy 0, 29, .inl g1)), (pa, .inl (cy 0, 696, .inl fp10))] H := hP
              have hD : va_D A [(m0, .inr (7, [.ref ml, .ref mm, .ref mit, .ref ms, .int (st), .ref mt, .int (nI tn), .int (fk), .int (fp), .int (av), .int (sv), .int (ov), .int (vv), .ref nw, .ref dr, .ref tr, .ref pa, .int (nI (min (((mnD sn ac w i).2) + 1) 24)), .ref ig, .ref kx, .ref be, .ref tc, .int (nI td)])), (nw, .inl (cy 0, 29, .inl g1)), (pa, .inl (cy 0, 696, .inl fp10))] := hD
              refine lv_aload_n hx hb dX7_days_51 rfl (lv_at hl 0 rfl) ?_
              refine va_get (D := D) (ci := 7) (v := .ref nw) (C := RX7) (T := TX7) (N := 23) hx hb hts nX7_days_0 hown hK.1 hP 0 rfl rfl 13 (by decide) (hts _ mX7_days_1) (fun _ h9 => h9) rfl dX7_days_52 ?_
              refine lv_iconst (v := nI 2) hx hb dX7_days_55 (by decide) ?_
              refine lv_dup2_11 hx hb dX7_days_56 rfl rfl ?_
              refine q_iald (j := 2) (v := nI ((ctDay w i) 2)) hx hb hK hP 1 rfl (by omega) (by decide) (hf42_0 _ (by omega)) dX7_days_57 ?_
              refine lv_iconst (v := nI 1) hx hb dX7_days_58 (by decide) ?_
              refine lv_iadd hx hb dX7_days_59 ?_
              refine q_top (y := nI (((ctDay w i) 2) + 1)) (nI_add _ _) ?_
              refine q_iast (j := 2) hx hb hK hP hD hS 1 rfl (by omega) (by decide) dX7_days_60 (fun H locs hP hD hS => ?_)
              have hP : va_P D vwCl [(m0, .inr (7, [.ref ml, .ref mm, .ref mit, .ref ms, .int (st), .ref mt, .int (nI tn), .int (fk), .int (fp), .int (av), .int (sv), .int (ov), .int (vv), .ref nw, .ref dr, .ref tr, .ref pa, .int (nI (min (((mnD sn ac w i).2) + 1) 24)), .ref ig, .ref kx, .ref be, .ref tc, .int (nI td)])), (nw, .inl (cy 0, 29, .inl (upd g1 2 (nI (((ctDay w i) 2) + 1))))), (pa, .inl (cy 0, 696, .inl fp10))] H := hP
              have hD : va_D A [(m0, .inr (7, [.ref ml, .ref mm, .ref mit, .ref ms, .int (st), .ref mt, .int (nI tn), .int (fk), .int (fp), .int (av), .int (sv), .int (ov), .int (vv), .ref nw, .ref dr, .ref tr, .ref pa, .int (nI (min (((mnD sn ac w i).2) + 1) 24)), .ref ig, .ref kx, .ref be, .ref tc, .int (nI td)])), (nw, .inl (cy 0, 29, .inl (upd g1 2 (nI (((ctDay w i) 2) + 1))))), (pa, .inl (cy 0, 696, .inl fp10))] := hD
              refine lv_iinc (v := nI (i + 1)) (lv' := [(2, .int (nI (i + 1))), (0, .ref m0), (1, .int (nI m))]) hx hb dX7_days_61 hl (k := 2) rfl (q_inc i 1) (by decide) rfl (fun ls hl => ?_)
              refine lv_goto (tgt := 42) hx hb dX7_days_64 (by decide) ?_
              have hP := q_Pc (w1 := [(m0, .inr (7, [.ref ml, .ref mm, .ref mit, .ref ms, .int (st), .ref mt, .int (nI tn), .int (fk), .int (fp), .int (av), .int (sv), .int (ov), .int (vv), .ref nw, .ref dr, .ref tr, .ref pa, .int (nI (min (((mnD sn ac w i).2) + 1) 24)), .ref ig, .ref kx, .ref be, .ref tc, .int (nI td)])), (nw, .inl (cy 0, 29, .inl (upd g1 2 (nI (((ctDay w i) 2) + 1))))), (pa, .inl (cy 0, 696, .inl fp10))]) (w2 := [(m0, .inr (7, [.ref ml, .ref mm, .ref mit, .ref ms, .int (st), .ref mt, .int (nI tn), .int (fk), .int (fp), .int (av), .int (sv), .int (ov), .int (vv), .ref nw, .ref dr, .ref tr, .ref pa, .int (nI ((mnD sn ac w (i + 1)).2)), .ref ig, .ref kx, .ref be, .ref tc, .int (nI td)])), (nw, .inl (cy 0, 29, .inl (upd g1 2 (nI (((ctDay w i) 2) + 1))))), (pa, .inl (cy 0, 696, .inl fp10))]) (q_c1 (f := fun z0 => ([(m0, .inr (7, [.ref ml, .ref mm, .ref mit, .ref ms, .int (st), .ref mt, .int (nI tn), .int (fk), .int (fp), .int (av), .int (sv), .int (ov), .int (vv), .ref nw, .ref dr, .ref tr, .ref pa, .int (z0), .ref ig, .ref kx, .ref be, .ref tc, .int (nI td)])), (nw, .inl (cy 0, 29, .inl (upd g1 2 (nI (((ctDay w i) 2) + 1))))), (pa, .inl (cy 0, 696, .inl fp10))] : va_W)) (show (nI (min (((mnD sn ac w i).2) + 1) 24) : Int32) = nI ((mnD sn ac w (i + 1)).2) from rfl)) hP
              have hD := q_Dc (w1 := [(m0, .inr (7, [.ref ml, .ref mm, .ref mit, .ref ms, .int (st), .ref mt, .int (nI tn), .int (fk), .int (fp), .int (av), .int (sv), .int (ov), .int (vv), .ref nw, .ref dr, .ref tr, .ref pa, .int (nI (min (((mnD sn ac w i).2) + 1) 24)), .ref ig, .ref kx, .ref be, .ref tc, .int (nI td)])), (nw, .inl (cy 0, 29, .inl (upd g1 2 (nI (((ctDay w i) 2) + 1))))), (pa, .inl (cy 0, 696, .inl fp10))]) (w2 := [(m0, .inr (7, [.ref ml, .ref mm, .ref mit, .ref ms, .int (st), .ref mt, .int (nI tn), .int (fk), .int (fp), .int (av), .int (sv), .int (ov), .int (vv), .ref nw, .ref dr, .ref tr, .ref pa, .int (nI ((mnD sn ac w (i + 1)).2)), .ref ig, .ref kx, .ref be, .ref tc, .int (nI td)])), (nw, .inl (cy 0, 29, .inl (upd g1 2 (nI (((ctDay w i) 2) + 1))))), (pa, .inl (cy 0, 696, .inl fp10))]) (q_c1 (f := fun z0 => ([(m0, .inr (7, [.ref ml, .ref mm, .ref mit, .ref ms, .int (st), .ref mt, .int (nI tn), .int (fk), .int (fp), .int (av), .int (sv), .int (ov), .int (vv), .ref nw, .ref dr, .ref tr, .ref pa, .int (z0), .ref ig, .ref kx, .ref be, .ref tc, .int (nI td)])), (nw, .inl (cy 0, 29, .inl (upd g1 2 (nI (((ctDay w i) 2) + 1))))), (pa, .inl (cy 0, 696, .inl fp10))] : va_W)) (show (nI (min (((mnD sn ac w i).2) + 1) 24) : Int32) = nI ((mnD sn ac w (i + 1)).2) from rfl)) hD
              exact ih42 (i + 1) (by omega) (by omega) (upd g1 2 (nI (((ctDay w i) 2) + 1))) fp10 (mwIs_ds hf42_0) hfp10 H locs hP hD hS ls (lv_sub (l' := [(0, .ref m0), (1, .int (nI m)), (2, .int (nI (i + 1)))]) hl [1, 2, 0] rfl)
        have hP := q_Pc (w1 := [(m0, .inr (7, [.ref ml, .ref mm, .ref mit, .ref ms, .int (st), .ref mt, .int (nI tn), .int (fk), .int (fp), .int (av), .int (sv), .int (ov), .int (vv), .ref nw, .ref dr, .ref tr, .ref pa, .int (nI ac), .ref ig, .ref kx, .ref be, .ref tc, .int (nI td)])), (nw, .inl (cy 0, 29, .inl f)), (pa, .inl (cy 0, 696, .inl pst))]) (w2 := [(m0, .inr (7, [.ref ml, .ref mm, .ref mit, .ref ms, .int (st), .ref mt, .int (nI tn), .int (fk), .int (fp), .int (av), .int (sv), .int (ov), .int (vv), .ref nw, .ref dr, .ref tr, .ref pa, .int (nI ((mnD sn ac w 0).2)), .ref ig, .ref kx, .ref be, .ref tc, .int (nI td)])), (nw, .inl (cy 0, 29, .inl f)), (pa, .inl (cy 0, 696, .inl pst))]) (q_c1 (f := fun z0 => ([(m0, .inr (7, [.ref ml, .ref mm, .ref mit, .ref ms, .int (st), .ref mt, .int (nI tn), .int (fk), .int (fp), .int (av), .int (sv), .int (ov), .int (vv), .ref nw, .ref dr, .ref tr, .ref pa, .int (z0), .ref ig, .ref kx, .ref be, .ref tc, .int (nI td)])), (nw, .inl (cy 0, 29, .inl f)), (pa, .inl (cy 0, 696, .inl pst))] : va_W)) (show (nI ac : Int32) = nI ((mnD sn ac w 0).2) from rfl)) hP
        have hD := q_Dc (w1 := [(m0, .inr (7, [.ref ml, .ref mm, .ref mit, .ref ms, .int (st), .ref mt, .int (nI tn), .int (fk), .int (fp), .int (av), .int (sv), .int (ov), .int (vv), .ref nw, .ref dr, .ref tr, .ref pa, .int (nI ac), .ref ig, .ref kx, .ref be, .ref tc, .int (nI td)])), (nw, .inl (cy 0, 29, .inl f)), (pa, .inl (cy 0, 696, .inl pst))]) (w2 := [(m0, .inr (7, [.ref ml, .ref mm, .ref mit, .ref ms, .int (st), .ref mt, .int (nI tn), .int (fk), .int (fp), .int (av), .int (sv), .int (ov), .int (vv), .ref nw, .ref dr, .ref tr, .ref pa, .int (nI ((mnD sn ac w 0).2)), .ref ig, .ref kx, .ref be, .ref tc, .int (nI td)])), (nw, .inl (cy 0, 29, .inl f)), (pa, .inl (cy 0, 696, .inl pst))]) (q_c1 (f := fun z0 => ([(m0, .inr (7, [.ref ml, .ref mm, .ref mit, .ref ms, .int (st), .ref mt, .int (nI tn), .int (fk), .int (fp), .int (av), .int (sv), .int (ov), .int (vv), .ref nw, .ref dr, .ref tr, .ref pa, .int (z0), .ref ig, .ref kx, .ref be, .ref tc, .int (nI td)])), (nw, .inl (cy 0, 29, .inl f)), (pa, .inl (cy 0, 696, .inl pst))] : va_W)) (show (nI ac : Int32) = nI ((mnD sn ac w 0).2) from rfl)) hD
        exact L42_27 (m + 1) 0 (by omega) (by omega) f pst (mwIs_d0 hm) hpa H locs hP hD hS ls (lv_sub (l' := [(0, .ref m0), (1, .int (nI m)), (2, .int (nI 0))]) hl [1, 2, 0] rfl)
      · refine lv_ldc (v := (-1000003)) hx hb hown (hts _ mX7_days_2) dX7_days_37 ?_
        have hP9 := hP
        have hD9 := hD
        exact q_wiret (v := (-1000003)) hx hb hr hlocks dX7_days_39 hP9 hD9 hS (⟨w, sn, ac, f, pst, by simp only [mDays, q_cl (by omega : m < 2147483648), if_pos b2, if_pos b4, if_neg (by omega : ¬ w 2 + m ≤ 999)], hv, hm, hac, hpa, rfl⟩)
    · have _ := b4
      refine lv_if_ne (tgt := 23) hx hb dX7_days_17 (by decide) (fun c9 => absurd (by decide) c9) (fun _ => ?_)
      refine lv_ldc (v := (-1000001)) hx hb hown (hts _ mX7_days_3) dX7_days_20 ?_
      have hP9 := hP
      have hD9 := hD
      exact q_wiret (v := (-1000001)) hx hb hr hlocks dX7_days_22 hP9 hD9 hS (⟨w, sn, ac, f, pst, by simp only [mDays, if_pos b2, if_neg b4], hv, hm, hac, hpa, rfl⟩)
  · have _ := b2
    refine lv_if_ne (tgt := 10) hx hb dX7_days_4 (by decide) (fun c9 => absurd (by decide) c9) (fun _ => ?_)
    refine lv_ldc (v := (-1000002)) hx hb hown (hts _ mX7_days_4) dX7_days_7 ?_
    have hP9 := hP
    have hD9 := hD
    exact q_wiret (v := (-1000002)) hx hb hr hlocks dX7_days_9 hP9 hD9 hS (⟨w, sn, ac, f, pst, by simp only [mDays, if_neg b2], hv, hm, hac, hpa, rfl⟩)
theorem nX7_undo_0 : ∀ w ∈ wsX70, w ∈ wsX7_undo := by decide +kernel
theorem mX7_undo_1 : Cond.fieldLink RX7 135 "ClueLeaveModel" "acts" "I" ∈ wsX7_undo := by decide +kernel
theorem mX7_undo_2 : Cond.fieldLink RX7 34 "ClueLeaveModel" "past" "[I" ∈ wsX7_undo := by decide +kernel
theorem mX7_undo_3 : Cond.fieldLink RX7 25 "ClueLeaveModel" "now" "[I" ∈ wsX7_undo := by decide +kernel
theorem mX7_undo_4 : Cond.constant RX7 163 (-1000002) ∈ wsX7_undo := by decide +kernel
set_option maxHeartbeats 4000000 in
set_option maxRecDepth 100000 in
theorem c_X7_undo (l : Launch) (D : va_G) (cy : Nat → ClassId) (m0 ml mm mit ms mt nw dr tr pa ig kx be tc : Nat) (st fk fp av sv ov vv : Int32) (tn ac td : Nat) (f : Nat → Int32) (w : Nat → Nat) (hm : mwIs w f) (hv : ctOk w) (pst : Nat → Int32) (sn : Nat → Nat → Nat) (hac : ac ≤ 24) (hpa : paIs sn ac pst) : q_Wi l yX7_undo wsX7_undo 2 D cy [(m0, .inr (7, [.ref ml, .ref mm, .ref mit, .ref ms, .int (st), .ref mt, .int (nI tn), .int (fk), .int (fp), .int (av), .int (sv), .int (ov), .int (vv), .ref nw, .ref dr, .ref tr, .ref pa, .int (nI ac), .ref ig, .ref kx, .ref be, .ref tc, .int (nI td)])), (nw, .inl (cy 0, 29, .inl f)), (pa, .inl (cy 0, 696, .inl pst))] [.ref m0] (fun r u => (ac = 0 ∧ r = -1000002 ∧ u = [(m0, .inr (7, [.ref ml, .ref mm, .ref mit, .ref ms, .int (st), .ref mt, .int (nI tn), .int (fk), .int (fp), .int (av), .int (sv), .int (ov), .int (vv), .ref nw, .ref dr, .ref tr, .ref pa, .int (nI ac), .ref ig, .ref kx, .ref be, .ref tc, .int (nI td)])), (nw, .inl (cy 0, 29, .inl f)), (pa, .inl (cy 0, 696, .inl pst))]) ∨ (∃ f2 : Nat → Int32, 0 < ac ∧ r = nI (ac - 1) ∧ mwIs (sn (ac - 1)) f2 ∧ u = [(m0, .inr (7, [.ref ml, .ref mm, .ref mit, .ref ms, .int (st), .ref mt, .int (nI tn), .int (fk), .int (fp), .int (av), .int (sv), .int (ov), .int (vv), .ref nw, .ref dr, .ref tr, .ref pa, .int (nI (ac - 1)), .ref ig, .ref kx, .ref be, .ref tc, .int (nI td)])), (nw, .inl (cy 0, 29, .inl f2)), (pa, .inl (cy 0, 696, .inl pst))])) := by
  refine q_wi_of (cc := cX7_undo) (maxL := 1) (ret := (some .int)) (by decide) rfl (Nat.le_of_ble_eq_true rfl) ?_
  intro pg en s mi args below meth cd A hC hA hK H locs hP hD hS ls hl
  obtain ⟨hx, hb, hr, hml, hown, hts, hlocks⟩ := hC
  have hl : lv_has ls 1 [(0, .ref m0)] := hl
  refine lv_aload_n hx hb dX7_undo_0 rfl (lv_at hl 0 rfl) ?_
  refine va_get (D := D) (ci := 7) (v := .int (nI ac)) (C := RX7) (T := TX7) (N := 23) hx hb hts nX7_undo_0 hown hK.1 hP 0 rfl rfl 17 (by decide) (hts _ mX7_undo_1) (fun _ h9 => h9) rfl dX7_undo_1 ?_
  refine q_if_ne (tgt := 10) hx hb dX7_undo_4 (by decide) (by omega) (fun c1 => ?_) (fun c1 => ?_)
  · refine lv_aload_n hx hb dX7_undo_10 rfl (lv_at hl 0 rfl) ?_
    refine lv_dup hx hb dX7_undo_11 rfl ?_
    refine va_get (D := D) (ci := 7) (v := .int (nI ac)) (C := RX7) (T := TX7) (N := 23) hx hb hts nX7_undo_0 hown hK.1 hP 0 rfl rfl 17 (by decide) (hts _ mX7_undo_1) (fun _ h9 => h9) rfl dX7_undo_12 ?_
    refine lv_iconst (v := nI 1) hx hb dX7_undo_15 (by decide) ?_
    refine lv_isub hx hb dX7_undo_16 ?_
    refine q_top (y := nI (ac - 1)) (pk_sub (by omega)) ?_
    refine va_put (D := D) (ci := 7) (v := .int (nI (ac - 1))) (ty := .int) (C := RX7) (T := TX7) (N := 23) hx hb hts nX7_undo_0 tyX7 tyX7_ok nmX7 hown hK.1 hP hD hS 0 rfl rfl 17 (by decide) (hts _ mX7_undo_1) (fun _ h9 => h9) rfl (by decide +kernel) rfl rfl (Nat.le_of_ble_eq_true rfl) dX7_undo_17 (fun H locs hP hD hS => ?_)
    have hP : va_P D vwCl [(m0, .inr (7, [.ref ml, .ref mm, .ref mit, .ref ms, .int (st), .ref mt, .int (nI tn), .int (fk), .int (fp), .int (av), .int (sv), .int (ov), .int (vv), .ref nw, .ref dr, .ref tr, .ref pa, .int (nI (ac - 1)), .ref ig, .ref kx, .ref be, .ref tc, .int (nI td)])), (nw, .inl (cy 0, 29, .inl f)), (pa, .inl (cy 0, 696, .inl pst))] H := hP
    have hD : va_D A [(m0, .inr (7, [.ref ml, .ref mm, .ref mit, .ref ms, .int (st), .ref mt, .int (nI tn), .int (fk), .int (fp), .int (av), .int (sv), .int (ov), .int (vv), .ref nw, .ref dr, .ref tr, .ref pa, .int (nI (ac - 1)), .ref ig, .ref kx, .ref be, .ref tc, .int (nI td)])), (nw, .inl (cy 0, 29, .inl f)), (pa, .inl (cy 0, 696, .inl pst))] := hD
    refine lv_aload_n hx hb dX7_undo_20 rfl (lv_at hl 0 rfl) ?_
    refine va_get (D := D) (ci := 7) (v := .ref pa) (C := RX7) (T := TX7) (N := 23) hx hb hts nX7_undo_0 hown hK.1 hP 0 rfl rfl 16 (by decide) (hts _ mX7_undo_2) (fun _ h9 => h9) rfl dX7_undo_21 ?_
    refine lv_bipush (v := nI 29) hx hb dX7_undo_24 (by decide) ?_
    refine lv_aload_n hx hb dX7_undo_26 rfl (lv_at hl 0 rfl) ?_
    refine va_get (D := D) (ci := 7) (v := .int (nI (ac - 1))) (C := RX7) (T := TX7) (N := 23) hx hb hts nX7_undo_0 hown hK.1 hP 0 rfl rfl 17 (by decide) (hts _ mX7_undo_1) (fun _ h9 => h9) rfl dX7_undo_27 ?_
    refine lv_imul hx hb dX7_undo_30 ?_
    refine q_top (y := nI (29 * (ac - 1))) (pk_mul _ _) ?_
    refine lv_aload_n hx hb dX7_undo_31 rfl (lv_at hl 0 rfl) ?_
    refine va_get (D := D) (ci := 7) (v := .ref nw) (C := RX7) (T := TX7) (N := 23) hx hb hts nX7_undo_0 hown hK.1 hP 0 rfl rfl 13 (by decide) (hts _ mX7_undo_3) (fun _ h9 => h9) rfl dX7_undo_32 ?_
    refine lv_iconst (v := nI 0) hx hb dX7_undo_35 (by decide) ?_
    refine q_wvS (As := [.ref pa, .int (nI (29 * (ac - 1))), .ref nw, .int (nI 0)]) (rest := []) (wr := [(m0, .inr (7, [.ref ml, .ref mm, .ref mit, .ref ms, .int (st), .ref mt, .int (nI tn), .int (fk), .int (fp), .int (av), .int (sv), .int (ov), .int (vv), .ref nw, .ref dr, .ref tr, .ref pa, .int (nI (ac - 1)), .ref ig, .ref kx, .ref be, .ref tc, .int (nI td)]))]) ⟨hx, hb, hml, hown, hts⟩ (c_X7_copies l D cy pa nw 696 29 (by decide) (by decide) pst f (29 * (ac - 1)) 0 (by omega) (by omega)) (va_cwS 4 hts gX7_undo_X7_copies rfl rfl rfl (by decide +kernel) ⟨Nat.le_of_ble_eq_true rfl, Nat.le_of_ble_eq_true rfl⟩) hP hD hS hA hK [2, 1] [0] rfl rfl (by decide) rfl (by decide) (by decide) rfl hl.1 rfl (Nat.le_of_ble_eq_true rfl) dX7_undo_36 ⟨Nat.zero_le _, Nat.zero_le _⟩ (fun u3 H locs hr2 hP hD hS => ?_)
    obtain rfl := hr2
    have hP : va_P D vwCl [(m0, .inr (7, [.ref ml, .ref mm, .ref mit, .ref ms, .int (st), .ref mt, .int (nI tn), .int (fk), .int (fp), .int (av), .int (sv), .int (ov), .int (vv), .ref nw, .ref dr, .ref tr, .ref pa, .int (nI (ac - 1)), .ref ig, .ref kx, .ref be, .ref tc, .int (nI td)])), (pa, .inl (cy 0, 696, .inl pst)), (nw, .inl (cy 0, 29, .inl (va_cpy pst f (29 * (ac - 1)) 0 29)))] H := hP
    have hD : va_D A [(m0, .inr (7, [.ref ml, .ref mm, .ref mit, .ref ms, .int (st), .ref mt, .int (nI tn), .int (fk), .int (fp), .int (av), .int (sv), .int (ov), .int (vv), .ref nw, .ref dr, .ref tr, .ref pa, .int (nI (ac - 1)), .ref ig, .ref kx, .ref be, .ref tc, .int (nI td)])), (pa, .inl (cy 0, 696, .inl pst)), (nw, .inl (cy 0, 29, .inl (va_cpy pst f (29 * (ac - 1)) 0 29)))] := hD
    refine lv_aload_n hx hb dX7_undo_39 rfl (lv_at hl 0 rfl) ?_
    refine va_get (D := D) (ci := 7) (v := .int (nI (ac - 1))) (C := RX7) (T := TX7) (N := 23) hx hb hts nX7_undo_0 hown hK.1 hP 0 rfl rfl 17 (by decide) (hts _ mX7_undo_1) (fun _ h9 => h9) rfl dX7_undo_40 ?_
    have hP9 := hP.sub (ws' := [(m0, .inr (7, [.ref ml, .ref mm, .ref mit, .ref ms, .int (st), .ref mt, .int (nI tn), .int (fk), .int (fp), .int (av), .int (sv), .int (ov), .int (vv), .ref nw, .ref dr, .ref tr, .ref pa, .int (nI (ac - 1)), .ref ig, .ref kx, .ref be, .ref tc, .int (nI td)])), (nw, .inl (cy 0, 29, .inl (va_cpy pst f (29 * (ac - 1)) 0 29))), (pa, .inl (cy 0, 696, .inl pst))]) [0, 2, 1] rfl
    have hD9 := hD.sub (ws' := [(m0, .inr (7, [.ref ml, .ref mm, .ref mit, .ref ms, .int (st), .ref mt, .int (nI tn), .int (fk), .int (fp), .int (av), .int (sv), .int (ov), .int (vv), .ref nw, .ref dr, .ref tr, .ref pa, .int (nI (ac - 1)), .ref ig, .ref kx, .ref be, .ref tc, .int (nI td)])), (nw, .inl (cy 0, 29, .inl (va_cpy pst f (29 * (ac - 1)) 0 29))), (pa, .inl (cy 0, 696, .inl pst))]) [0, 2, 1] (by decide) rfl
    exact q_wiret (v := nI (ac - 1)) hx hb hr hlocks dX7_undo_43 hP9 hD9 hS (Or.inr ⟨_, by omega, rfl, mwIs_un hpa (by omega), rfl⟩)
  · refine lv_ldc (v := (-1000002)) hx hb hown (hts _ mX7_undo_4) dX7_undo_7 ?_
    have hP9 := hP
    have hD9 := hD
    exact q_wiret (v := (-1000002)) hx hb hr hlocks dX7_undo_9 hP9 hD9 hS (Or.inl ⟨by omega, rfl, rfl⟩)
theorem nX7_image_0 : ∀ w ∈ wsX70, w ∈ wsX7_image := by decide +kernel
theorem mX7_image_1 : Cond.fieldLink RX7 25 "ClueLeaveModel" "now" "[I" ∈ wsX7_image := by decide +kernel
theorem mX7_image_2 : Cond.fieldLink RX7 37 "ClueLeaveModel" "images" "[I" ∈ wsX7_image := by decide +kernel
theorem mX7_image_3 : Cond.fieldLink RX7 40 "ClueLeaveModel" "kept" "[Z" ∈ wsX7_image := by decide +kernel
theorem mX7_image_4 : Cond.constant RX7 163 (-1000002) ∈ wsX7_image := by decide +kernel
theorem mX7_image_5 : Cond.constant RX7 64 (-1000001) ∈ wsX7_image := by decide +kernel
set_option maxHeartbeats 4000000 in
set_option maxRecDepth 100000 in
theorem c_X7_image (l : Launch) (D : va_G) (cy : Nat → ClassId) (m0 ml mm mit ms mt nw dr tr pa ig kx be tc : Nat) (st fk fp av sv ov vv : Int32) (tn ac td : Nat) (f : Nat → Int32) (w : Nat → Nat) (hm : mwIs w f) (hv : ctOk w) (w0 w1 : Nat → Nat) (fg fx : Nat → Int32) (hig : igIs w0 w1 fg fx) (k : Int32) : q_Wi l yX7_image wsX7_image 2 D cy [(m0, .inr (7, [.ref ml, .ref mm, .ref mit, .ref ms, .int (st), .ref mt, .int (nI tn), .int (fk), .int (fp), .int (av), .int (sv), .int (ov), .int (vv), .ref nw, .ref dr, .ref tr, .ref pa, .int (nI ac), .ref ig, .ref kx, .ref be, .ref tc, .int (nI td)])), (nw, .inl (cy 0, 29, .inl f)), (ig, .inl (cy 0, 58, .inl fg)), (kx, .inl (cy 1, 2, .inl fx))] [.ref m0, .int (k)] (fun r u => ∃ (w2 w3 : Nat → Nat) (fg2 fx2 : Nat → Int32), oImage w w0 w1 k = (r, w2, w3) ∧ igIs w2 w3 fg2 fx2 ∧ u = [(m0, .inr (7, [.ref ml, .ref mm, .ref mit, .ref ms, .int (st), .ref mt, .int (nI tn), .int (fk), .int (fp), .int (av), .int (sv), .int (ov), .int (vv), .ref nw, .ref dr, .ref tr, .ref pa, .int (nI ac), .ref ig, .ref kx, .ref be, .ref tc, .int (nI td)])), (nw, .inl (cy 0, 29, .inl f)), (ig, .inl (cy 0, 58, .inl fg2)), (kx, .inl (cy 1, 2, .inl fx2))]) := by
  refine q_wi_of (cc := cX7_image) (maxL := 2) (ret := (some .int)) (by decide) rfl (Nat.le_of_ble_eq_true rfl) ?_
  intro pg en s mi args below meth cd A hC hA hK H locs hP hD hS ls hl
  obtain ⟨hx, hb, hr, hml, hown, hts, hlocks⟩ := hC
  have hl : lv_has ls 2 [(0, .ref m0), (1, .int (k))] := hl
  obtain ⟨hv0, hv1, hv2, hv3, hv4, hvc⟩ := id hv
  refine lv_iload_n hx hb dX7_image_0 rfl (lv_at hl 1 rfl) ?_
  refine lv_iconst (v := nI 0) hx hb dX7_image_1 (by decide) ?_
  refine lv_iconst (v := nI 1) hx hb dX7_image_2 (by decide) ?_
  refine q_rS (As := [.int (k), .int (nI 0), .int (nI 1)]) (rest := []) ⟨hx, hb, hml, hown, hts⟩ (c_X7_in l D cy k (nI 0) (nI 1)) (va_cwS 3 hts gX7_image_X7_in rfl rfl rfl (by decide +kernel) ⟨Nat.le_of_ble_eq_true rfl, Nat.le_of_ble_eq_true rfl⟩) hP hK [] rfl rfl hl.1 rfl (Nat.le_of_ble_eq_true rfl) dX7_image_3 ⟨Nat.zero_le _, Nat.zero_le _⟩ (fun r1 hr1 => ?_)
  rcases hr1 with ⟨rfl, b2⟩ | ⟨rfl, b2⟩
  · have _ := b2
    refine lv_if_ne (tgt := 12) hx hb dX7_image_6 (by decide) (fun _ => ?_) (fun c9 => absurd c9 (by decide))
    rcases q_01 b2 with rfl | rfl
    · refine lv_aload_n hx hb dX7_image_12 rfl (lv_at hl 0 rfl) ?_
      refine q_rV (As := []) (rest := []) ⟨hx, hb, hml, hown, hts⟩ (c_X7_isCity l D cy m0 ml mm mit ms mt nw dr tr pa ig kx be tc st fk fp av sv ov vv tn ac td f w hm hv) (cwV 0 hts gX7_image_X7_isCity rfl rfl rfl (by decide +kernel) ⟨Nat.le_of_ble_eq_true rfl, Nat.le_of_ble_eq_true rfl⟩) hP hK [0, 1] rfl 0 rfl rfl rfl rfl hl.1 rfl (Nat.le_of_ble_eq_true rfl) dX7_image_13 ⟨Nat.zero_le _, Nat.zero_le _⟩ (fun r3 hr3 => ?_)
      rcases hr3 with ⟨rfl, b4⟩ | ⟨rfl, b4⟩
      · have _ := b4
        refine lv_if_ne (tgt := 22) hx hb dX7_image_16 (by decide) (fun _ => ?_) (fun c9 => absurd c9 (by decide))
        refine lv_aload_n hx hb dX7_image_22 rfl (lv_at hl 0 rfl) ?_
        refine va_get (D := D) (ci := 7) (v := .ref nw) (C := RX7) (T := TX7) (N := 23) hx hb hts nX7_image_0 hown hK.1 hP 0 rfl rfl 13 (by decide) (hts _ mX7_image_1) (fun _ h9 => h9) rfl dX7_image_23 ?_
        refine lv_iconst (v := nI 0) hx hb dX7_image_26 (by decide) ?_
        refine lv_aload_n hx hb dX7_image_27 rfl (lv_at hl 0 rfl) ?_
        refine va_get (D := D) (ci := 7) (v := .ref ig) (C := RX7) (T := TX7) (N := 23) hx hb hts nX7_image_0 hown hK.1 hP 0 rfl rfl 18 (by decide) (hts _ mX7_image_2) (fun _ h9 => h9) rfl dX7_image_28 ?_
        refine lv_bipush (v := nI 29) hx hb dX7_image_31 (by decide) ?_
        refine lv_iload_n hx hb dX7_image_33 rfl (lv_at hl 1 rfl) ?_
        refine lv_imul hx hb dX7_image_34 ?_
        refine q_top (y := nI 0) (by decide) ?_
        refine q_wvS (As := [.ref nw, .int (nI 0), .ref ig, .int (nI 0)]) (rest := []) (wr := [(m0, .inr (7, [.ref ml, .ref mm, .ref mit, .ref ms, .int (st), .ref mt, .int (nI tn), .int (fk), .int (fp), .int (av), .int (sv), .int (ov), .int (vv), .ref nw, .ref dr, .ref tr, .ref pa, .int (nI ac), .ref ig, .ref kx, .ref be, .ref tc, .int (nI td)])), (kx, .inl (cy 1, 2, .inl fx))]) ⟨hx, hb, hml, hown, hts⟩ (c_X7_copies l D cy nw ig 29 58 (by decide) (by decide) f fg 0 0 (by omega) (by omega)) (va_cwS 4 hts gX7_image_X7_copies rfl rfl rfl (by decide +kernel) ⟨Nat.le_of_ble_eq_true rfl, Nat.le_of_ble_eq_true rfl⟩) hP hD hS hA hK [1, 2] [0, 3] rfl rfl (by decide) rfl (by decide) (by decide) rfl hl.1 rfl (Nat.le_of_ble_eq_true rfl) dX7_image_35 ⟨Nat.zero_le _, Nat.zero_le _⟩ (fun u6 H locs hr5 hP hD hS => ?_)
        obtain rfl := hr5
        have hP : va_P D vwCl [(m0, .inr (7, [.ref ml, .ref mm, .ref mit, .ref ms, .int (st), .ref mt, .int (nI tn), .int (fk), .int (fp), .int (av), .int (sv), .int (ov), .int (vv), .ref nw, .ref dr, .ref tr, .ref pa, .int (nI ac), .ref ig, .ref kx, .ref be, .ref tc, .int (nI td)])), (kx, .inl (cy 1, 2, .inl fx)), (nw, .inl (cy 0, 29, .inl f)), (ig, .inl (cy 0, 58, .inl (va_cpy f fg 0 0 29)))] H := hP
        have hD : va_D A [(m0, .inr (7, [.ref ml, .ref mm, .ref mit, .ref ms, .int (st), .ref mt, .int (nI tn), .int (fk), .int (fp), .int (av), .int (sv), .int (ov), .int (vv), .ref nw, .ref dr, .ref tr, .ref pa, .int (nI ac), .ref ig, .ref kx, .ref be, .ref tc, .int (nI td)])), (kx, .inl (cy 1, 2, .inl fx)), (nw, .inl (cy 0, 29, .inl f)), (ig, .inl (cy 0, 58, .inl (va_cpy f fg 0 0 29)))] := hD
        refine lv_aload_n hx hb dX7_image_38 rfl (lv_at hl 0 rfl) ?_
        refine va_get (D := D) (ci := 7) (v := .ref kx) (C := RX7) (T := TX7) (N := 23) hx hb hts nX7_image_0 hown hK.1 hP 0 rfl rfl 19 (by decide) (hts _ mX7_image_3) (fun _ h9 => h9) rfl dX7_image_39 ?_
        refine lv_iload_n hx hb dX7_image_42 rfl (lv_at hl 1 rfl) ?_
        refine lv_iconst (v := nI 1) hx hb dX7_image_43 (by decide) ?_
        refine q_zast (j := 0) hx hb hK hP hD hS 1 rfl (by omega) (by decide) (by decide) dX7_image_44 (fun H locs hP hD hS => ?_)
        have hP : va_P D vwCl [(m0, .inr (7, [.ref ml, .ref mm, .ref mit, .ref ms, .int (st), .ref mt, .int (nI tn), .int (fk), .int (fp), .int (av), .int (sv), .int (ov), .int (vv), .ref nw, .ref dr, .ref tr, .ref pa, .int (nI ac), .ref ig, .ref kx, .ref be, .ref tc, .int (nI td)])), (kx, .inl (cy 1, 2, .inl (upd fx 0 (nI 1)))), (nw, .inl (cy 0, 29, .inl f)), (ig, .inl (cy 0, 58, .inl (va_cpy f fg 0 0 29)))] H := hP
        have hD : va_D A [(m0, .inr (7, [.ref ml, .ref mm, .ref mit, .ref ms, .int (st), .ref mt, .int (nI tn), .int (fk), .int (fp), .int (av), .int (sv), .int (ov), .int (vv), .ref nw, .ref dr, .ref tr, .ref pa, .int (nI ac), .ref ig, .ref kx, .ref be, .ref tc, .int (nI td)])), (kx, .inl (cy 1, 2, .inl (upd fx 0 (nI 1)))), (nw, .inl (cy 0, 29, .inl f)), (ig, .inl (cy 0, 58, .inl (va_cpy f fg 0 0 29)))] := hD
        refine lv_iconst (v := nI 1) hx hb dX7_image_45 (by decide) ?_
        have hP9 := hP.sub (ws' := [(m0, .inr (7, [.ref ml, .ref mm, .ref mit, .ref ms, .int (st), .ref mt, .int (nI tn), .int (fk), .int (fp), .int (av), .int (sv), .int (ov), .int (vv), .ref nw, .ref dr, .ref tr, .ref pa, .int (nI ac), .ref ig, .ref kx, .ref be, .ref tc, .int (nI td)])), (nw, .inl (cy 0, 29, .inl f)), (ig, .inl (cy 0, 58, .inl (va_cpy f fg 0 0 29))), (kx, .inl (cy 1, 2, .inl (upd fx 0 (nI 1))))]) [0, 2, 3, 1] rfl
        have hD9 := hD.sub (ws' := [(m0, .inr (7, [.ref ml, .ref mm, .ref mit, .ref ms, .int (st), .ref mt, .int (nI tn), .int (fk), .int (fp), .int (av), .int (sv), .int (ov), .int (vv), .ref nw, .ref dr, .ref tr, .ref pa, .int (nI ac), .ref ig, .ref kx, .ref be, .ref tc, .int (nI td)])), (nw, .inl (cy 0, 29, .inl f)), (ig, .inl (cy 0, 58, .inl (va_cpy f fg 0 0 29))), (kx, .inl (cy 1, 2, .inl (upd fx 0 (nI 1))))]) [0, 2, 3, 1] (by decide) rfl
        exact q_wiret (v := nI 1) hx hb hr hlocks dX7_image_46 hP9 hD9 hS (⟨w, w1, _, _, by simp only [oImage, if_pos b2, if_pos b4, if_true], igIs_0 hm hig b4, rfl⟩)
      · have _ := b4
        refine lv_if_ne (tgt := 22) hx hb dX7_image_16 (by decide) (fun c9 => absurd (by decide) c9) (fun _ => ?_)
        refine lv_ldc (v := (-1000002)) hx hb hown (hts _ mX7_image_4) dX7_image_19 ?_
        have hP9 := hP
        have hD9 := hD
        exact q_wiret (v := (-1000002)) hx hb hr hlocks dX7_image_21 hP9 hD9 hS (⟨w0, w1, fg, fx, by simp only [oImage, if_pos b2, if_neg b4, if_true], hig, rfl⟩)
    · refine lv_aload_n hx hb dX7_image_12 rfl (lv_at hl 0 rfl) ?_
      refine q_rV (As := []) (rest := []) ⟨hx, hb, hml, hown, hts⟩ (c_X7_isCity l D cy m0 ml mm mit ms mt nw dr tr pa ig kx be tc st fk fp av sv ov vv tn ac td f w hm hv) (cwV 0 hts gX7_image_X7_isCity rfl rfl rfl (by decide +kernel) ⟨Nat.le_of_ble_eq_true rfl, Nat.le_of_ble_eq_true rfl⟩) hP hK [0, 1] rfl 0 rfl rfl rfl rfl hl.1 rfl (Nat.le_of_ble_eq_true rfl) dX7_image_13 ⟨Nat.zero_le _, Nat.zero_le _⟩ (fun r7 hr7 => ?_)
      rcases hr7 with ⟨rfl, b8⟩ | ⟨rfl, b8⟩
      · have _ := b8
        refine lv_if_ne (tgt := 22) hx hb dX7_image_16 (by decide) (fun _ => ?_) (fun c9 => absurd c9 (by decide))
        refine lv_aload_n hx hb dX7_image_22 rfl (lv_at hl 0 rfl) ?_
        refine va_get (D := D) (ci := 7) (v := .ref nw) (C := RX7) (T := TX7) (N := 23) hx hb hts nX7_image_0 hown hK.1 hP 0 rfl rfl 13 (by decide) (hts _ mX7_image_1) (fun _ h9 => h9) rfl dX7_image_23 ?_
        refine lv_iconst (v := nI 0) hx hb dX7_image_26 (by decide) ?_
        refine lv_aload_n hx hb dX7_image_27 rfl (lv_at hl 0 rfl) ?_
        refine va_get (D := D) (ci := 7) (v := .ref ig) (C := RX7) (T := TX7) (N := 23) hx hb hts nX7_image_0 hown hK.1 hP 0 rfl rfl 18 (by decide) (hts _ mX7_image_2) (fun _ h9 => h9) rfl dX7_image_28 ?_
        refine lv_bipush (v := nI 29) hx hb dX7_image_31 (by decide) ?_
        refine lv_iload_n hx hb dX7_image_33 rfl (lv_at hl 1 rfl) ?_
        refine lv_imul hx hb dX7_image_34 ?_
        refine q_top (y := nI 29) (by decide) ?_
        refine q_wvS (As := [.ref nw, .int (nI 0), .ref ig, .int (nI 29)]) (rest := []) (wr := [(m0, .inr (7, [.ref ml, .ref mm, .ref mit, .ref ms, .int (st), .ref mt, .int (nI tn), .int (fk), .int (fp), .int (av), .int (sv), .int (ov), .int (vv), .ref nw, .ref dr, .ref tr, .ref pa, .int (nI ac), .ref ig, .ref kx, .ref be, .ref tc, .int (nI td)])), (kx, .inl (cy 1, 2, .inl fx))]) ⟨hx, hb, hml, hown, hts⟩ (c_X7_copies l D cy nw ig 29 58 (by decide) (by decide) f fg 0 29 (by omega) (by omega)) (va_cwS 4 hts gX7_image_X7_copies rfl rfl rfl (by decide +kernel) ⟨Nat.le_of_ble_eq_true rfl, Nat.le_of_ble_eq_true rfl⟩) hP hD hS hA hK [1, 2] [0, 3] rfl rfl (by decide) rfl (by decide) (by decide) rfl hl.1 rfl (Nat.le_of_ble_eq_true rfl) dX7_image_35 ⟨Nat.zero_le _, Nat.zero_le _⟩ (fun u10 H locs hr9 hP hD hS => ?_)
        obtain rfl := hr9
        have hP : va_P D vwCl [(m0, .inr (7, [.ref ml, .ref mm, .ref mit, .ref ms, .int (st), .ref mt, .int (nI tn), .int (fk), .int (fp), .int (av), .int (sv), .int (ov), .int (vv), .ref nw, .ref dr, .ref tr, .ref pa, .int (nI ac), .ref ig, .ref kx, .ref be, .ref tc, .int (nI td)])), (kx, .inl (cy 1, 2, .inl fx)), (nw, .inl (cy 0, 29, .inl f)), (ig, .inl (cy 0, 58, .inl (va_cpy f fg 0 29 29)))] H := hP
        have hD : va_D A [(m0, .inr (7, [.ref ml, .ref mm, .ref mit, .ref ms, .int (st), .ref mt, .int (nI tn), .int (fk), .int (fp), .int (av), .int (sv), .int (ov), .int (vv), .ref nw, .ref dr, .ref tr, .ref pa, .int (nI ac), .ref ig, .ref kx, .ref be, .ref tc, .int (nI td)])), (kx, .inl (cy 1, 2, .inl fx)), (nw, .inl (cy 0, 29, .inl f)), (ig, .inl (cy 0, 58, .inl (va_cpy f fg 0 29 29)))] := hD
        refine lv_aload_n hx hb dX7_image_38 rfl (lv_at hl 0 rfl) ?_
        refine va_get (D := D) (ci := 7) (v := .ref kx) (C := RX7) (T := TX7) (N := 23) hx hb hts nX7_image_0 hown hK.1 hP 0 rfl rfl 19 (by decide) (hts _ mX7_image_3) (fun _ h9 => h9) rfl dX7_image_39 ?_
        refine lv_iload_n hx hb dX7_image_42 rfl (lv_at hl 1 rfl) ?_
        refine lv_iconst (v := nI 1) hx hb dX7_image_43 (by decide) ?_
        refine q_zast (j := 1) hx hb hK hP hD hS 1 rfl (by omega) (by decide) (by decide) dX7_image_44 (fun H locs hP hD hS => ?_)
        have hP : va_P D vwCl [(m0, .inr (7, [.ref ml, .ref mm, .ref mit, .ref ms, .int (st), .ref mt, .int (nI tn), .int (fk), .int (fp), .int (av), .int (sv), .int (ov), .int (vv), .ref nw, .ref dr, .ref tr, .ref pa, .int (nI ac), .ref ig, .ref kx, .ref be, .ref tc, .int (nI td)])), (kx, .inl (cy 1, 2, .inl (upd fx 1 (nI 1)))), (nw, .inl (cy 0, 29, .inl f)), (ig, .inl (cy 0, 58, .inl (va_cpy f fg 0 29 29)))] H := hP
        have hD : va_D A [(m0, .inr (7, [.ref ml, .ref mm, .ref mit, .ref ms, .int (st), .ref mt, .int (nI tn), .int (fk), .int (fp), .int (av), .int (sv), .int (ov), .int (vv), .ref nw, .ref dr, .ref tr, .ref pa, .int (nI ac), .ref ig, .ref kx, .ref be, .ref tc, .int (nI td)])), (kx, .inl (cy 1, 2, .inl (upd fx 1 (nI 1)))), (nw, .inl (cy 0, 29, .inl f)), (ig, .inl (cy 0, 58, .inl (va_cpy f fg 0 29 29)))] := hD
        refine lv_iconst (v := nI 1) hx hb dX7_image_45 (by decide) ?_
        have hP9 := hP.sub (ws' := [(m0, .inr (7, [.ref ml, .ref mm, .ref mit, .ref ms, .int (st), .ref mt, .int (nI tn), .int (fk), .int (fp), .int (av), .int (sv), .int (ov), .int (vv), .ref nw, .ref dr, .ref tr, .ref pa, .int (nI ac), .ref ig, .ref kx, .ref be, .ref tc, .int (nI td)])), (nw, .inl (cy 0, 29, .inl f)), (ig, .inl (cy 0, 58, .inl (va_cpy f fg 0 29 29))), (kx, .inl (cy 1, 2, .inl (upd fx 1 (nI 1))))]) [0, 2, 3, 1] rfl
        have hD9 := hD.sub (ws' := [(m0, .inr (7, [.ref ml, .ref mm, .ref mit, .ref ms, .int (st), .ref mt, .int (nI tn), .int (fk), .int (fp), .int (av), .int (sv), .int (ov), .int (vv), .ref nw, .ref dr, .ref tr, .ref pa, .int (nI ac), .ref ig, .ref kx, .ref be, .ref tc, .int (nI td)])), (nw, .inl (cy 0, 29, .inl f)), (ig, .inl (cy 0, 58, .inl (va_cpy f fg 0 29 29))), (kx, .inl (cy 1, 2, .inl (upd fx 1 (nI 1))))]) [0, 2, 3, 1] (by decide) rfl
        exact q_wiret (v := nI 1) hx hb hr hlocks dX7_image_46 hP9 hD9 hS (⟨w0, w, _, _, by simp only [oImage, if_pos b2, if_pos b8, if_neg (by decide : ¬ nI 1 = nI 0)], igIs_1 hm hig b8, rfl⟩)
      · have _ := b8
        refine lv_if_ne (tgt := 22) hx hb dX7_image_16 (by decide) (fun c9 => absurd (by decide) c9) (fun _ => ?_)
        refine lv_ldc (v := (-1000002)) hx hb hown (hts _ mX7_image_4) dX7_image_19 ?_
        have hP9 := hP
        have hD9 := hD
        exact q_wiret (v := (-1000002)) hx hb hr hlocks dX7_image_21 hP9 hD9 hS (⟨w0, w1, fg, fx, by simp only [oImage, if_pos b2, if_neg b8], hig, rfl⟩)
  · have _ := b2
    refine lv_if_ne (tgt := 12) hx hb dX7_image_6 (by decide) (fun c9 => absurd (by decide) c9) (fun _ => ?_)
    refine lv_ldc (v := (-1000001)) hx hb hown (hts _ mX7_image_5) dX7_image_9 ?_
    have hP9 := hP
    have hD9 := hD
    exact q_wiret (v := (-1000001)) hx hb hr hlocks dX7_image_11 hP9 hD9 hS (⟨w0, w1, fg, fx, by simp only [oImage, if_neg b2], hig, rfl⟩)
theorem nX7_restore_0 : ∀ w ∈ wsX70, w ∈ wsX7_restore := by decide +kernel
theorem mX7_restore_1 : Cond.fieldLink RX7 40 "ClueLeaveModel" "kept" "[Z" ∈ wsX7_restore := by decide +kernel
theorem mX7_restore_2 : Cond.fieldLink RX7 37 "ClueLeaveModel" "images" "[I" ∈ wsX7_restore := by decide +kernel
theorem mX7_restore_3 : Cond.fieldLink RX7 25 "ClueLeaveModel" "now" "[I" ∈ wsX7_restore := by decide +kernel
theorem mX7_restore_4 : Cond.fieldLink RX7 135 "ClueLeaveModel" "acts" "I" ∈ wsX7_restore := by decide +kernel
theorem mX7_restore_5 : Cond.constant RX7 163 (-1000002) ∈ wsX7_restore := by decide +kernel
theorem mX7_restore_6 : Cond.constant RX7 64 (-1000001) ∈ wsX7_restore := by decide +kernel
set_option maxHeartbeats 4000000 in
set_option maxRecDepth 100000 in
theorem c_X7_restore (l : Launch) (D : va_G) (cy : Nat → ClassId) (m0 ml mm mit ms mt nw dr tr pa ig kx be tc : Nat) (st fk fp av sv ov vv : Int32) (tn ac td : Nat) (f : Nat → Int32) (w : Nat → Nat) (hm : mwIs w f) (hv : ctOk w) (w0 w1 : Nat → Nat) (fg fx : Nat → Int32) (hig : igIs w0 w1 fg fx) (hv0w : ctOk w0) (hv1w : ctOk w1) (k : Int32) : q_Wi l yX7_restore wsX7_restore 2 D cy [(m0, .inr (7, [.ref ml, .ref mm, .ref mit, .ref ms, .int (st), .ref mt, .int (nI tn), .int (fk), .int (fp), .int (av), .int (sv), .int (ov), .int (vv), .ref nw, .ref dr, .ref tr, .ref pa, .int (nI ac), .ref ig, .ref kx, .ref be, .ref tc, .int (nI td)])), (nw, .inl (cy 0, 29, .inl f)), (ig, .inl (cy 0, 58, .inl fg)), (kx, .inl (cy 1, 2, .inl fx))] [.ref m0, .int (k)] (fun r u => ∃ (w2 : Nat → Nat) (ac2 : Nat) (f2 : Nat → Int32), oRestore w w0 w1 ac k = (r, w2, ac2) ∧ ctOk w2 ∧ mwIs w2 f2 ∧ u = [(m0, .inr (7, [.ref ml, .ref mm, .ref mit, .ref ms, .int (st), .ref mt, .int (nI tn), .int (fk), .int (fp), .int (av), .int (sv), .int (ov), .int (vv), .ref nw, .ref dr, .ref tr, .ref pa, .int (nI ac2), .ref ig, .ref kx, .ref be, .ref tc, .int (nI td)])), (nw, .inl (cy 0, 29, .inl f2)), (ig, .inl (cy 0, 58, .inl fg)), (kx, .inl (cy 1, 2, .inl fx))]) := by
  refine q_wi_of (cc := cX7_restore) (maxL := 2) (ret := (some .int)) (by decide) rfl (Nat.le_of_ble_eq_true rfl) ?_
  intro pg en s mi args below meth cd A hC hA hK H locs hP hD hS ls hl
  obtain ⟨hx, hb, hr, hml, hown, hts, hlocks⟩ := hC
  have hl : lv_has ls 2 [(0, .ref m0), (1, .int (k))] := hl
  obtain ⟨hv0, hv1, hv2, hv3, hv4, hvc⟩ := id hv
  refine lv_iload_n hx hb dX7_restore_0 rfl (lv_at hl 1 rfl) ?_
  refine lv_iconst (v := nI 0) hx hb dX7_restore_1 (by decide) ?_
  refine lv_iconst (v := nI 1) hx hb dX7_restore_2 (by decide) ?_
  refine q_rS (As := [.int (k), .int (nI 0), .int (nI 1)]) (rest := []) ⟨hx, hb, hml, hown, hts⟩ (c_X7_in l D cy k (nI 0) (nI 1)) (va_cwS 3 hts gX7_restore_X7_in rfl rfl rfl (by decide +kernel) ⟨Nat.le_of_ble_eq_true rfl, Nat.le_of_ble_eq_true rfl⟩) hP hK [] rfl rfl hl.1 rfl (Nat.le_of_ble_eq_true rfl) dX7_restore_3 ⟨Nat.zero_le _, Nat.zero_le _⟩ (fun r1 hr1 => ?_)
  rcases hr1 with ⟨rfl, b2⟩ | ⟨rfl, b2⟩
  · have _ := b2
    refine lv_if_ne (tgt := 12) hx hb dX7_restore_6 (by decide) (fun _ => ?_) (fun c9 => absurd c9 (by decide))
    rcases q_01 b2 with rfl | rfl
    · refine lv_aload_n hx hb dX7_restore_12 rfl (lv_at hl 0 rfl) ?_
      refine va_get (D := D) (ci := 7) (v := .ref kx) (C := RX7) (T := TX7) (N := 23) hx hb hts nX7_restore_0 hown hK.1 hP 0 rfl rfl 19 (by decide) (hts _ mX7_restore_1) (fun _ h9 => h9) rfl dX7_restore_13 ?_
      refine lv_iload_n hx hb dX7_restore_16 rfl (lv_at hl 1 rfl) ?_
      refine q_zald (j := 0) (v := b0C w0) hx hb hK hP 3 rfl (by omega) (by decide) (hig.1) dX7_restore_17 ?_
      rcases b0C_c w0 with ⟨b3, b3e⟩ | ⟨b3, b3e⟩
      · refine q_top (y := nI 1) b3e ?_
        refine lv_if_ne (tgt := 24) hx hb dX7_restore_18 (by decide) (fun _ => ?_) (fun c9 => absurd c9 (by decide))
        refine lv_aload_n hx hb dX7_restore_24 rfl (lv_at hl 0 rfl) ?_
        refine va_get (D := D) (ci := 7) (v := .ref ig) (C := RX7) (T := TX7) (N := 23) hx hb hts nX7_restore_0 hown hK.1 hP 0 rfl rfl 18 (by decide) (hts _ mX7_restore_2) (fun _ h9 => h9) rfl dX7_restore_25 ?_
        refine lv_bipush (v := nI 29) hx hb dX7_restore_28 (by decide) ?_
        refine lv_iload_n hx hb dX7_restore_30 rfl (lv_at hl 1 rfl) ?_
        refine lv_imul hx hb dX7_restore_31 ?_
        refine q_top (y := nI 0) (by decide) ?_
        refine lv_aload_n hx hb dX7_restore_32 rfl (lv_at hl 0 rfl) ?_
        refine va_get (D := D) (ci := 7) (v := .ref nw) (C := RX7) (T := TX7) (N := 23) hx hb hts nX7_restore_0 hown hK.1 hP 0 rfl rfl 13 (by decide) (hts _ mX7_restore_3) (fun _ h9 => h9) rfl dX7_restore_33 ?_
        refine lv_iconst (v := nI 0) hx hb dX7_restore_36 (by decide) ?_
        refine q_wvS (As := [.ref ig, .int (nI 0), .ref nw, .int (nI 0)]) (rest := []) (wr := [(m0, .inr (7, [.ref ml, .ref mm, .ref mit, .ref ms, .int (st), .ref mt, .int (nI tn), .int (fk), .int (fp), .int (av), .int (sv), .int (ov), .int (vv), .ref nw, .ref dr, .ref tr, .ref pa, .int (nI ac), .ref ig, .ref kx, .ref be, .ref tc, .int (nI td)])), (kx, .inl (cy 1, 2, .inl fx))]) ⟨hx, hb, hml, hown, hts⟩ (c_X7_copies l D cy ig nw 58 29 (by decide) (by decide) fg f 0 0 (by omega) (by omega)) (va_cwS 4 hts gX7_restore_X7_copies rfl rfl rfl (by decide +kernel) ⟨Nat.le_of_ble_eq_true rfl, Nat.le_of_ble_eq_true rfl⟩) hP hD hS hA hK [2, 1] [0, 3] rfl rfl (by decide) rfl (by decide) (by decide) rfl hl.1 rfl (Nat.le_of_ble_eq_true rfl) dX7_restore_37 ⟨Nat.zero_le _, Nat.zero_le _⟩ (fun u5 H locs hr4 hP hD hS => ?_)
        obtain rfl := hr4
        have hP : va_P D vwCl [(m0, .inr (7, [.ref ml, .ref mm, .ref mit, .ref ms, .int (st), .ref mt, .int (nI tn), .int (fk), .int (fp), .int (av), .int (sv), .int (ov), .int (vv), .ref nw, .ref dr, .ref tr, .ref pa, .int (nI ac), .ref ig, .ref kx, .ref be, .ref tc, .int (nI td)])), (kx, .inl (cy 1, 2, .inl fx)), (ig, .inl (cy 0, 58, .inl fg)), (nw, .inl (cy 0, 29, .inl (va_cpy fg f 0 0 29)))] H := hP
        have hD : va_D A [(m0, .inr (7, [.ref ml, .ref mm, .ref mit, .ref ms, .int (st), .ref mt, .int (nI tn), .int (fk), .int (fp), .int (av), .int (sv), .int (ov), .int (vv), .ref nw, .ref dr, .ref tr, .ref pa, .int (nI ac), .ref ig, .ref kx, .ref be, .ref tc, .int (nI td)])), (kx, .inl (cy 1, 2, .inl fx)), (ig, .inl (cy 0, 58, .inl fg)), (nw, .inl (cy 0, 29, .inl (va_cpy fg f 0 0 29)))] := hD
        refine lv_aload_n hx hb dX7_restore_40 rfl (lv_at hl 0 rfl) ?_
        refine lv_iconst (v := nI 0) hx hb dX7_restore_41 (by decide) ?_
        refine va_put (D := D) (ci := 7) (v := .int (nI 0)) (ty := .int) (C := RX7) (T := TX7) (N := 23) hx hb hts nX7_restore_0 tyX7 tyX7_ok nmX7 hown hK.1 hP hD hS 0 rfl rfl 17 (by decide) (hts _ mX7_restore_4) (fun _ h9 => h9) rfl (by decide +kernel) rfl rfl (Nat.le_of_ble_eq_true rfl) dX7_restore_42 (fun H locs hP hD hS => ?_)
        have hP : va_P D vwCl [(m0, .inr (7, [.ref ml, .ref mm, .ref mit, .ref ms, .int (st), .ref mt, .int (nI tn), .int (fk), .int (fp), .int (av), .int (sv), .int (ov), .int (vv), .ref nw, .ref dr, .ref tr, .ref pa, .int (nI 0), .ref ig, .ref kx, .ref be, .ref tc, .int (nI td)])), (kx, .inl (cy 1, 2, .inl fx)), (ig, .inl (cy 0, 58, .inl fg)), (nw, .inl (cy 0, 29, .inl (va_cpy fg f 0 0 29)))] H := hP
        have hD : va_D A [(m0, .inr (7, [.ref ml, .ref mm, .ref mit, .ref ms, .int (st), .ref mt, .int (nI tn), .int (fk), .int (fp), .int (av), .int (sv), .int (ov), .int (vv), .ref nw, .ref dr, .ref tr, .ref pa, .int (nI 0), .ref ig, .ref kx, .ref be, .ref tc, .int (nI td)])), (kx, .inl (cy 1, 2, .inl fx)), (ig, .inl (cy 0, 58, .inl fg)), (nw, .inl (cy 0, 29, .inl (va_cpy fg f 0 0 29)))] := hD
        refine lv_iconst (v := nI 1) hx hb dX7_restore_45 (by decide) ?_
        have hP9 := hP.sub (ws' := [(m0, .inr (7, [.ref ml, .ref mm, .ref mit, .ref ms, .int (st), .ref mt, .int (nI tn), .int (fk), .int (fp), .int (av), .int (sv), .int (ov), .int (vv), .ref nw, .ref dr, .ref tr, .ref pa, .int (nI 0), .ref ig, .ref kx, .ref be, .ref tc, .int (nI td)])), (nw, .inl (cy 0, 29, .inl (va_cpy fg f 0 0 29))), (ig, .inl (cy 0, 58, .inl fg)), (kx, .inl (cy 1, 2, .inl fx))]) [0, 3, 2, 1] rfl
        have hD9 := hD.sub (ws' := [(m0, .inr (7, [.ref ml, .ref mm, .ref mit, .ref ms, .int (st), .ref mt, .int (nI tn), .int (fk), .int (fp), .int (av), .int (sv), .int (ov), .int (vv), .ref nw, .ref dr, .ref tr, .ref pa, .int (nI 0), .ref ig, .ref kx, .ref be, .ref tc, .int (nI td)])), (nw, .inl (cy 0, 29, .inl (va_cpy fg f 0 0 29))), (ig, .inl (cy 0, 58, .inl fg)), (kx, .inl (cy 1, 2, .inl fx))]) [0, 3, 2, 1] (by decide) rfl
        exact q_wiret (v := nI 1) hx hb hr hlocks dX7_restore_46 hP9 hD9 hS (⟨w0, 0, _, by simp only [oRestore, if_pos b2, if_pos b3, if_true], hv0w, igIs_r0 hig b3, rfl⟩)
      · refine q_top (y := nI 0) b3e ?_
        refine lv_if_ne (tgt := 24) hx hb dX7_restore_18 (by decide) (fun c9 => absurd (by decide) c9) (fun _ => ?_)
        refine lv_ldc (v := (-1000002)) hx hb hown (hts _ mX7_restore_5) dX7_restore_21 ?_
        have hP9 := hP
        have hD9 := hD
        exact q_wiret (v := (-1000002)) hx hb hr hlocks dX7_restore_23 hP9 hD9 hS (⟨w, ac, f, by simp only [oRestore, if_pos b2, if_neg b3, if_true], hv, hm, rfl⟩)
    · refine lv_aload_n hx hb dX7_restore_12 rfl (lv_at hl 0 rfl) ?_
      refine va_get (D := D) (ci := 7) (v := .ref kx) (C := RX7) (T := TX7) (N := 23) hx hb hts nX7_restore_0 hown hK.1 hP 0 rfl rfl 19 (by decide) (hts _ mX7_restore_1) (fun _ h9 => h9) rfl dX7_restore_13 ?_
      refine lv_iload_n hx hb dX7_restore_16 rfl (lv_at hl 1 rfl) ?_
      refine q_zald (j := 1) (v := b0C w1) hx hb hK hP 3 rfl (by omega) (by decide) (hig.2.1) dX7_restore_17 ?_
      rcases b0C_c w1 with ⟨b6, b6e⟩ | ⟨b6, b6e⟩
      · refine q_top (y := nI 1) b6e ?_
        refine lv_if_ne (tgt := 24) hx hb dX7_restore_18 (by decide) (fun _ => ?_) (fun c9 => absurd c9 (by decide))
        refine lv_aload_n hx hb dX7_restore_24 rfl (lv_at hl 0 rfl) ?_
        refine va_get (D := D) (ci := 7) (v := .ref ig) (C := RX7) (T := TX7) (N := 23) hx hb hts nX7_restore_0 hown hK.1 hP 0 rfl rfl 18 (by decide) (hts _ mX7_restore_2) (fun _ h9 => h9) rfl dX7_restore_25 ?_
        refine lv_bipush (v := nI 29) hx hb dX7_restore_28 (by decide) ?_
        refine lv_iload_n hx hb dX7_restore_30 rfl (lv_at hl 1 rfl) ?_
        refine lv_imul hx hb dX7_restore_31 ?_
        refine q_top (y := nI 29) (by decide) ?_
        refine lv_aload_n hx hb dX7_restore_32 rfl (lv_at hl 0 rfl) ?_
        refine va_get (D := D) (ci := 7) (v := .ref nw) (C := RX7) (T := TX7) (N := 23) hx hb hts nX7_restore_0 hown hK.1 hP 0 rfl rfl 13 (by decide) (hts _ mX7_restore_3) (fun _ h9 => h9) rfl dX7_restore_33 ?_
        refine lv_iconst (v := nI 0) hx hb dX7_restore_36 (by decide) ?_
        refine q_wvS (As := [.ref ig, .int (nI 29), .ref nw, .int (nI 0)]) (rest := []) (wr := [(m0, .inr (7, [.ref ml, .ref mm, .ref mit, .ref ms, .int (st), .ref mt, .int (nI tn), .int (fk), .int (fp), .int (av), .int (sv), .int (ov), .int (vv), .ref nw, .ref dr, .ref tr, .ref pa, .int (nI ac), .ref ig, .ref kx, .ref be, .ref tc, .int (nI td)])), (kx, .inl (cy 1, 2, .inl fx))]) ⟨hx, hb, hml, hown, hts⟩ (c_X7_copies l D cy ig nw 58 29 (by decide) (by decide) fg f 29 0 (by omega) (by omega)) (va_cwS 4 hts gX7_restore_X7_copies rfl rfl rfl (by decide +kernel) ⟨Nat.le_of_ble_eq_true rfl, Nat.le_of_ble_eq_true rfl⟩) hP hD hS hA hK [2, 1] [0, 3] rfl rfl (by decide) rfl (by decide) (by decide) rfl hl.1 rfl (Nat.le_of_ble_eq_true rfl) dX7_restore_37 ⟨Nat.zero_le _, Nat.zero_le _⟩ (fun u8 H locs hr7 hP hD hS => ?_)
        obtain rfl := hr7
        have hP : va_P D vwCl [(m0, .inr (7, [.ref ml, .ref mm, .ref mit, .ref ms, .int (st), .ref mt, .int (nI tn), .int (fk), .int (fp), .int (av), .int (sv), .int (ov), .int (vv), .ref nw, .ref dr, .ref tr, .ref pa, .int (nI ac), .ref ig, .ref kx, .ref be, .ref tc, .int (nI td)])), (kx, .inl (cy 1, 2, .inl fx)), (ig, .inl (cy 0, 58, .inl fg)), (nw, .inl (cy 0, 29, .inl (va_cpy fg f 29 0 29)))] H := hP
        have hD : va_D A [(m0, .inr (7, [.ref ml, .ref mm, .ref mit, .ref ms, .int (st), .ref mt, .int (nI tn), .int (fk), .int (fp), .int (av), .int (sv), .int (ov), .int (vv), .ref nw, .ref dr, .ref tr, .ref pa, .int (nI ac), .ref ig, .ref kx, .ref be, .ref tc, .int (nI td)])), (kx, .inl (cy 1, 2, .inl fx)), (ig, .inl (cy 0, 58, .inl fg)), (nw, .inl (cy 0, 29, .inl (va_cpy fg f 29 0 29)))] := hD
        refine lv_aload_n hx hb dX7_restore_40 rfl (lv_at hl 0 rfl) ?_
        refine lv_iconst (v := nI 0) hx hb dX7_restore_41 (by decide) ?_
        refine va_put (D := D) (ci := 7) (v := .int (nI 0)) (ty := .int) (C := RX7) (T := TX7) (N := 23) hx hb hts nX7_restore_0 tyX7 tyX7_ok nmX7 hown hK.1 hP hD hS 0 rfl rfl 17 (by decide) (hts _ mX7_restore_4) (fun _ h9 => h9) rfl (by decide +kernel) rfl rfl (Nat.le_of_ble_eq_true rfl) dX7_restore_42 (fun H locs hP hD hS => ?_)
        have hP : va_P D vwCl [(m0, .inr (7, [.ref ml, .ref mm, .ref mit, .ref ms, .int (st), .ref mt, .int (nI tn), .int (fk), .int (fp), .int (av), .int (sv), .int (ov), .int (vv), .ref nw, .ref dr, .ref tr, .ref pa, .int (nI 0), .ref ig, .ref kx, .ref be, .ref tc, .int (nI td)])), (kx, .inl (cy 1, 2, .inl fx)), (ig, .inl (cy 0, 58, .inl fg)), (nw, .inl (cy 0, 29, .inl (va_cpy fg f 29 0 29)))] H := hP
        have hD : va_D A [(m0, .inr (7, [.ref ml, .ref mm, .ref mit, .ref ms, .int (st), .ref mt, .int (nI tn), .int (fk), .int (fp), .int (av), .int (sv), .int (ov), .int (vv), .ref nw, .ref dr, .ref tr, .ref pa, .int (nI 0), .ref ig, .ref kx, .ref be, .ref tc, .int (nI td)])), (kx, .inl (cy 1, 2, .inl fx)), (ig, .inl (cy 0, 58, .inl fg)), (nw, .inl (cy 0, 29, .inl (va_cpy fg f 29 0 29)))] := hD
        refine lv_iconst (v := nI 1) hx hb dX7_restore_45 (by decide) ?_
        have hP9 := hP.sub (ws' := [(m0, .inr (7, [.ref ml, .ref mm, .ref mit, .ref ms, .int (st), .ref mt, .int (nI tn), .int (fk), .int (fp), .int (av), .int (sv), .int (ov), .int (vv), .ref nw, .ref dr, .ref tr, .ref pa, .int (nI 0), .ref ig, .ref kx, .ref be, .ref tc, .int (nI td)])), (nw, .inl (cy 0, 29, .inl (va_cpy fg f 29 0 29))), (ig, .inl (cy 0, 58, .inl fg)), (kx, .inl (cy 1, 2, .inl fx))]) [0, 3, 2, 1] rfl
        have hD9 := hD.sub (ws' := [(m0, .inr (7, [.ref ml, .ref mm, .ref mit, .ref ms, .int (st), .ref mt, .int (nI tn), .int (fk), .int (fp), .int (av), .int (sv), .int (ov), .int (vv), .ref nw, .ref dr, .ref tr, .ref pa, .int (nI 0), .ref ig, .ref kx, .ref be, .ref tc, .int (nI td)])), (nw, .inl (cy 0, 29, .inl (va_cpy fg f 29 0 29))), (ig, .inl (cy 0, 58, .inl fg)), (kx, .inl (cy 1, 2, .inl fx))]) [0, 3, 2, 1] (by decide) rfl
        exact q_wiret (v := nI 1) hx hb hr hlocks dX7_restore_46 hP9 hD9 hS (⟨w1, 0, _, by simp only [oRestore, if_pos b2, if_pos b6, if_neg (by decide : ¬ nI 1 = nI 0)], hv1w, igIs_r1 hig b6, rfl⟩)
      · refine q_top (y := nI 0) b6e ?_
        refine lv_if_ne (tgt := 24) hx hb dX7_restore_18 (by decide) (fun c9 => absurd (by decide) c9) (fun _ => ?_)
        refine lv_ldc (v := (-1000002)) hx hb hown (hts _ mX7_restore_5) dX7_restore_21 ?_
        have hP9 := hP
        have hD9 := hD
        exact q_wiret (v := (-1000002)) hx hb hr hlocks dX7_restore_23 hP9 hD9 hS (⟨w, ac, f, by simp only [oRestore, if_pos b2, if_neg b6, if_neg (by decide : ¬ nI 1 = nI 0)], hv, hm, rfl⟩)
  · have _ := b2
    refine lv_if_ne (tgt := 12) hx hb dX7_restore_6 (by decide) (fun c9 => absurd (by decide) c9) (fun _ => ?_)
    refine lv_ldc (v := (-1000001)) hx hb hown (hts _ mX7_restore_6) dX7_restore_9 ?_
    have hP9 := hP
    have hD9 := hD
    exact q_wiret (v := (-1000001)) hx hb hr hlocks dX7_restore_11 hP9 hD9 hS (⟨w, ac, f, by simp only [oRestore, if_neg b2], hv, hm, rfl⟩)
theorem nX7_count_0 : ∀ w ∈ wsX70, w ∈ wsX7_count := by decide +kernel
theorem mX7_count_1 : Cond.fieldLink RX7 25 "ClueLeaveModel" "now" "[I" ∈ wsX7_count := by decide +kernel
theorem mX7_count_2 : Cond.fieldLink RX7 135 "ClueLeaveModel" "acts" "I" ∈ wsX7_count := by decide +kernel
theorem mX7_count_3 : Cond.fieldLink RX7 82 "ClueLeaveModel" "taped" "I" ∈ wsX7_count := by decide +kernel
theorem mX7_count_4 : Cond.constant RX7 64 (-1000001) ∈ wsX7_count := by decide +kernel
set_option maxHeartbeats 4000000 in
set_option maxRecDepth 100000 in
theorem c_X7_count (l : Launch) (D : va_G) (cy : Nat → ClassId) (m0 ml mm mit ms mt nw dr tr pa ig kx be tc : Nat) (st fk fp av sv ov vv : Int32) (tn ac td : Nat) (f : Nat → Int32) (w : Nat → Nat) (hm : mwIs w f) (hv : ctOk w) (fl fz fi : Nat → Int32) (ln sz : Nat → Nat) (itS : Nat → Nat → Int32) (hrm : rmI ln sz itS fl fz fi) (y9 : Int32) : q_Rd l yX7_count wsX7_count 3 D cy [(m0, .inr (7, [.ref ml, .ref mm, .ref mit, .ref ms, .int (st), .ref mt, .int (nI tn), .int (fk), .int (fp), .int (av), .int (sv), .int (ov), .int (vv), .ref nw, .ref dr, .ref tr, .ref pa, .int (nI ac), .ref ig, .ref kx, .ref be, .ref tc, .int (nI td)])), (nw, .inl (cy 0, 29, .inl f)), (ml, .inl (cy 0, 8, .inl fl)), (mm, .inl (cy 0, 8, .inl fz)), (mit, .inl (cy 0, 320, .inl fi))] [.ref m0, .int (y9)] (fun r => r = oCount ln w ac tn y9) := by
  refine q_rd_of (cc := cX7_count) (maxL := 4) (ret := (some .int)) (by decide) rfl (Nat.le_of_ble_eq_true rfl) ?_
  intro pg en s mi args below meth cd hC hP hK ls hl
  obtain ⟨hx, hb, hr, hml, hown, hts, hlocks⟩ := hC
  have hl : lv_has ls 4 [(0, .ref m0), (1, .int (y9))] := hl
  obtain ⟨hv0, hv1, hv2, hv3, hv4, hvc⟩ := id hv
  refine lv_iconst (v := nI 0) hx hb dX7_count_0 (by decide) ?_
  refine lv_istore_n (lv' := [(2, .int (nI 0)), (0, .ref m0), (1, .int (y9))]) hx hb dX7_count_1 rfl hl (by decide) rfl (fun ls hl => ?_)
  refine lv_iload_n hx hb dX7_count_2 rfl (lv_at hl 2 rfl) ?_
  rcases q_07 y9 with rfl | rfl | rfl | rfl | rfl | rfl | rfl | rfl | hout
  · refine lv_tableIn (off := 45) (tgt := 48) hx hb dX7_count_3 (by decide) (by decide) (by decide) (by decide) ?_
    refine lv_iconst (v := nI 0) hx hb dX7_count_48 (by decide) ?_
    refine lv_istore_n (lv' := [(3, .int (nI 0)), (2, .int (nI 0)), (0, .ref m0), (1, .int (nI 0))]) hx hb dX7_count_49 rfl hl (by decide) rfl (fun ls hl => ?_)
    have L50_10 : ∀ (fu i : Nat), i ≤ 8 → 8 < i + fu → rwPr ln i ≤ i → ∀ ls : Array Slot, lv_has ls 4 [(0, .ref m0), (1, .int (nI 0)), (2, .int (nI (rwPr ln i))), (3, .int (nI i))] → W pg l en (q_rm 3) s mi args below meth cd s.heap [] 0 0 (MQ below (vp_Si (fun r => r = oCount ln w ac tn (nI 0))) args s 0 0 (fun _ => False)) (F0 mi 50 ls []) := by
      intro fu
      induction fu with
      | zero =>
        intro i h1 h2
        exact absurd h2 (by omega)
      | succ fu ih50 =>
        intro i h1_50 h2_50 hf50_0 ls hl
        refine lv_iload_n hx hb dX7_count_50 rfl (lv_at hl 3 rfl) ?_
        refine lv_bipush (v := nI 8) hx hb dX7_count_51 (by decide) ?_
        refine q_icmp_ge (tgt := 78) hx hb dX7_count_53 (by decide) (by omega) (by decide) (fun c1 => ?_) (fun c1 => ?_)
        · refine lv_iload_n hx hb dX7_count_78 rfl (lv_at hl 2 rfl) ?_
          exact q_iret (v := nI (rwPr ln i)) hx hb hr hlocks dX7_count_79 (by rw [show i = 8 by omega]; rfl)
        · refine lv_iload_n hx hb dX7_count_56 rfl (lv_at hl 2 rfl) ?_
          refine lv_aload_n hx hb dX7_count_57 rfl (lv_at hl 0 rfl) ?_
          refine lv_iload_n hx hb dX7_count_58 rfl (lv_at hl 3 rfl) ?_
          refine q_rV (As := [.int (nI i)]) (rest := [.int (nI (rwPr ln i))]) ⟨hx, hb, hml, hown, hts⟩ (c_X7_isMissing l D cy m0 ml mm mit ms mt nw dr tr pa ig kx be tc st fk fp av sv ov vv tn ac td fl i (ln i) (by omega) (rmI_3 hrm (by omega)) (rmI_0 hrm (by omega))) (cwV 1 hts gX7_count_X7_isMissing rfl rfl rfl (by decide +kernel) ⟨Nat.le_of_ble_eq_true rfl, Nat.le_of_ble_eq_true rfl⟩) hP hK [0, 2] rfl 0 rfl rfl rfl rfl hl.1 rfl (Nat.le_of_ble_eq_true rfl) dX7_count_59 ⟨Nat.zero_le _, Nat.zero_le _⟩ (fun r2 hr2 => ?_)
          rcases hr2 with ⟨rfl, b3⟩ | ⟨rfl, b3⟩
          · have _ := b3
            refine lv_if_eq (tgt := 69) hx hb dX7_count_62 (by decide) (fun c9 => absurd c9 (by decide)) (fun _ => ?_)
            refine lv_iconst (v := nI 0) hx hb dX7_count_65 (by decide) ?_
            refine lv_goto (tgt := 70) hx hb dX7_count_66 (by decide) ?_
            refine lv_iadd hx hb dX7_count_70 ?_
            refine q_top (y := nI ((rwPr ln i) + 0)) (nI_add _ _) ?_
            refine lv_istore_n (lv' := [(2, .int (nI ((rwPr ln i) + 0))), (0, .ref m0), (1, .int (nI 0)), (3, .int (nI i))]) hx hb dX7_count_71 rfl hl (by decide) rfl (fun ls hl => ?_)
            refine lv_iinc (v := nI (i + 1)) (lv' := [(3, .int (nI (i + 1))), (2, .int (nI ((rwPr ln i) + 0))), (0, .ref m0), (1, .int (nI 0))]) hx hb dX7_count_72 hl (k := 3) rfl (q_inc i 1) (by decide) rfl (fun ls hl => ?_)
            refine lv_goto (tgt := 50) hx hb dX7_count_75 (by decide) ?_
            exact ih50 (i + 1) (by omega) (by omega) (rwPr_le _ _) ls (q_lset (lv_sub (l' := [(0, .ref m0), (1, .int (nI 0)), (2, .int (nI ((rwPr ln i) + 0))), (3, .int (nI (i + 1)))]) hl [2, 3, 1, 0] rfl) (q_c1 (f := fun z2 => ([(0, .ref m0), (1, .int (nI 0)), (2, .int (z2)), (3, .int (nI (i + 1)))] : List (Nat × Value))) (show (nI ((rwPr ln i) + 0) : Int32) = nI (rwPr ln (i + 1)) from by simp [rwPr, b3])))
          · have _ := b3
            refine lv_if_eq (tgt := 69) hx hb dX7_count_62 (by decide) (fun _ => ?_) (fun c9 => absurd (by decide) c9)
            refine lv_iconst (v := nI 1) hx hb dX7_count_69 (by decide) ?_
            refine lv_iadd hx hb dX7_count_70 ?_
            refine q_top (y := nI ((rwPr ln i) + 1)) (nI_add _ _) ?_
            refine lv_istore_n (lv' := [(2, .int (nI ((rwPr ln i) + 1))), (0, .ref m0), (1, .int (nI 0)), (3, .int (nI i))]) hx hb dX7_count_71 rfl hl (by decide) rfl (fun ls hl => ?_)
            refine lv_iinc (v := nI (i + 1)) (lv' := [(3, .int (nI (i + 1))), (2, .int (nI ((rwPr ln i) + 1))), (0, .ref m0), (1, .int (nI 0))]) hx hb dX7_count_72 hl (k := 3) rfl (q_inc i 1) (by decide) rfl (fun ls hl => ?_)
            refine lv_goto (tgt := 50) hx hb dX7_count_75 (by decide) ?_
            exact ih50 (i + 1) (by omega) (by omega) (rwPr_le _ _) ls (q_lset (lv_sub (l' := [(0, .ref m0), (1, .int (nI 0)), (2, .int (nI ((rwPr ln i) + 1))), (3, .int (nI (i + 1)))]) hl [2, 3, 1, 0] rfl) (q_c1 (f := fun z2 => ([(0, .ref m0), (1, .int (nI 0)), (2, .int (z2)), (3, .int (nI (i + 1)))] : List (Nat × Value))) (show (nI ((rwPr ln i) + 1) : Int32) = nI (rwPr ln (i + 1)) from by simp [rwPr, b3])))
    exact L50_10 (8 + 1) 0 (by omega) (by omega) (Nat.le_refl 0) ls (q_lset (lv_sub (l' := [(0, .ref m0), (1, .int (nI 0)), (2, .int (nI 0)), (3, .int (nI 0))]) hl [2, 3, 1, 0] rfl) (q_c1 (f := fun z2 => ([(0, .ref m0), (1, .int (nI 0)), (2, .int (z2)), (3, .int (nI 0))] : List (Nat × Value))) (show (nI 0 : Int32) = nI (rwPr ln 0) from rfl)))
  · refine lv_tableIn (off := 77) (tgt := 80) hx hb dX7_count_3 (by decide) (by decide) (by decide) (by decide) ?_
    refine lv_aload_n hx hb dX7_count_80 rfl (lv_at hl 1 rfl) ?_
    refine va_get (D := D) (ci := 7) (v := .ref nw) (C := RX7) (T := TX7) (N := 23) hx hb hts nX7_count_0 hown hK.1 hP 0 rfl rfl 13 (by decide) (hts _ mX7_count_1) (fun _ h9 => h9) rfl dX7_count_81 ?_
    refine lv_iconst (v := nI 4) hx hb dX7_count_84 (by decide) ?_
    refine q_iald (j := 4) (v := nI (w 4)) hx hb hK hP 1 rfl (by omega) (by decide) (hm _ (by omega)) dX7_count_85 ?_
    exact q_iret (v := nI (w 4)) hx hb hr hlocks dX7_count_86 (rfl)
  · refine lv_tableIn (off := 84) (tgt := 87) hx hb dX7_count_3 (by decide) (by decide) (by decide) (by decide) ?_
    refine lv_aload_n hx hb dX7_count_87 rfl (lv_at hl 1 rfl) ?_
    refine va_get (D := D) (ci := 7) (v := .ref nw) (C := RX7) (T := TX7) (N := 23) hx hb hts nX7_count_0 hown hK.1 hP 0 rfl rfl 13 (by decide) (hts _ mX7_count_1) (fun _ h9 => h9) rfl dX7_count_88 ?_
    refine lv_iconst (v := nI 0) hx hb dX7_count_91 (by decide) ?_
    refine q_iald (j := 0) (v := nI (w 0)) hx hb hK hP 1 rfl (by omega) (by decide) (hm _ (by omega)) dX7_count_92 ?_
    exact q_iret (v := nI (w 0)) hx hb hr hlocks dX7_count_93 (rfl)
  · refine lv_tableIn (off := 91) (tgt := 94) hx hb dX7_count_3 (by decide) (by decide) (by decide) (by decide) ?_
    refine lv_aload_n hx hb dX7_count_94 rfl (lv_at hl 1 rfl) ?_
    refine va_get (D := D) (ci := 7) (v := .ref nw) (C := RX7) (T := TX7) (N := 23) hx hb hts nX7_count_0 hown hK.1 hP 0 rfl rfl 13 (by decide) (hts _ mX7_count_1) (fun _ h9 => h9) rfl dX7_count_95 ?_
    refine lv_iconst (v := nI 2) hx hb dX7_count_98 (by decide) ?_
    refine q_iald (j := 2) (v := nI (w 2)) hx hb hK hP 1 rfl (by omega) (by decide) (hm _ (by omega)) dX7_count_99 ?_
    exact q_iret (v := nI (w 2)) hx hb hr hlocks dX7_count_100 (rfl)
  · refine lv_tableIn (off := 98) (tgt := 101) hx hb dX7_count_3 (by decide) (by decide) (by decide) (by decide) ?_
    refine lv_aload_n hx hb dX7_count_101 rfl (lv_at hl 1 rfl) ?_
    refine va_get (D := D) (ci := 7) (v := .ref nw) (C := RX7) (T := TX7) (N := 23) hx hb hts nX7_count_0 hown hK.1 hP 0 rfl rfl 13 (by decide) (hts _ mX7_count_1) (fun _ h9 => h9) rfl dX7_count_102 ?_
    refine lv_iconst (v := nI 1) hx hb dX7_count_105 (by decide) ?_
    refine q_iald (j := 1) (v := nI (w 1)) hx hb hK hP 1 rfl (by omega) (by decide) (hm _ (by omega)) dX7_count_106 ?_
    exact q_iret (v := nI (w 1)) hx hb hr hlocks dX7_count_107 (rfl)
  · refine lv_tableIn (off := 105) (tgt := 108) hx hb dX7_count_3 (by decide) (by decide) (by decide) (by decide) ?_
    refine lv_aload_n hx hb dX7_count_108 rfl (lv_at hl 1 rfl) ?_
    refine va_get (D := D) (ci := 7) (v := .ref nw) (C := RX7) (T := TX7) (N := 23) hx hb hts nX7_count_0 hown hK.1 hP 0 rfl rfl 13 (by decide) (hts _ mX7_count_1) (fun _ h9 => h9) rfl dX7_count_109 ?_
    refine lv_iconst (v := nI 3) hx hb dX7_count_112 (by decide) ?_
    refine q_iald (j := 3) (v := nI (w 3)) hx hb hK hP 1 rfl (by omega) (by decide) (hm _ (by omega)) dX7_count_113 ?_
    exact q_iret (v := nI (w 3)) hx hb hr hlocks dX7_count_114 (rfl)
  · refine lv_tableIn (off := 112) (tgt := 115) hx hb dX7_count_3 (by decide) (by decide) (by decide) (by decide) ?_
    refine lv_aload_n hx hb dX7_count_115 rfl (lv_at hl 1 rfl) ?_
    refine va_get (D := D) (ci := 7) (v := .int (nI ac)) (C := RX7) (T := TX7) (N := 23) hx hb hts nX7_count_0 hown hK.1 hP 0 rfl rfl 17 (by decide) (hts _ mX7_count_2) (fun _ h9 => h9) rfl dX7_count_116 ?_
    exact q_iret (v := nI ac) hx hb hr hlocks dX7_count_119 (rfl)
  · refine lv_tableIn (off := 117) (tgt := 120) hx hb dX7_count_3 (by decide) (by decide) (by decide) (by decide) ?_
    refine lv_aload_n hx hb dX7_count_120 rfl (lv_at hl 1 rfl) ?_
    refine va_get (D := D) (ci := 7) (v := .int (nI tn)) (C := RX7) (T := TX7) (N := 23) hx hb hts nX7_count_0 hown hK.1 hP 0 rfl rfl 6 (by decide) (hts _ mX7_count_3) (fun _ h9 => h9) rfl dX7_count_121 ?_
    exact q_iret (v := nI tn) hx hb hr hlocks dX7_count_124 (rfl)
  · refine lv_tableOut (tgt := 125) hx hb dX7_count_3 (hout.1) (by decide) ?_
    refine lv_ldc (v := (-1000001)) hx hb hown (hts _ mX7_count_4) dX7_count_125 ?_
    exact q_iret (v := (-1000001)) hx hb hr hlocks dX7_count_127 (by obtain ⟨-, e0, e1, e2, e3, e4, e5, e6, e7⟩ := hout; simp only [oCount, if_neg e0, if_neg e1, if_neg e2, if_neg e3, if_neg e4, if_neg e5, if_neg e6, if_neg e7])
theorem mX7_as_0 : Cond.constant RX7 64 (-1000001) ∈ wsX7_as := by decide +kernel
set_option maxHeartbeats 4000000 in
set_option maxRecDepth 100000 in
theorem c_X7_as (l : Launch) (D : va_G) (cy : Nat → ClassId) (m0 ml mm mit ms mt nw dr tr pa ig kx be tc : Nat) (st fk fp av sv ov vv : Int32) (tn ac td : Nat) (f : Nat → Int32) (w : Nat → Nat) (hm : mwIs w f) (hv : ctOk w) (x k : Int32) : q_Wi l yX7_as wsX7_as 3 D cy [(m0, .inr (7, [.ref ml, .ref mm, .ref mit, .ref ms, .int (st), .ref mt, .int (nI tn), .int (fk), .int (fp), .int (av), .int (sv), .int (ov), .int (vv), .ref nw, .ref dr, .ref tr, .ref pa, .int (nI ac), .ref ig, .ref kx, .ref be, .ref tc, .int (nI td)])), (nw, .inl (cy 0, 29, .inl f))] [.ref m0, .int (x), .int (k)] (fun r u => ∃ st2 : Int32, oAs w st x k = (r, st2) ∧ u = [(m0, .inr (7, [.ref ml, .ref mm, .ref mit, .ref ms, .int (st2), .ref mt, .int (nI tn), .int (fk), .int (fp), .int (av), .int (sv), .int (ov), .int (vv), .ref nw, .ref dr, .ref tr, .ref pa, .int (nI ac), .ref ig, .ref kx, .ref be, .ref tc, .int (nI td)])), (nw, .inl (cy 0, 29, .inl f))]) := by
  refine q_wi_of (cc := cX7_as) (maxL := 5) (ret := (some .int)) (by decide) rfl (Nat.le_of_ble_eq_true rfl) ?_
  intro pg en s mi args below meth cd A hC hA hK H locs hP hD hS ls hl
  obtain ⟨hx, hb, hr, hml, hown, hts, hlocks⟩ := hC
  have hl : lv_has ls 5 [(0, .ref m0), (1, .int (x)), (2, .int (k))] := hl
  obtain ⟨hv0, hv1, hv2, hv3, hv4, hvc⟩ := id hv
  refine lv_aload_n hx hb dX7_as_0 rfl (lv_at hl 0 rfl) ?_
  refine lv_iload_n hx hb dX7_as_1 rfl (lv_at hl 1 rfl) ?_
  refine q_rV (As := [.int (x)]) (rest := []) ⟨hx, hb, hml, hown, hts⟩ (c_X7_isClue l D cy m0 ml mm mit ms mt nw dr tr pa ig kx be tc st fk fp av sv ov vv tn ac td f w hm hv x) (cwV 1 hts gX7_as_X7_isClue rfl rfl rfl (by decide +kernel) ⟨Nat.le_of_ble_eq_true rfl, Nat.le_of_ble_eq_true rfl⟩) hP hK [0, 1] rfl 0 rfl rfl rfl rfl hl.1 rfl (Nat.le_of_ble_eq_true rfl) dX7_as_2 ⟨Nat.zero_le _, Nat.zero_le _⟩ (fun r1 hr1 => ?_)
  rcases hr1 with ⟨rfl, b2⟩ | ⟨rfl, b2⟩
  · have _ := b2
    refine lv_if_eq (tgt := 17) hx hb dX7_as_5 (by decide) (fun c9 => absurd c9 (by decide)) (fun _ => ?_)
    obtain ⟨c, hc, rfl⟩ := (inC_i (by omega)).mpr b2
    obtain ⟨hk1, hk5, ht1, ht2, he2, he4, ho1⟩ := hvc c hc
    refine lv_iload_n hx hb dX7_as_8 rfl (lv_at hl 2 rfl) ?_
    refine lv_iconst (v := nI 0) hx hb dX7_as_9 (by decide) ?_
    refine lv_iconst (v := nI 5) hx hb dX7_as_10 (by decide) ?_
    refine q_rS (As := [.int (k), .int (nI 0), .int (nI 5)]) (rest := []) ⟨hx, hb, hml, hown, hts⟩ (c_X7_in l D cy k (nI 0) (nI 5)) (va_cwS 3 hts gX7_as_X7_in rfl rfl rfl (by decide +kernel) ⟨Nat.le_of_ble_eq_true rfl, Nat.le_of_ble_eq_true rfl⟩) hP hK [] rfl rfl hl.1 rfl (Nat.le_of_ble_eq_true rfl) dX7_as_11 ⟨Nat.zero_le _, Nat.zero_le _⟩ (fun r3 hr3 => ?_)
    rcases hr3 with ⟨rfl, b4⟩ | ⟨rfl, b4⟩
    · have _ := b4
      refine lv_if_ne (tgt := 20) hx hb dX7_as_14 (by decide) (fun _ => ?_) (fun c9 => absurd c9 (by decide))
      obtain ⟨m, -, hx_m, rfl⟩ := q_rng b4 (by decide) (by decide)
      refine lv_aload_n hx hb dX7_as_20 rfl (lv_at hl 0 rfl) ?_
      refine lv_iload_n hx hb dX7_as_21 rfl (lv_at hl 1 rfl) ?_
      refine q_rV (As := [.int (nI c)]) (rest := []) ⟨hx, hb, hml, hown, hts⟩ (c_X7_kindIn l D cy m0 ml mm mit ms mt nw dr tr pa ig kx be tc st fk fp av sv ov vv tn ac td f w hm hv c (by omega)) (cwV 1 hts gX7_as_X7_kindIn rfl rfl rfl (by decide +kernel) ⟨Nat.le_of_ble_eq_true rfl, Nat.le_of_ble_eq_true rfl⟩) hP hK [0, 1] rfl 0 rfl rfl rfl rfl hl.1 rfl (Nat.le_of_ble_eq_true rfl) dX7_as_22 ⟨Nat.zero_le _, Nat.zero_le _⟩ (fun r5 hr5 => ?_)
      obtain rfl := hr5
      refine lv_istore_n (lv' := [(3, .int (nI (ctK w c))), (0, .ref m0), (1, .int (nI c)), (2, .int (nI m))]) hx hb dX7_as_25 rfl hl (by decide) rfl (fun ls hl => ?_)
      refine lv_iload_n hx hb dX7_as_26 rfl (lv_at hl 3 rfl) ?_
      refine q_if_eq (tgt := 55) hx hb dX7_as_27 (by decide) (by omega) (fun c6 => ?_) (fun c6 => ?_)
      · refine lv_iconst (v := nI 1) hx hb dX7_as_55 (by decide) ?_
        refine lv_goto (tgt := 60) hx hb dX7_as_56 (by decide) ?_
        refine lv_istore (lv' := [(4, .int (nI 1)), (3, .int (nI (ctK w c))), (0, .ref m0), (1, .int (nI c)), (2, .int (nI m))]) hx hb dX7_as_60 hl (by decide) rfl (fun ls hl => ?_)
        refine lv_iload hx hb dX7_as_62 (lv_at hl 0 rfl) ?_
        refine lv_if_eq (tgt := 75) hx hb dX7_as_64 (by decide) (fun c9 => absurd c9 (by decide)) (fun _ => ?_)
        refine lv_aload_n hx hb dX7_as_67 rfl (lv_at hl 2 rfl) ?_
        refine lv_iload_n hx hb dX7_as_68 rfl (lv_at hl 3 rfl) ?_
        refine q_wiV (As := [.int (nI c)]) (rest := []) (wr := [(nw, .inl (cy 0, 29, .inl f))]) ⟨hx, hb, hml, hown, hts⟩ (c_X7_well l D cy m0 ml mm mit ms mt nw dr tr pa ig kx be tc st fk fp av sv ov vv tn ac td (nI c)) (cwV 1 hts gX7_as_X7_well rfl rfl rfl (by decide +kernel) ⟨Nat.le_of_ble_eq_true rfl, Nat.le_of_ble_eq_true rfl⟩) hP hD hS hA hK [0] [1] rfl rfl (by decide) rfl (by decide) (by decide) 0 rfl rfl rfl rfl hl.1 rfl (Nat.le_of_ble_eq_true rfl) dX7_as_69 ⟨Nat.zero_le _, Nat.zero_le _⟩ (fun r7 u8 H locs hr7 hP hD hS => ?_)
        obtain ⟨rfl, rfl⟩ := hr7
        have hP : va_P D vwCl [(nw, .inl (cy 0, 29, .inl f)), (m0, .inr (7, [.ref ml, .ref mm, .ref mit, .ref ms, .int (nI 0), .ref mt, .int (nI tn), .int (fk), .int (fp), .int (av), .int (sv), .int (ov), .int (vv), .ref nw, .ref dr, .ref tr, .ref pa, .int (nI ac), .ref ig, .ref kx, .ref be, .ref tc, .int (nI td)]))] H := hP
        have hD : va_D A [(nw, .inl (cy 0, 29, .inl f)), (m0, .inr (7, [.ref ml, .ref mm, .ref mit, .ref ms, .int (nI 0), .ref mt, .int (nI tn), .int (fk), .int (fp), .int (av), .int (sv), .int (ov), .int (vv), .ref nw, .ref dr, .ref tr, .ref pa, .int (nI ac), .ref ig, .ref kx, .ref be, .ref tc, .int (nI td)]))] := hD
        refine lv_goto (tgt := 80) hx hb dX7_as_72 (by decide) ?_
        have hP9 := hP.sub (ws' := [(m0, .inr (7, [.ref ml, .ref mm, .ref mit, .ref ms, .int (nI 0), .ref mt, .int (nI tn), .int (fk), .int (fp), .int (av), .int (sv), .int (ov), .int (vv), .ref nw, .ref dr, .ref tr, .ref pa, .int (nI ac), .ref ig, .ref kx, .ref be, .ref tc, .int (nI td)])), (nw, .inl (cy 0, 29, .inl f))]) [1, 0] rfl
        have hD9 := hD.sub (ws' := [(m0, .inr (7, [.ref ml, .ref mm, .ref mit, .ref ms, .int (nI 0), .ref mt, .int (nI tn), .int (fk), .int (fp), .int (av), .int (sv), .int (ov), .int (vv), .ref nw, .ref dr, .ref tr, .ref pa, .int (nI ac), .ref ig, .ref kx, .ref be, .ref tc, .int (nI td)])), (nw, .inl (cy 0, 29, .inl f))]) [1, 0] (by decide) rfl
        exact q_wiret (v := nI c) hx hb hr hlocks dX7_as_80 hP9 hD9 hS (⟨_, by simp only [oAs, q_cl (by omega : c < 2147483648), q_cl (by omega : m < 2147483648), if_pos b2, if_pos b4, if_pos (asM_y (k := ctK w c) (m := m) hk1 hk5 (by omega) (by omega))], rfl⟩)
      · refine lv_iload_n hx hb dX7_as_30 rfl (lv_at hl 3 rfl) ?_
        refine lv_iload_n hx hb dX7_as_31 rfl (lv_at hl 0 rfl) ?_
        refine q_icmp_eq (tgt := 55) hx hb dX7_as_32 (by decide) (by omega) (by omega) (fun c9 => ?_) (fun c9 => ?_)
        · refine lv_iconst (v := nI 1) hx hb dX7_as_55 (by decide) ?_
          refine lv_goto (tgt := 60) hx hb dX7_as_56 (by decide) ?_
          refine lv_istore (lv' := [(4, .int (nI 1)), (3, .int (nI (ctK w c))), (0, .ref m0), (1, .int (nI c)), (2, .int (nI m))]) hx hb dX7_as_60 hl (by decide) rfl (fun ls hl => ?_)
          refine lv_iload hx hb dX7_as_62 (lv_at hl 0 rfl) ?_
          refine lv_if_eq (tgt := 75) hx hb dX7_as_64 (by decide) (fun c9 => absurd c9 (by decide)) (fun _ => ?_)
          refine lv_aload_n hx hb dX7_as_67 rfl (lv_at hl 2 rfl) ?_
          refine lv_iload_n hx hb dX7_as_68 rfl (lv_at hl 3 rfl) ?_
          refine q_wiV (As := [.int (nI c)]) (rest := []) (wr := [(nw, .inl (cy 0, 29, .inl f))]) ⟨hx, hb, hml, hown, hts⟩ (c_X7_well l D cy m0 ml mm mit ms mt nw dr tr pa ig kx be tc st fk fp av sv ov vv tn ac td (nI c)) (cwV 1 hts gX7_as_X7_well rfl rfl rfl (by decide +kernel) ⟨Nat.le_of_ble_eq_true rfl, Nat.le_of_ble_eq_true rfl⟩) hP hD hS hA hK [0] [1] rfl rfl (by decide) rfl (by decide) (by decide) 0 rfl rfl rfl rfl hl.1 rfl (Nat.le_of_ble_eq_true rfl) dX7_as_69 ⟨Nat.zero_le _, Nat.zero_le _⟩ (fun r10 u11 H locs hr10 hP hD hS => ?_)
          obtain ⟨rfl, rfl⟩ := hr10
          have hP : va_P D vwCl [(nw, .inl (cy 0, 29, .inl f)), (m0, .inr (7, [.ref ml, .ref mm, .ref mit, .ref ms, .int (nI 0), .ref mt, .int (nI tn), .int (fk), .int (fp), .int (av), .int (sv), .int (ov), .int (vv), .ref nw, .ref dr, .ref tr, .ref pa, .int (nI ac), .ref ig, .ref kx, .ref be, .ref tc, .int (nI td)]))] H := hP
          have hD : va_D A [(nw, .inl (cy 0, 29, .inl f)), (m0, .inr (7, [.ref ml, .ref mm, .ref mit, .ref ms, .int (nI 0), .ref mt, .int (nI tn), .int (fk), .int (fp), .int (av), .int (sv), .int (ov), .int (vv), .ref nw, .ref dr, .ref tr, .ref pa, .int (nI ac), .ref ig, .ref kx, .ref be, .ref tc, .int (nI td)]))] := hD
          refine lv_goto (tgt := 80) hx hb dX7_as_72 (by decide) ?_
          have hP9 := hP.sub (ws' := [(m0, .inr (7, [.ref ml, .ref mm, .ref mit, .ref ms, .int (nI 0), .ref mt, .int (nI tn), .int (fk), .int (fp), .int (av), .int (sv), .int (ov), .int (vv), .ref nw, .ref dr, .ref tr, .ref pa, .int (nI ac), .ref ig, .ref kx, .ref be, .ref tc, .int (nI td)])), (nw, .inl (cy 0, 29, .inl f))]) [1, 0] rfl
          have hD9 := hD.sub (ws' := [(m0, .inr (7, [.ref ml, .ref mm, .ref mit, .ref ms, .int (nI 0), .ref mt, .int (nI tn), .int (fk), .int (fp), .int (av), .int (sv), .int (ov), .int (vv), .ref nw, .ref dr, .ref tr, .ref pa, .int (nI ac), .ref ig, .ref kx, .ref be, .ref tc, .int (nI td)])), (nw, .inl (cy 0, 29, .inl f))]) [1, 0] (by decide) rfl
          exact q_wiret (v := nI c) hx hb hr hlocks dX7_as_80 hP9 hD9 hS (⟨_, by simp only [oAs, q_cl (by omega : c < 2147483648), q_cl (by omega : m < 2147483648), if_pos b2, if_pos b4, if_pos (asM_y (k := ctK w c) (m := m) hk1 hk5 (by omega) (by omega))], rfl⟩)
        · refine lv_iload_n hx hb dX7_as_35 rfl (lv_at hl 3 rfl) ?_
          refine lv_iconst (v := nI 1) hx hb dX7_as_36 (by decide) ?_
          refine q_icmp_ne (tgt := 45) hx hb dX7_as_37 (by decide) (by omega) (by decide) (fun c12 => ?_) (fun c12 => ?_)
          · refine lv_iload_n hx hb dX7_as_45 rfl (lv_at hl 3 rfl) ?_
            refine lv_iconst (v := nI 4) hx hb dX7_as_46 (by decide) ?_
            refine q_icmp_ne (tgt := 59) hx hb dX7_as_47 (by decide) (by omega) (by decide) (fun c13 => ?_) (fun c13 => ?_)
            · refine lv_iconst (v := nI 0) hx hb dX7_as_59 (by decide) ?_
              refine lv_istore (lv' := [(4, .int (nI 0)), (3, .int (nI (ctK w c))), (0, .ref m0), (1, .int (nI c)), (2, .int (nI m))]) hx hb dX7_as_60 hl (by decide) rfl (fun ls hl => ?_)
              refine lv_iload hx hb dX7_as_62 (lv_at hl 0 rfl) ?_
              refine lv_if_eq (tgt := 75) hx hb dX7_as_64 (by decide) (fun _ => ?_) (fun c9 => absurd (by decide) c9)
              refine lv_aload_n hx hb dX7_as_75 rfl (lv_at hl 2 rfl) ?_
              refine lv_iconst (v := nI 3) hx hb dX7_as_76 (by decide) ?_
              refine q_wiV (As := [.int (nI 3)]) (rest := []) (wr := [(nw, .inl (cy 0, 29, .inl f))]) ⟨hx, hb, hml, hown, hts⟩ (c_X7_found l D cy m0 ml mm mit ms mt nw dr tr pa ig kx be tc st fk fp av sv ov vv tn ac td (nI 3)) (cwV 1 hts gX7_as_X7_found rfl rfl rfl (by decide +kernel) ⟨Nat.le_of_ble_eq_true rfl, Nat.le_of_ble_eq_true rfl⟩) hP hD hS hA hK [0] [1] rfl rfl (by decide) rfl (by decide) (by decide) 0 rfl rfl rfl rfl hl.1 rfl (Nat.le_of_ble_eq_true rfl) dX7_as_77 ⟨Nat.zero_le _, Nat.zero_le _⟩ (fun r14 u15 H locs hr14 hP hD hS => ?_)
              obtain ⟨rfl, rfl⟩ := hr14
              have hP : va_P D vwCl [(nw, .inl (cy 0, 29, .inl f)), (m0, .inr (7, [.ref ml, .ref mm, .ref mit, .ref ms, .int (nI 3), .ref mt, .int (nI tn), .int (fk), .int (fp), .int (av), .int (sv), .int (ov), .int (vv), .ref nw, .ref dr, .ref tr, .ref pa, .int (nI ac), .ref ig, .ref kx, .ref be, .ref tc, .int (nI td)]))] H := hP
              have hD : va_D A [(nw, .inl (cy 0, 29, .inl f)), (m0, .inr (7, [.ref ml, .ref mm, .ref mit, .ref ms, .int (nI 3), .ref mt, .int (nI tn), .int (fk), .int (fp), .int (av), .int (sv), .int (ov), .int (vv), .ref nw, .ref dr, .ref tr, .ref pa, .int (nI ac), .ref ig, .ref kx, .ref be, .ref tc, .int (nI td)]))] := hD
              refine q_top (y := (-1000013)) (by decide) ?_
              have hP9 := hP.sub (ws' := [(m0, .inr (7, [.ref ml, .ref mm, .ref mit, .ref ms, .int (nI 3), .ref mt, .int (nI tn), .int (fk), .int (fp), .int (av), .int (sv), .int (ov), .int (vv), .ref nw, .ref dr, .ref tr, .ref pa, .int (nI ac), .ref ig, .ref kx, .ref be, .ref tc, .int (nI td)])), (nw, .inl (cy 0, 29, .inl f))]) [1, 0] rfl
              have hD9 := hD.sub (ws' := [(m0, .inr (7, [.ref ml, .ref mm, .ref mit, .ref ms, .int (nI 3), .ref mt, .int (nI tn), .int (fk), .int (fp), .int (av), .int (sv), .int (ov), .int (vv), .ref nw, .ref dr, .ref tr, .ref pa, .int (nI ac), .ref ig, .ref kx, .ref be, .ref tc, .int (nI td)])), (nw, .inl (cy 0, 29, .inl f))]) [1, 0] (by decide) rfl
              exact q_wiret (v := (-1000013)) hx hb hr hlocks dX7_as_80 hP9 hD9 hS (⟨_, by simp only [oAs, q_cl (by omega : c < 2147483648), q_cl (by omega : m < 2147483648), if_pos b2, if_pos b4, if_neg (asM_n (k := ctK w c) (m := m) hk1 hk5 (by omega) (by omega))], rfl⟩)
            · refine lv_iload_n hx hb dX7_as_50 rfl (lv_at hl 0 rfl) ?_
              refine lv_iconst (v := nI 5) hx hb dX7_as_51 (by decide) ?_
              refine q_icmp_ne (tgt := 59) hx hb dX7_as_52 (by decide) (by omega) (by decide) (fun c16 => ?_) (fun c16 => ?_)
              · refine lv_iconst (v := nI 0) hx hb dX7_as_59 (by decide) ?_
                refine lv_istore (lv' := [(4, .int (nI 0)), (3, .int (nI (ctK w c))), (0, .ref m0), (1, .int (nI c)), (2, .int (nI m))]) hx hb dX7_as_60 hl (by decide) rfl (fun ls hl => ?_)
                refine lv_iload hx hb dX7_as_62 (lv_at hl 0 rfl) ?_
                refine lv_if_eq (tgt := 75) hx hb dX7_as_64 (by decide) (fun _ => ?_) (fun c9 => absurd (by decide) c9)
                refine lv_aload_n hx hb dX7_as_75 rfl (lv_at hl 2 rfl) ?_
                refine lv_iconst (v := nI 3) hx hb dX7_as_76 (by decide) ?_
                refine q_wiV (As := [.int (nI 3)]) (rest := []) (wr := [(nw, .inl (cy 0, 29, .inl f))]) ⟨hx, hb, hml, hown, hts⟩ (c_X7_found l D cy m0 ml mm mit ms mt nw dr tr pa ig kx be tc st fk fp av sv ov vv tn ac td (nI 3)) (cwV 1 hts gX7_as_X7_found rfl rfl rfl (by decide +kernel) ⟨Nat.le_of_ble_eq_true rfl, Nat.le_of_ble_eq_true rfl⟩) hP hD hS hA hK [0] [1] rfl rfl (by decide) rfl (by decide) (by decide) 0 rfl rfl rfl rfl hl.1 rfl (Nat.le_of_ble_eq_true rfl) dX7_as_77 ⟨Nat.zero_le _, Nat.zero_le _⟩ (fun r17 u18 H locs hr17 hP hD hS => ?_)
                obtain ⟨rfl, rfl⟩ := hr17
                have hP : va_P D vwCl [(nw, .inl (cy 0, 29, .inl f)), (m0, .inr (7, [.ref ml, .ref mm, .ref mit, .ref ms, .int (nI 3), .ref mt, .int (nI tn), .int (fk), .int (fp), .int (av), .int (sv), .int (ov), .int (vv), .ref nw, .ref dr, .ref tr, .ref pa, .int (nI ac), .ref ig, .ref kx, .ref be, .ref tc, .int (nI td)]))] H := hP
                have hD : va_D A [(nw, .inl (cy 0, 29, .inl f)), (m0, .inr (7, [.ref ml, .ref mm, .ref mit, .ref ms, .int (nI 3), .ref mt, .int (nI tn), .int (fk), .int (fp), .int (av), .int (sv), .int (ov), .int (vv), .ref nw, .ref dr, .ref tr, .ref pa, .int (nI ac), .ref ig, .ref kx, .ref be, .ref tc, .int (nI td)]))] := hD
                refine q_top (y := (-1000013)) (by decide) ?_
                have hP9 := hP.sub (ws' := [(m0, .inr (7, [.ref ml, .ref mm, .ref mit, .ref ms, .int (nI 3), .ref mt, .int (nI tn), .int (fk), .int (fp), .int (av), .int (sv), .int (ov), .int (vv), .ref nw, .ref dr, .ref tr, .ref pa, .int (nI ac), .ref ig, .ref kx, .ref be, .ref tc, .int (nI td)])), (nw, .inl (cy 0, 29, .inl f))]) [1, 0] rfl
                have hD9 := hD.sub (ws' := [(m0, .inr (7, [.ref ml, .ref mm, .ref mit, .ref ms, .int (nI 3), .ref mt, .int (nI tn), .int (fk), .int (fp), .int (av), .int (sv), .int (ov), .int (vv), .ref nw, .ref dr, .ref tr, .ref pa, .int (nI ac), .ref ig, .ref kx, .ref be, .ref tc, .int (nI td)])), (nw, .inl (cy 0, 29, .inl f))]) [1, 0] (by decide) rfl
                exact q_wiret (v := (-1000013)) hx hb hr hlocks dX7_as_80 hP9 hD9 hS (⟨_, by simp only [oAs, q_cl (by omega : c < 2147483648), q_cl (by omega : m < 2147483648), if_pos b2, if_pos b4, if_neg (asM_n (k := ctK w c) (m := m) hk1 hk5 (by omega) (by omega))], rfl⟩)
              · refine lv_iconst (v := nI 1) hx hb dX7_as_55 (by decide) ?_
                refine lv_goto (tgt := 60) hx hb dX7_as_56 (by decide) ?_
                refine lv_istore (lv' := [(4, .int (nI 1)), (3, .int (nI (ctK w c))), (0, .ref m0), (1, .int (nI c)), (2, .int (nI m))]) hx hb dX7_as_60 hl (by decide) rfl (fun ls hl => ?_)
                refine lv_iload hx hb dX7_as_62 (lv_at hl 0 rfl) ?_
                refine lv_if_eq (tgt := 75) hx hb dX7_as_64 (by decide) (fun c9 => absurd c9 (by decide)) (fun _ => ?_)
                refine lv_aload_n hx hb dX7_as_67 rfl (lv_at hl 2 rfl) ?_
                refine lv_iload_n hx hb dX7_as_68 rfl (lv_at hl 3 rfl) ?_
                refine q_wiV (As := [.int (nI c)]) (rest := []) (wr := [(nw, .inl (cy 0, 29, .inl f))]) ⟨hx, hb, hml, hown, hts⟩ (c_X7_well l D cy m0 ml mm mit ms mt nw dr tr pa ig kx be tc st fk fp av sv ov vv tn ac td (nI c)) (cwV 1 hts gX7_as_X7_well rfl rfl rfl (by decide +kernel) ⟨Nat.le_of_ble_eq_true rfl, Nat.le_of_ble_eq_true rfl⟩) hP hD hS hA hK [0] [1] rfl rfl (by decide) rfl (by decide) (by decide) 0 rfl rfl rfl rfl hl.1 rfl (Nat.le_of_ble_eq_true rfl) dX7_as_69 ⟨Nat.zero_le _, Nat.zero_le _⟩ (fun r19 u20 H locs hr19 hP hD hS => ?_)
                obtain ⟨rfl, rfl⟩ := hr19
                have hP : va_P D vwCl [(nw, .inl (cy 0, 29, .inl f)), (m0, .inr (7, [.ref ml, .ref mm, .ref mit, .ref ms, .int (nI 0), .ref mt, .int (nI tn), .int (fk), .int (fp), .int (av), .int (sv), .int (ov), .int (vv), .ref nw, .ref dr, .ref tr, .ref pa, .int (nI ac), .ref ig, .ref kx, .ref be, .ref tc, .int (nI td)]))] H := hP
                have hD : va_D A [(nw, .inl (cy 0, 29, .inl f)), (m0, .inr (7, [.ref ml, .ref mm, .ref mit, .ref ms, .int (nI 0), .ref mt, .int (nI tn), .int (fk), .int (fp), .int (av), .int (sv), .int (ov), .int (vv), .ref nw, .ref dr, .ref tr, .ref pa, .int (nI ac), .ref ig, .ref kx, .ref be, .ref tc, .int (nI td)]))] := hD
                refine lv_goto (tgt := 80) hx hb dX7_as_72 (by decide) ?_
                have hP9 := hP.sub (ws' := [(m0, .inr (7, [.ref ml, .ref mm, .ref mit, .ref ms, .int (nI 0), .ref mt, .int (nI tn), .int (fk), .int (fp), .int (av), .int (sv), .int (ov), .int (vv), .ref nw, .ref dr, .ref tr, .ref pa, .int (nI ac), .ref ig, .ref kx, .ref be, .ref tc, .int (nI td)])), (nw, .inl (cy 0, 29, .inl f))]) [1, 0] rfl
                have hD9 := hD.sub (ws' := [(m0, .inr (7, [.ref ml, .ref mm, .ref mit, .ref ms, .int (nI 0), .ref mt, .int (nI tn), .int (fk), .int (fp), .int (av), .int (sv), .int (ov), .int (vv), .ref nw, .ref dr, .ref tr, .ref pa, .int (nI ac), .ref ig, .ref kx, .ref be, .ref tc, .int (nI td)])), (nw, .inl (cy 0, 29, .inl f))]) [1, 0] (by decide) rfl
                exact q_wiret (v := nI c) hx hb hr hlocks dX7_as_80 hP9 hD9 hS (⟨_, by simp only [oAs, q_cl (by omega : c < 2147483648), q_cl (by omega : m < 2147483648), if_pos b2, if_pos b4, if_pos (asM_y (k := ctK w c) (m := m) hk1 hk5 (by omega) (by omega))], rfl⟩)
          · refine lv_iload_n hx hb dX7_as_40 rfl (lv_at hl 0 rfl) ?_
            refine lv_iconst (v := nI 4) hx hb dX7_as_41 (by decide) ?_
            refine q_icmp_lt (tgt := 55) hx hb dX7_as_42 (by decide) (by omega) (by decide) (fun c21 => ?_) (fun c21 => ?_)
            · refine lv_iconst (v := nI 1) hx hb dX7_as_55 (by decide) ?_
              refine lv_goto (tgt := 60) hx hb dX7_as_56 (by decide) ?_
              refine lv_istore (lv' := [(4, .int (nI 1)), (3, .int (nI (ctK w c))), (0, .ref m0), (1, .int (nI c)), (2, .int (nI m))]) hx hb dX7_as_60 hl (by decide) rfl (fun ls hl => ?_)
              refine lv_iload hx hb dX7_as_62 (lv_at hl 0 rfl) ?_
              refine lv_if_eq (tgt := 75) hx hb dX7_as_64 (by decide) (fun c9 => absurd c9 (by decide)) (fun _ => ?_)
              refine lv_aload_n hx hb dX7_as_67 rfl (lv_at hl 2 rfl) ?_
              refine lv_iload_n hx hb dX7_as_68 rfl (lv_at hl 3 rfl) ?_
              refine q_wiV (As := [.int (nI c)]) (rest := []) (wr := [(nw, .inl (cy 0, 29, .inl f))]) ⟨hx, hb, hml, hown, hts⟩ (c_X7_well l D cy m0 ml mm mit ms mt nw dr tr pa ig kx be tc st fk fp av sv ov vv tn ac td (nI c)) (cwV 1 hts gX7_as_X7_well rfl rfl rfl (by decide +kernel) ⟨Nat.le_of_ble_eq_true rfl, Nat.le_of_ble_eq_true rfl⟩) hP hD hS hA hK [0] [1] rfl rfl (by decide) rfl (by decide) (by decide) 0 rfl rfl rfl rfl hl.1 rfl (Nat.le_of_ble_eq_true rfl) dX7_as_69 ⟨Nat.zero_le _, Nat.zero_le _⟩ (fun r22 u23 H locs hr22 hP hD hS => ?_)
              obtain ⟨rfl, rfl⟩ := hr22
              have hP : va_P D vwCl [(nw, .inl (cy 0, 29, .inl f)), (m0, .inr (7, [.ref ml, .ref mm, .ref mit, .ref ms, .int (nI 0), .ref mt, .int (nI tn), .int (fk), .int (fp), .int (av), .int (sv), .int (ov), .int (vv), .ref nw, .ref dr, .ref tr, .ref pa, .int (nI ac), .ref ig, .ref kx, .ref be, .ref tc, .int (nI td)]))] H := hP
              have hD : va_D A [(nw, .inl (cy 0, 29, .inl f)), (m0, .inr (7, [.ref ml, .ref mm, .ref mit, .ref ms, .int (nI 0), .ref mt, .int (nI tn), .int (fk), .int (fp), .int (av), .int (sv), .int (ov), .int (vv), .ref nw, .ref dr, .ref tr, .ref pa, .int (nI ac), .ref ig, .ref kx, .ref be, .ref tc, .int (nI td)]))] := hD
              refine lv_goto (tgt := 80) hx hb dX7_as_72 (by decide) ?_
              have hP9 := hP.sub (ws' := [(m0, .inr (7, [.ref ml, .ref mm, .ref mit, .ref ms, .int (nI 0), .ref mt, .int (nI tn), .int (fk), .int (fp), .int (av), .int (sv), .int (ov), .int (vv), .ref nw, .ref dr, .ref tr, .ref pa, .int (nI ac), .ref ig, .ref kx, .ref be, .ref tc, .int (nI td)])), (nw, .inl (cy 0, 29, .inl f))]) [1, 0] rfl
              have hD9 := hD.sub (ws' := [(m0, .inr (7, [.ref ml, .ref mm, .ref mit, .ref ms, .int (nI 0), .ref mt, .int (nI tn), .int (fk), .int (fp), .int (av), .int (sv), .int (ov), .int (vv), .ref nw, .ref dr, .ref tr, .ref pa, .int (nI ac), .ref ig, .ref kx, .ref be, .ref tc, .int (nI td)])), (nw, .inl (cy 0, 29, .inl f))]) [1, 0] (by decide) rfl
              exact q_wiret (v := nI c) hx hb hr hlocks dX7_as_80 hP9 hD9 hS (⟨_, by simp only [oAs, q_cl (by omega : c < 2147483648), q_cl (by omega : m < 2147483648), if_pos b2, if_pos b4, if_pos (asM_y (k := ctK w c) (m := m) hk1 hk5 (by omega) (by omega))], rfl⟩)
            · refine lv_iload_n hx hb dX7_as_45 rfl (lv_at hl 3 rfl) ?_
              refine lv_iconst (v := nI 4) hx hb dX7_as_46 (by decide) ?_
              refine q_icmp_ne (tgt := 59) hx hb dX7_as_47 (by decide) (by omega) (by decide) (fun c24 => ?_) (fun c24 => ?_)
              · refine lv_iconst (v := nI 0) hx hb dX7_as_59 (by decide) ?_
                refine lv_istore (lv' := [(4, .int (nI 0)), (3, .int (nI (ctK w c))), (0, .ref m0), (1, .int (nI c)), (2, .int (nI m))]) hx hb dX7_as_60 hl (by decide) rfl (fun ls hl => ?_)
                refine lv_iload hx hb dX7_as_62 (lv_at hl 0 rfl) ?_
                refine lv_if_eq (tgt := 75) hx hb dX7_as_64 (by decide) (fun _ => ?_) (fun c9 => absurd (by decide) c9)
                refine lv_aload_n hx hb dX7_as_75 rfl (lv_at hl 2 rfl) ?_
                refine lv_iconst (v := nI 3) hx hb dX7_as_76 (by decide) ?_
                refine q_wiV (As := [.int (nI 3)]) (rest := []) (wr := [(nw, .inl (cy 0, 29, .inl f))]) ⟨hx, hb, hml, hown, hts⟩ (c_X7_found l D cy m0 ml mm mit ms mt nw dr tr pa ig kx be tc st fk fp av sv ov vv tn ac td (nI 3)) (cwV 1 hts gX7_as_X7_found rfl rfl rfl (by decide +kernel) ⟨Nat.le_of_ble_eq_true rfl, Nat.le_of_ble_eq_true rfl⟩) hP hD hS hA hK [0] [1] rfl rfl (by decide) rfl (by decide) (by decide) 0 rfl rfl rfl rfl hl.1 rfl (Nat.le_of_ble_eq_true rfl) dX7_as_77 ⟨Nat.zero_le _, Nat.zero_le _⟩ (fun r25 u26 H locs hr25 hP hD hS => ?_)
                obtain ⟨rfl, rfl⟩ := hr25
                have hP : va_P D vwCl [(nw, .inl (cy 0, 29, .inl f)), (m0, .inr (7, [.ref ml, .ref mm, .ref mit, .ref ms, .int (nI 3), .ref mt, .int (nI tn), .int (fk), .int (fp), .int (av), .int (sv), .int (ov), .int (vv), .ref nw, .ref dr, .ref tr, .ref pa, .int (nI ac), .ref ig, .ref kx, .ref be, .ref tc, .int (nI td)]))] H := hP
                have hD : va_D A [(nw, .inl (cy 0, 29, .inl f)), (m0, .inr (7, [.ref ml, .ref mm, .ref mit, .ref ms, .int (nI 3), .ref mt, .int (nI tn), .int (fk), .int (fp), .int (av), .int (sv), .int (ov), .int (vv), .ref nw, .ref dr, .ref tr, .ref pa, .int (nI ac), .ref ig, .ref kx, .ref be, .ref tc, .int (nI td)]))] := hD
                refine q_top (y := (-1000013)) (by decide) ?_
                have hP9 := hP.sub (ws' := [(m0, .inr (7, [.ref ml, .ref mm, .ref mit, .ref ms, .int (nI 3), .ref mt, .int (nI tn), .int (fk), .int (fp), .int (av), .int (sv), .int (ov), .int (vv), .ref nw, .ref dr, .ref tr, .ref pa, .int (nI ac), .ref ig, .ref kx, .ref be, .ref tc, .int (nI td)])), (nw, .inl (cy 0, 29, .inl f))]) [1, 0] rfl
                have hD9 := hD.sub (ws' := [(m0, .inr (7, [.ref ml, .ref mm, .ref mit, .ref ms, .int (nI 3), .ref mt, .int (nI tn), .int (fk), .int (fp), .int (av), .int (sv), .int (ov), .int (vv), .ref nw, .ref dr, .ref tr, .ref pa, .int (nI ac), .ref ig, .ref kx, .ref be, .ref tc, .int (nI td)])), (nw, .inl (cy 0, 29, .inl f))]) [1, 0] (by decide) rfl
                exact q_wiret (v := (-1000013)) hx hb hr hlocks dX7_as_80 hP9 hD9 hS (⟨_, by simp only [oAs, q_cl (by omega : c < 2147483648), q_cl (by omega : m < 2147483648), if_pos b2, if_pos b4, if_neg (asM_n (k := ctK w c) (m := m) hk1 hk5 (by omega) (by omega))], rfl⟩)
              · refine lv_iload_n hx hb dX7_as_50 rfl (lv_at hl 0 rfl) ?_
                refine lv_iconst (v := nI 5) hx hb dX7_as_51 (by decide) ?_
                refine q_icmp_ne (tgt := 59) hx hb dX7_as_52 (by decide) (by omega) (by decide) (fun c27 => ?_) (fun c27 => ?_)
                · refine lv_iconst (v := nI 0) hx hb dX7_as_59 (by decide) ?_
                  refine lv_istore (lv' := [(4, .int (nI 0)), (3, .int (nI (ctK w c))), (0, .ref m0), (1, .int (nI c)), (2, .int (nI m))]) hx hb dX7_as_60 hl (by decide) rfl (fun ls hl => ?_)
                  refine lv_iload hx hb dX7_as_62 (lv_at hl 0 rfl) ?_
                  refine lv_if_eq (tgt := 75) hx hb dX7_as_64 (by decide) (fun _ => ?_) (fun c9 => absurd (by decide) c9)
                  refine lv_aload_n hx hb dX7_as_75 rfl (lv_at hl 2 rfl) ?_
                  refine lv_iconst (v := nI 3) hx hb dX7_as_76 (by decide) ?_
                  refine q_wiV (As := [.int (nI 3)]) (rest := []) (wr := [(nw, .inl (cy 0, 29, .inl f))]) ⟨hx, hb, hml, hown, hts⟩ (c_X7_found l D cy m0 ml mm mit ms mt nw dr tr pa ig kx be tc st fk fp av sv ov vv tn ac td (nI 3)) (cwV 1 hts gX7_as_X7_found rfl rfl rfl (by decide +kernel) ⟨Nat.le_of_ble_eq_true rfl, Nat.le_of_ble_eq_true rfl⟩) hP hD hS hA hK [0] [1] rfl rfl (by decide) rfl (by decide) (by decide) 0 rfl rfl rfl rfl hl.1 rfl (Nat.le_of_ble_eq_true rfl) dX7_as_77 ⟨Nat.zero_le _, Nat.zero_le _⟩ (fun r28 u29 H locs hr28 hP hD hS => ?_)
                  obtain ⟨rfl, rfl⟩ := hr28
                  have hP : va_P D vwCl [(nw, .inl (cy 0, 29, .inl f)), (m0, .inr (7, [.ref ml, .ref mm, .ref mit, .ref ms, .int (nI 3), .ref mt, .int (nI tn), .int (fk), .int (fp), .int (av), .int (sv), .int (ov), .int (vv), .ref nw, .ref dr, .ref tr, .ref pa, .int (nI ac), .ref ig, .ref kx, .ref be, .ref tc, .int (nI td)]))] H := hP
                  have hD : va_D A [(nw, .inl (cy 0, 29, .inl f)), (m0, .inr (7, [.ref ml, .ref mm, .ref mit, .ref ms, .int (nI 3), .ref mt, .int (nI tn), .int (fk), .int (fp), .int (av), .int (sv), .int (ov), .int (vv), .ref nw, .ref dr, .ref tr, .ref pa, .int (nI ac), .ref ig, .ref kx, .ref be, .ref tc, .int (nI td)]))] := hD
                  refine q_top (y := (-1000013)) (by decide) ?_
                  have hP9 := hP.sub (ws' := [(m0, .inr (7, [.ref ml, .ref mm, .ref mit, .ref ms, .int (nI 3), .ref mt, .int (nI tn), .int (fk), .int (fp), .int (av), .int (sv), .int (ov), .int (vv), .ref nw, .ref dr, .ref tr, .ref pa, .int (nI ac), .ref ig, .ref kx, .ref be, .ref tc, .int (nI td)])), (nw, .inl (cy 0, 29, .inl f))]) [1, 0] rfl
                  have hD9 := hD.sub (ws' := [(m0, .inr (7, [.ref ml, .ref mm, .ref mit, .ref ms, .int (nI 3), .ref mt, .int (nI tn), .int (fk), .int (fp), .int (av), .int (sv), .int (ov), .int (vv), .ref nw, .ref dr, .ref tr, .ref pa, .int (nI ac), .ref ig, .ref kx, .ref be, .ref tc, .int (nI td)])), (nw, .inl (cy 0, 29, .inl f))]) [1, 0] (by decide) rfl
                  exact q_wiret (v := (-1000013)) hx hb hr hlocks dX7_as_80 hP9 hD9 hS (⟨_, by simp only [oAs, q_cl (by omega : c < 2147483648), q_cl (by omega : m < 2147483648), if_pos b2, if_pos b4, if_neg (asM_n (k := ctK w c) (m := m) hk1 hk5 (by omega) (by omega))], rfl⟩)
                · refine lv_iconst (v := nI 1) hx hb dX7_as_55 (by decide) ?_
                  refine lv_goto (tgt := 60) hx hb dX7_as_56 (by decide) ?_
                  refine lv_istore (lv' := [(4, .int (nI 1)), (3, .int (nI (ctK w c))), (0, .ref m0), (1, .int (nI c)), (2, .int (nI m))]) hx hb dX7_as_60 hl (by decide) rfl (fun ls hl => ?_)
                  refine lv_iload hx hb dX7_as_62 (lv_at hl 0 rfl) ?_
                  refine lv_if_eq (tgt := 75) hx hb dX7_as_64 (by decide) (fun c9 => absurd c9 (by decide)) (fun _ => ?_)
                  refine lv_aload_n hx hb dX7_as_67 rfl (lv_at hl 2 rfl) ?_
                  refine lv_iload_n hx hb dX7_as_68 rfl (lv_at hl 3 rfl) ?_
                  refine q_wiV (As := [.int (nI c)]) (rest := []) (wr := [(nw, .inl (cy 0, 29, .inl f))]) ⟨hx, hb, hml, hown, hts⟩ (c_X7_well l D cy m0 ml mm mit ms mt nw dr tr pa ig kx be tc st fk fp av sv ov vv tn ac td (nI c)) (cwV 1 hts gX7_as_X7_well rfl rfl rfl (by decide +kernel) ⟨Nat.le_of_ble_eq_true rfl, Nat.le_of_ble_eq_true rfl⟩) hP hD hS hA hK [0] [1] rfl rfl (by decide) rfl (by decide) (by decide) 0 rfl rfl rfl rfl hl.1 rfl (Nat.le_of_ble_eq_true rfl) dX7_as_69 ⟨Nat.zero_le _, Nat.zero_le _⟩ (fun r30 u31 H locs hr30 hP hD hS => ?_)
                  obtain ⟨rfl, rfl⟩ := hr30
                  have hP : va_P D vwCl [(nw, .inl (cy 0, 29, .inl f)), (m0, .inr (7, [.ref ml, .ref mm, .ref mit, .ref ms, .int (nI 0), .ref mt, .int (nI tn), .int (fk), .int (fp), .int (av), .int (sv), .int (ov), .int (vv), .ref nw, .ref dr, .ref tr, .ref pa, .int (nI ac), .ref ig, .ref kx, .ref be, .ref tc, .int (nI td)]))] H := hP
                  have hD : va_D A [(nw, .inl (cy 0, 29, .inl f)), (m0, .inr (7, [.ref ml, .ref mm, .ref mit, .ref ms, .int (nI 0), .ref mt, .int (nI tn), .int (fk), .int (fp), .int (av), .int (sv), .int (ov), .int (vv), .ref nw, .ref dr, .ref tr, .ref pa, .int (nI ac), .ref ig, .ref kx, .ref be, .ref tc, .int (nI td)]))] := hD
                  refine lv_goto (tgt := 80) hx hb dX7_as_72 (by decide) ?_
                  have hP9 := hP.sub (ws' := [(m0, .inr (7, [.ref ml, .ref mm, .ref mit, .ref ms, .int (nI 0), .ref mt, .int (nI tn), .int (fk), .int (fp), .int (av), .int (sv), .int (ov), .int (vv), .ref nw, .ref dr, .ref tr, .ref pa, .int (nI ac), .ref ig, .ref kx, .ref be, .ref tc, .int (nI td)])), (nw, .inl (cy 0, 29, .inl f))]) [1, 0] rfl
                  have hD9 := hD.sub (ws' := [(m0, .inr (7, [.ref ml, .ref mm, .ref mit, .ref ms, .int (nI 0), .ref mt, .int (nI tn), .int (fk), .int (fp), .int (av), .int (sv), .int (ov), .int (vv), .ref nw, .ref dr, .ref tr, .ref pa, .int (nI ac), .ref ig, .ref kx, .ref be, .ref tc, .int (nI td)])), (nw, .inl (cy 0, 29, .inl f))]) [1, 0] (by decide) rfl
                  exact q_wiret (v := nI c) hx hb hr hlocks dX7_as_80 hP9 hD9 hS (⟨_, by simp only [oAs, q_cl (by omega : c < 2147483648), q_cl (by omega : m < 2147483648), if_pos b2, if_pos b4, if_pos (asM_y (k := ctK w c) (m := m) hk1 hk5 (by omega) (by omega))], rfl⟩)
    · have _ := b4
      refine lv_if_ne (tgt := 20) hx hb dX7_as_14 (by decide) (fun c9 => absurd (by decide) c9) (fun _ => ?_)
      refine lv_ldc (v := (-1000001)) hx hb hown (hts _ mX7_as_0) dX7_as_17 ?_
      have hP9 := hP
      have hD9 := hD
      exact q_wiret (v := (-1000001)) hx hb hr hlocks dX7_as_19 hP9 hD9 hS (⟨_, by simp only [oAs, q_cl (by omega : c < 2147483648), if_pos b2, if_neg b4], rfl⟩)
  · have _ := b2
    refine lv_if_eq (tgt := 17) hx hb dX7_as_5 (by decide) (fun _ => ?_) (fun c9 => absurd (by decide) c9)
    refine lv_ldc (v := (-1000001)) hx hb hown (hts _ mX7_as_0) dX7_as_17 ?_
    have hP9 := hP
    have hD9 := hD
    exact q_wiret (v := (-1000001)) hx hb hr hlocks dX7_as_19 hP9 hD9 hS (⟨_, by simp only [oAs, if_neg b2], rfl⟩)

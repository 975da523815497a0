/-! a family of int arrays in a world: n of them, of len places each, at the addresses g i, holding sp i -/
def famI (cy : Nat → ClassId) (n len : Nat) (g : Nat → Nat) (sp : Nat → Nat → Int32) : va_W := (List.range n).map (fun i => (g i, .inl (cy 0, len, .inl (sp i))))
theorem famI_len {cy : Nat → ClassId} {n len : Nat} {g : Nat → Nat} {sp : Nat → Nat → Int32} : (famI cy n len g sp).length = n := by simp [famI]
theorem famI_get {X Y : va_W} {cy : Nat → ClassId} {n len m i : Nat} {g : Nat → Nat} {sp : Nat → Nat → Int32} (hm : X.length = m) (hi : i < n) : (X ++ (famI cy n len g sp ++ Y))[m + i]? = some (g i, .inl (cy 0, len, .inl (sp i))) := by
  rw [List.getElem?_append_right (by omega), show m + i - X.length = i by omega, List.getElem?_append_left (by rw [famI_len]; exact hi)]
  simp [famI, hi]
theorem famI_set {X Y : va_W} {cy : Nat → ClassId} {n len m i : Nat} {g : Nat → Nat} {sp : Nat → Nat → Int32} {f : Nat → Int32} (hm : X.length = m) (hi : i < n) : (X ++ (famI cy n len g sp ++ Y)).set (m + i) (g i, .inl (cy 0, len, .inl f)) = X ++ (famI cy n len g (fun j => if j = i then f else sp j) ++ Y) := by
  rw [List.set_append_right _ _ (by omega), show m + i - X.length = i by omega, List.set_append_left _ _ (by rw [famI_len]; exact hi)]
  congr 2
  apply List.ext_getElem?
  intro k
  rw [List.getElem?_set]
  by_cases hk : k < n
  · by_cases e : i = k
    · subst e
      simp [famI, hk]
    · have e2 : ¬ k = i := fun q => e q.symm
      simp [famI, hk, e, e2]
  · have h1 : (famI cy n len g sp)[k]? = none := List.getElem?_eq_none (by rw [famI_len]; omega)
    have h2 : (famI cy n len g (fun j => if j = i then f else sp j))[k]? = none := List.getElem?_eq_none (by rw [famI_len]; omega)
    rw [h1, h2]
    split
    · omega
    · rfl
theorem famI_get2 {X Y F : va_W} {cy : Nat → ClassId} {n len m i k : Nat} {g : Nat → Nat} {sp : Nat → Nat → Int32} (hm : X.length = m) (hf : F.length = k) (hi : i < n) : (X ++ (F ++ (famI cy n len g sp ++ Y)))[m + k + i]? = some (g i, .inl (cy 0, len, .inl (sp i))) := by
  have h := famI_get (X := X ++ F) (Y := Y) (cy := cy) (len := len) (g := g) (sp := sp) (m := m + k) (by rw [List.length_append, hm, hf]) hi
  rw [List.append_assoc] at h
  exact h
theorem famI_set2 {X Y F : va_W} {cy : Nat → ClassId} {n len m i k : Nat} {g : Nat → Nat} {sp : Nat → Nat → Int32} {f : Nat → Int32} (hm : X.length = m) (hf : F.length = k) (hi : i < n) : (X ++ (F ++ (famI cy n len g sp ++ Y))).set (m + k + i) (g i, .inl (cy 0, len, .inl f)) = X ++ (F ++ (famI cy n len g (fun j => if j = i then f else sp j) ++ Y)) := by
  have h := famI_set (X := X ++ F) (Y := Y) (cy := cy) (len := len) (g := g) (sp := sp) (f := f) (m := m + k) (by rw [List.length_append, hm, hf]) hi
  rw [List.append_assoc, List.append_assoc] at h
  exact h
section Q4
variable {p : Program} {l : Launch} {e : Env} {R : Room} {s : State} {m : MethodId} {args : Array Value} {below : List Frame} {meth : Method} {c : Code} {H : Heap} {locs : List Loc} {cells slots : Nat} {Q : State → Prop}
variable {cc : ByteArray} {pc : Nat} {ls : Array Slot} {rest st0 : List Value} {D : va_G} {cy : Nat → ClassId} {A : Nat → Prop} {a : Nat} {ws X : va_W} {H0 : Heap}
/-- reads of arrays of references: of int arrays (3), of cities (2) -/
theorem q_aald3 (hexec : p.tables.exec = Jvm.exec) (hb : c.code = cc) (hK : q_K D cy s) (hP : va_P D vwCl ws H) (q0 : Nat) {n j v : Nat} {f : Nat → Option Nat} (ha : ws[q0]? = some (a, .inl (cy 3, n, .inr (.inr (.inr (.inr f)))))) (hj : j < n) (hn : n < 2 ^ 31) (hv : f j = some v) (hdg : decode cc pc = .ok (.aaload, 1)) (kk : W p l e R s m args below meth c H locs cells slots Q (F0 m (pc + 1) ls (.ref v :: rest))) : W p l e R s m args below meth c H locs cells slots Q (F0 m pc ls (.int (nI j) :: .ref a :: rest)) := by
  have hin : vp_in (nI j) n := vp_in_nI hj hn
  have hcl : (nI j).toNatClampNeg = j := nI_clamp (by omega)
  have hlt : (nI j).toNatClampNeg < n := by rw [hcl]; exact hj
  exact W.aald (v := .ref v) (ty := .array .int) hexec hb (hP q0 _ ha) ((hK.1.2 3 _ rfl).1 n (fun j => va_rf (f j))) rfl (fun q => by cases q) (by show ¬ ((nI j) < 0 ∨ (arrV _ _ _).slots.size ≤ _); rw [arrV_size]; exact hin) (by show (arrV _ _ _).slots[_]? = _; rw [arrV_read _ _ hlt, hcl, hv]; rfl) rfl rfl hdg kk
theorem q_aald2 (hexec : p.tables.exec = Jvm.exec) (hb : c.code = cc) (hK : q_K D cy s) (hP : va_P D vwCl ws H) (q0 : Nat) {n j v : Nat} {f : Nat → Option Nat} (ha : ws[q0]? = some (a, .inl (cy 2, n, .inr (.inr (.inr (.inr f)))))) (hj : j < n) (hn : n < 2 ^ 31) (hv : f j = some v) (hdg : decode cc pc = .ok (.aaload, 1)) (kk : W p l e R s m args below meth c H locs cells slots Q (F0 m (pc + 1) ls (.ref v :: rest))) : W p l e R s m args below meth c H locs cells slots Q (F0 m pc ls (.int (nI j) :: .ref a :: rest)) :=
  va_aldq hexec hb hK.1 hP q0 2 ha rfl (vp_in_nI hj hn) hdg (by rw [nI_clamp (by omega), hv]; exact kk)
end Q4
theorem q_Pc {D : va_G} {w1 w2 : va_W} {H : Heap} (e : w1 = w2) (h : va_P D vwCl w1 H) : va_P D vwCl w2 H := e ▸ h
theorem q_Dc {A : Nat → Prop} {w1 w2 : va_W} (e : w1 = w2) (h : va_D A w1) : va_D A w2 := e ▸ h
theorem q_min {a b : Nat} (ha : a < 2 ^ 31) (hb : b < 2 ^ 31) : (if nI b < nI a then nI b else nI a) = nI (min a b) := by
  by_cases h : b < a
  · rw [if_pos ((nI_ltI hb ha).mpr h), Nat.min_eq_right (by omega)]
  · rw [if_neg (fun q => h ((nI_ltI hb ha).mp q)), Nat.min_eq_left (by omega)]
theorem q_max {a b : Nat} (ha : a < 2 ^ 31) (hb : b < 2 ^ 31) : (if nI a < nI b then nI b else nI a) = nI (max a b) := by
  by_cases h : a < b
  · rw [if_pos ((nI_ltI ha hb).mpr h), Nat.max_eq_right (by omega)]
  · rw [if_neg (fun q => h ((nI_ltI ha hb).mp q)), Nat.max_eq_left (by omega)]
section Q5
variable {p : Program} {l : Launch} {e : Env} {R : Room} {s : State} {m : MethodId} {args : Array Value} {below : List Frame} {meth : Method} {c : Code} {H : Heap} {locs : List Loc} {cells slots : Nat} {Q : State → Prop}
variable {cc : ByteArray} {pc : Nat} {ls : Array Slot} {rest st0 : List Value} {D : va_G} {cy : Nat → ClassId} {A : Nat → Prop} {a : Nat} {ws X : va_W} {H0 : Heap}
variable {y : MethodName} {bytes : ByteArray} {maxL nL n index d : Nat} {ret : Option FieldType} {wy : List Cond} {Ts : List Cond} {own C host : String} {b : Nat} {As : List Value}
/-- a static writer's call -/
theorem q_wvS {post : va_W → Prop} {wr : va_W} (S : CallFix p m c cc nL s args Ts own) (hM : q_Wv l y wy d D cy X As post) (cw : CallB R s args own index y bytes maxL ret wy (q_rm d) 0 0 n ∧ (Cond.static y).before args s = true) (hP : va_P D vwCl ws H) (hD : va_D A ws) (hS : va_S A H0 H locs) (hA : ∀ q, H0.size ≤ q → A q) (hK : q_K D cy s) (is ir : List Nat) (his : is.filterMap (fun i => ws[i]?) = X) (hC1 : is.map (fun i => ws[i]?) = X.map some) (hnd : va_nd is = true) (hR1 : ir.map (fun i => ws[i]?) = wr.map some) (hnr : va_nd ir = true) (hdis : ∀ i ∈ ir, i ∉ is)
    (hn : As.length = n) (hsize : ls.size = nL) (hst : st0 = As.reverse ++ rest) (hW : (rest.map fun v => v.category).sum ≤ 8) (hdg : decode cc pc = .ok (.invokestatic index, 3)) (hcs : cells ≤ R.cells ∧ slots ≤ R.slots) (kk : ∀ (u : va_W) (H1 : Heap) (locs1 : List Loc), post u → va_P D vwCl (wr ++ u) H1 → va_D A (wr ++ u) → va_S A H0 H1 locs1 → W p l e R s m args below meth c H1 locs1 cells slots Q (F0 m (pc + 3) ls rest)) : W p l e R s m args below meth c H locs cells slots Q (F0 m pc ls st0) := by
  have hPc := hP.sub is his
  have hDc := hD.sub is hnd hC1
  have hFc := va_free hD hS hA is hC1
  refine va_callv (va_runS S (hM H.size) cw ⟨q_blindW, fun U hU hW => ⟨rfl, by rw [hU], by rw [hU]; exact hPc, hK.warm hW, hDc.weaken (fun _ _ _ _ => trivial)⟩⟩ rfl hn hsize hst (lv_room hW) hdg hcs) hS (fun q _ h => hFc q h) hFc (fun u t H1 locs1 ht hvm hw hB hz1 hk1 hS1 => ?_)
  obtain ⟨hP1, hD1⟩ := hB
  rw [ht] at hP1
  obtain ⟨hP2, hD2⟩ := va_join hP hD is ir hC1 hR1 hnr hdis hk1 hFc hP1 hD1
  exact kk u H1 locs1 hw hP2 hD2 hS1
/-- a static writer's call whose world is one cell, at any place of ours -/
theorem q_wvS1 {post : va_W → Prop} {P1 : va_E → Prop} {e0 : va_E} (S : CallFix p m c cc nL s args Ts own) (hM : q_Wv l y wy d D cy [(a, e0)] As post) (cw : CallB R s args own index y bytes maxL ret wy (q_rm d) 0 0 n ∧ (Cond.static y).before args s = true) (hP : va_P D vwCl ws H) (hD : va_D A ws) (hS : va_S A H0 H locs) (hA : ∀ q, H0.size ≤ q → A q) (hK : q_K D cy s) (k : Nat) (hk : ws[k]? = some (a, e0)) (hpost : ∀ u, post u → ∃ e1, u = [(a, e1)] ∧ P1 e1)
    (hn : As.length = n) (hsize : ls.size = nL) (hst : st0 = As.reverse ++ rest) (hW : (rest.map fun v => v.category).sum ≤ 8) (hdg : decode cc pc = .ok (.invokestatic index, 3)) (hcs : cells ≤ R.cells ∧ slots ≤ R.slots) (kk : ∀ (e1 : va_E) (H1 : Heap) (locs1 : List Loc), P1 e1 → va_P D vwCl (ws.set k (a, e1)) H1 → va_D A (ws.set k (a, e1)) → va_S A H0 H1 locs1 → W p l e R s m args below meth c H1 locs1 cells slots Q (F0 m (pc + 3) ls rest)) : W p l e R s m args below meth c H locs cells slots Q (F0 m pc ls st0) := by
  have hC1 : [k].map (fun i => ws[i]?) = [(a, e0)].map some := by simp [hk]
  have hPc : va_P D vwCl [(a, e0)] H := hP.sub [k] (by simp [hk])
  have hDc : va_D A [(a, e0)] := hD.sub [k] rfl hC1
  have hFc := va_free hD hS hA [k] hC1
  refine va_callv (va_runS S (hM H.size) cw ⟨q_blindW, fun U hU hW => ⟨rfl, by rw [hU], by rw [hU]; exact hPc, hK.warm hW, hDc.weaken (fun _ _ _ _ => trivial)⟩⟩ rfl hn hsize hst (lv_room hW) hdg hcs) hS (fun q _ h => hFc q h) hFc (fun u t H1 locs1 ht hvm hw hB hz1 hk1 hS1 => ?_)
  obtain ⟨hP1, -⟩ := hB
  rw [ht] at hP1
  obtain ⟨e1, rfl, hp1⟩ := hpost u hw
  have hl := (List.getElem?_eq_some_iff.mp hk).1
  refine kk e1 H1 locs1 hp1 (fun j q hj => ?_) (hD.set hk) hS1
  by_cases hjk : j = k
  · subst hjk
    rw [List.getElem?_set_self hl] at hj
    cases hj
    exact hP1 0 _ rfl
  · rw [List.getElem?_set_ne (Ne.symm hjk)] at hj
    refine (hP j q hj).kept (hk1 q.1 (hP j q hj).lt ?_)
    rintro (⟨k2, e2, h2⟩ | h2)
    · have h0 : k2 = 0 := by
        have := (List.getElem?_eq_some_iff.mp h2).1
        simp at this
        omega
      subst h0
      cases h2
      exact hjk (hD.1 j k _ _ hj hk rfl)
    · exact absurd (hP j q hj).lt (Nat.not_lt.mpr h2)
end Q5

/-! a family of int arrays in a world: n of them, of len places each, at the addresses g i, holding sp i -/
def famI (cy : Nat → ClassId) (n len : Nat) (g : Nat → Nat) (sp : Nat → Nat → Int32) : va_W := (List.range n).map (fun i => (g i, .inl (cy 0, len, .inl (sp i))))
theorem famI_len {cy : Nat → ClassId} {n len : Nat} {g : Nat → Nat} {sp : Nat → Nat → Int32} : (famI cy n len g sp).length = n := by simp [famI]
theorem famI_get {X Y : va_W} {cy : Nat → ClassId} {n len m i : Nat} {g : Nat → Nat} {sp : Nat → Nat → Int32} (hm : X.length = m) (hi : i < n) : (X ++ (famI cy n len g sp ++ Y))[m + i]? = some (g i, .inl (cy 0, len, .inl (sp i))) := by
  rw [List.getElem?_append_right (by omega), show m + i - X.length = i by omega, List.getElem?_append_left (by rw [famI_len]; exact hi)]
  simp [famI, hi]
theorem famI_set {X Y : va_W} {cy : Nat → ClassId} {n len m i : Nat} {g : Nat → Nat} {sp : Nat → Nat → Int32} {f : Nat → Int32} (hm : X.length = m) (hi : i < n) : (X ++ (famI cy n len g sp ++ Y)).set (m + i) (g i, .inl (cy 0, len, .inl f)) = X ++ (famI cy n len g (fun j => if j = i then f else sp j) ++ Y) := by
  rw [List.set_append_right _ _ (by omega), show m + i - X.length = i by omega, List.set_append_left _ _ (by rw [famI_len]; exact hi)]
  congr 2
  apply List.ext_getElem?
  intro k
  rw [List.getElem?_set]
  by_cases hk : k < n
  · by_cases e : i = k
    · subst e
      simp [famI, hk]
    · have e2 : ¬ k = i := fun q => e q.symm
      simp [famI, hk, e, e2]
  · have h1 : (famI cy n len g sp)[k]? = none := List.getElem?_eq_none (by rw [famI_len]; omega)
    have h2 : (famI cy n len g (fun j => if j = i then f else sp j))[k]? = none := List.getElem?_eq_none (by rw [famI_len]; omega)
    rw [h1, h2]
    split
    · omega
    · rfl
theorem famI_get2 {X Y F : va_W} {cy : Nat → ClassId} {n len m i k : Nat} {g : Nat → Nat} {sp : Nat → Nat → Int32} (hm : X.length = m) (hf : F.length = k) (hi : i < n) : (X ++ (F ++ (famI cy n len g sp ++ Y)))[m + k + i]? = some (g i, .inl (cy 0, len, .inl (sp i))) := by
  have h := famI_get (X := X ++ F) (Y := Y) (cy := cy) (len := len) (g := g) (sp := sp) (m := m + k) (by rw [List.length_append, hm, hf]) hi
  rw [List.append_assoc] at h
  exact h
theorem famI_set2 {X Y F : va_W} {cy : Nat → ClassId} {n len m i k : Nat} {g : Nat → Nat} {sp : Nat → Nat → Int32} {f : Nat → Int32} (hm : X.length = m) (hf : F.length = k) (hi : i < n) : (X ++ (F ++ (famI cy n len g sp ++ Y))).set (m + k + i) (g i, .inl (cy 0, len, .inl f)) = X ++ (F ++ (famI cy n len g (fun j => if j = i then f else sp j) ++ Y)) := by
  have h := famI_set (X := X ++ F) (Y := Y) (cy := cy) (len := len) (g := g) (sp := sp) (f := f) (m := m + k) (by rw [List.length_append, hm, hf]) hi
  rw [List.append_assoc, List.append_assoc] at h
  exact h
section Q4
variable {p : Program} {l : Launch} {e : Env} {R : Room} {s : State} {m : MethodId} {args : Array Value} {below : List Frame} {meth : Method} {c : Code} {H : Heap} {locs : List Loc} {cells slots : Nat} {Q : State → Prop}
variable {cc : ByteArray} {pc : Nat} {ls : Array Slot} {rest st0 : List Value} {D : va_G} {cy : Nat → ClassId} {A : Nat → Prop} {a : Nat} {ws X : va_W} {H0 : Heap}
/-- reads of arrays of references: of int arrays (3), of cities (2) -/
theorem q_aald3 (hexec : p.tables.exec = Jvm.exec) (hb : c.code = cc) (hK : q_K D cy s) (hP : va_P D vwCl ws H) (q0 : Nat) {n j v : Nat} {f : Nat → Option Nat} (ha : ws[q0]? = some (a, .inl (cy 3, n, .inr (.inr (.inr (.inr f)))))) (hj : j < n) (hn : n < 2 ^ 31) (hv : f j = some v) (hdg : decode cc pc = .ok (.aaload, 1)) (kk : W p l e R s m args below meth c H locs cells slots Q (F0 m (pc + 1) ls (.ref v :: rest))) : W p l e R s m args below meth c H locs cells slots Q (F0 m pc ls (.int (nI j) :: .ref a :: rest)) := by
  have hin : vp_in (nI j) n := vp_in_nI hj hn
  have hcl : (nI j).toNatClampNeg = j := nI_clamp (by omega)
  have hlt : (nI j).toNatClampNeg < n := by rw [hcl]; exact hj
  exact W.aald (v := .ref v) (ty := .array .int) hexec hb (hP q0 _ ha) ((hK.1.2 3 _ rfl).1 n (fun j => va_rf (f j))) rfl (fun q => by cases q) (by show ¬ ((nI j) < 0 ∨ (arrV _ _ _).slots.size ≤ _); rw [arrV_size]; exact hin) (by show (arrV _ _ _).slots[_]? = _; rw [arrV_read _ _ hlt, hcl, hv]; rfl) rfl rfl hdg kk
theorem q_aald2 (hexec : p.tables.exec = Jvm.exec) (hb : c.code = cc) (hK : q_K D cy s) (hP : va_P D vwCl ws H) (q0 : Nat) {n j v : Nat} {f : Nat → Option Nat} (ha : ws[q0]? = some (a, .inl (cy 2, n, .inr (.inr (.inr (.inr f)))))) (hj : j < n) (hn : n < 2 ^ 31) (hv : f j = some v) (hdg : decode cc pc = .ok (.aaload, 1)) (kk : W p l e R s m args below meth c H locs cells slots Q (F0 m (pc + 1) ls (.ref v :: rest))) : W p l e R s m args below meth c H locs cells slots Q (F0 m pc ls (.int (nI j) :: .ref a :: rest)) :=
  va_aldq hexec hb hK.1 hP q0 2 ha rfl (vp_in_nI hj hn) hdg (by rw [nI_clamp (by omega), hv]; exact kk)
end Q4

theorem va_AOA.spec {t : FieldType} {u : State} (h : va_AOA t u) : ∃ comp c k, u.vm.findClass (FieldType.array t).toString = some comp ∧ u.vm.classes[c]? = some k ∧ k.kind = .array comp (.array t) ∧ u.vm.findClass ("[" ++ (FieldType.array t).toString) = some c := by
  unfold va_AOA Cond.before at h
  simp only [Cond.holds, Cond.value, beq_iff_eq] at h
  cases hc : u.vm.findClass (FieldType.array t).toString with
  | none => simp [hc] at h
  | some comp =>
    simp only [hc, Option.bind_some, Option.bind_eq_some_iff, Option.map_eq_some_iff] at h
    obtain ⟨c, hi, k, hk, hb⟩ := h
    obtain ⟨hlt, hp, -⟩ := Array.findIdx?_eq_some_iff_getElem.mp hi
    have hkk : u.vm.classes[c] = k := (Array.getElem?_eq_some_iff.mp hk).2
    rw [hkk] at hp
    cases hkind : k.kind with
    | array component ty =>
      rw [hkind] at hb hp
      simp at hb hp
      exact ⟨comp, c, k, rfl, hk, by rw [hkind, hp, hb.1], hb.2⟩
    | _ => rw [hkind] at hb; simp at hb
theorem lw_arrC {ty : FieldType} {A : Array Value} {s : State} (h : (Cond.arrayClass ty).before A s = true) : ∃ cA : ClassId, ArrOfT s cA ty ∧ s.vm.findClass ("[" ++ ty.toString) = some cA := by
  obtain ⟨c, k, comp, h1, h2, h3⟩ := Cond.arrayClass_spec h
  exact ⟨c, fun n z => ⟨fun k h => (by cases h), k, h2, comp, h3⟩, h1⟩
theorem lw_cy {A : Array Value} {s : State} (h0 : (Cond.arrayClass .int).before A s = true) (h1 : (Cond.arrayClass .boolean).before A s = true) (h2 : va_AO "ClueLeave$City" s) (h3 : va_AOA .int s) : ∃ cy : Nat → ClassId, ∀ (k : Nat) (q : ClassId × FieldType), (q_tys cy)[k]? = some q → ArrOfT s q.1 q.2 ∧ va_RA s q.1 q.2 := by
  obtain ⟨c0, a0, b0⟩ := lw_arrC h0
  obtain ⟨c1, a1, b1⟩ := lw_arrC h1
  obtain ⟨comp, c2, k, f1, f2, f3, f4, f5⟩ := Cond.arrayOver_spec h2
  obtain ⟨comp3, c3, k3, e1, e2, e3, e4⟩ := va_AOA.spec h3
  refine ⟨fun k => if k = 0 then c0 else if k = 1 then c1 else if k = 2 then c2 else c3, fun k q hq => ?_⟩
  match k, hq with
  | 0, hq => cases hq; exact ⟨a0, b0⟩
  | 1, hq => cases hq; exact ⟨a1, b1⟩
  | 2, hq => cases hq; exact ⟨fun n z => ⟨fun k h => (by cases h), _, f3, comp, f4⟩, ⟨_, comp, f3, f4, f1, f5⟩⟩
  | 3, hq => cases hq; exact ⟨fun n z => ⟨fun k h => (by cases h), k3, e2, comp3, e3⟩, e4⟩
  | k + 4, hq => simp at hq
set_option maxRecDepth 100000 in
theorem lw_st_IS_ALSO {s : State} {A : Array Value} {B : Nat → Prop} (hl : (Cond.laysStatic "ClueLeave" "IS_ALSO" "[I").before A s = true) (hini : (Cond.initialized "ClueLeave").before A s = true) (hgv : (Jvm.Cond.and given_1 narrow_1).before A s = true) (hB : ∀ a : Nat, a < s.heap.size → ¬ B a) : ∃ t : Nat, va_Z "ClueLeave" "IS_ALSO" "[I" (.ref t) B s s.heap ∧ va_T .int t 6 q_AsF B s s.heap := by
  have hs := flat_of_before _ hgv
  have e : ∀ j : Nat, j < 6 → (Term.elem (.static "ClueLeave" "IS_ALSO" "[I") (.int (Int32.ofNat j))).eval A s none [] s = some (q_AsF j) := fun j hj => by
    rcases (show j = 0 ∨ j = 1 ∨ j = 2 ∨ j = 3 ∨ j = 4 ∨ j = 5 by omega) with rfl | rfl | rfl | rfl | rfl | rfl
    · exact va_eqt (hs (.eq (.elem (.static "ClueLeave" "IS_ALSO" "[I") (.int 0)) (.int 1)) (by decide +kernel))
    · exact va_eqt (hs (.eq (.elem (.static "ClueLeave" "IS_ALSO" "[I") (.int 1)) (.int 3)) (by decide +kernel))
    · exact va_eqt (hs (.eq (.elem (.static "ClueLeave" "IS_ALSO" "[I") (.int 2)) (.int 7)) (by decide +kernel))
    · exact va_eqt (hs (.eq (.elem (.static "ClueLeave" "IS_ALSO" "[I") (.int 3)) (.int 11)) (by decide +kernel))
    · exact va_eqt (hs (.eq (.elem (.static "ClueLeave" "IS_ALSO" "[I") (.int 4)) (.int 17)) (by decide +kernel))
    · exact va_eqt (hs (.eq (.elem (.static "ClueLeave" "IS_ALSO" "[I") (.int 5)) (.int 49)) (by decide +kernel))
  obtain ⟨t, ht, hT⟩ := va_Tof (N := 6) (f := q_AsF) (A := B) (by decide) (hs (.arrayOf (.static "ClueLeave" "IS_ALSO" "[I") .int) (by decide +kernel)) (va_eqt (hs (.eq (.length (.static "ClueLeave" "IS_ALSO" "[I")) (.int 6)) (by decide +kernel))) e hB
  exact ⟨t, va_Zref hl hini ht hB, hT⟩
set_option maxRecDepth 100000 in
theorem lw_st_SIZES {s : State} {A : Array Value} {B : Nat → Prop} (hl : (Cond.laysStatic "ClueLeave$Asks" "SIZES" "[I").before A s = true) (hini : (Cond.initialized "ClueLeave$Asks").before A s = true) (hgv : (Jvm.Cond.and given_1 narrow_1).before A s = true) (hB : ∀ a : Nat, a < s.heap.size → ¬ B a) : ∃ t : Nat, va_Z "ClueLeave$Asks" "SIZES" "[I" (.ref t) B s s.heap ∧ va_T .int t 6 q_SzF B s s.heap := by
  have hs := flat_of_before _ hgv
  have e : ∀ j : Nat, j < 6 → (Term.elem (.static "ClueLeave$Asks" "SIZES" "[I") (.int (Int32.ofNat j))).eval A s none [] s = some (q_SzF j) := fun j hj => by
    rcases (show j = 0 ∨ j = 1 ∨ j = 2 ∨ j = 3 ∨ j = 4 ∨ j = 5 by omega) with rfl | rfl | rfl | rfl | rfl | rfl
    · exact va_eqt (hs (.eq (.elem (.static "ClueLeave$Asks" "SIZES" "[I") (.int 0)) (.int 10)) (by decide +kernel))
    · exact va_eqt (hs (.eq (.elem (.static "ClueLeave$Asks" "SIZES" "[I") (.int 1)) (.int 11)) (by decide +kernel))
    · exact va_eqt (hs (.eq (.elem (.static "ClueLeave$Asks" "SIZES" "[I") (.int 2)) (.int 12)) (by decide +kernel))
    · exact va_eqt (hs (.eq (.elem (.static "ClueLeave$Asks" "SIZES" "[I") (.int 3)) (.int 11)) (by decide +kernel))
    · exact va_eqt (hs (.eq (.elem (.static "ClueLeave$Asks" "SIZES" "[I") (.int 4)) (.int 13)) (by decide +kernel))
    · exact va_eqt (hs (.eq (.elem (.static "ClueLeave$Asks" "SIZES" "[I") (.int 5)) (.int 14)) (by decide +kernel))
  obtain ⟨t, ht, hT⟩ := va_Tof (N := 6) (f := q_SzF) (A := B) (by decide) (hs (.arrayOf (.static "ClueLeave$Asks" "SIZES" "[I") .int) (by decide +kernel)) (va_eqt (hs (.eq (.length (.static "ClueLeave$Asks" "SIZES" "[I")) (.int 6)) (by decide +kernel))) e hB
  exact ⟨t, va_Zref hl hini ht hB, hT⟩
set_option maxRecDepth 100000 in
theorem lw_st_MARKS {s : State} {A : Array Value} {B : Nat → Prop} (hl : (Cond.laysStatic "ClueLeave$Asks" "MARKS" "[I").before A s = true) (hini : (Cond.initialized "ClueLeave$Asks").before A s = true) (hgv : (Jvm.Cond.and given_1 narrow_1).before A s = true) (hB : ∀ a : Nat, a < s.heap.size → ¬ B a) : ∃ t : Nat, va_Z "ClueLeave$Asks" "MARKS" "[I" (.ref t) B s s.heap ∧ va_T .int t 6 q_MkF B s s.heap := by
  have hs := flat_of_before _ hgv
  have e : ∀ j : Nat, j < 6 → (Term.elem (.static "ClueLeave$Asks" "MARKS" "[I") (.int (Int32.ofNat j))).eval A s none [] s = some (q_MkF j) := fun j hj => by
    rcases (show j = 0 ∨ j = 1 ∨ j = 2 ∨ j = 3 ∨ j = 4 ∨ j = 5 by omega) with rfl | rfl | rfl | rfl | rfl | rfl
    · exact va_eqt (hs (.eq (.elem (.static "ClueLeave$Asks" "MARKS" "[I") (.int 0)) (.int 20)) (by decide +kernel))
    · exact va_eqt (hs (.eq (.elem (.static "ClueLeave$Asks" "MARKS" "[I") (.int 1)) (.int 21)) (by decide +kernel))
    · exact va_eqt (hs (.eq (.elem (.static "ClueLeave$Asks" "MARKS" "[I") (.int 2)) (.int 24)) (by decide +kernel))
    · exact va_eqt (hs (.eq (.elem (.static "ClueLeave$Asks" "MARKS" "[I") (.int 3)) (.int 22)) (by decide +kernel))
    · exact va_eqt (hs (.eq (.elem (.static "ClueLeave$Asks" "MARKS" "[I") (.int 4)) (.int 23)) (by decide +kernel))
    · exact va_eqt (hs (.eq (.elem (.static "ClueLeave$Asks" "MARKS" "[I") (.int 5)) (.int 23)) (by decide +kernel))
  obtain ⟨t, ht, hT⟩ := va_Tof (N := 6) (f := q_MkF) (A := B) (by decide) (hs (.arrayOf (.static "ClueLeave$Asks" "MARKS" "[I") .int) (by decide +kernel)) (va_eqt (hs (.eq (.length (.static "ClueLeave$Asks" "MARKS" "[I")) (.int 6)) (by decide +kernel))) e hB
  exact ⟨t, va_Zref hl hini ht hB, hT⟩

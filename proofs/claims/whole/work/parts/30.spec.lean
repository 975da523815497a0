/-! what the calls answer, and what becomes of the state: rows (ln lanes, 3 missing; sz sizes; it items; st the finding) -/
abbrev isR (x : Int32) : Prop := nI 0 ≤ x ∧ x ≤ nI 7
abbrev oBad {α : Type} (a : α) : Int32 × α := (-1000001, a)
theorem q_cl {k : Nat} (h : k < 2147483648) : (nI k).toNatClampNeg = k := nI_clamp h
theorem isR_i (x : Int32) : (∃ k : Nat, k < 8 ∧ x = nI k) ↔ isR x := ⟨fun ⟨k, hk, e⟩ => by subst e; exact ⟨(nI_leI (by decide) (by omega)).mpr (Nat.zero_le _), (nI_leI (by omega) (by decide)).mpr (by omega)⟩, fun h => by obtain ⟨k, -, h2, h3⟩ := q_rng h (by decide) (by decide); exact ⟨k, by omega, h3⟩⟩
def rwB (z : Nat) (x n : Int32) : Bool := decide (0 ≤ x.toInt) && (decide (0 ≤ n.toInt) && decide (x.toInt + n.toInt ≤ z))
theorem rwB_i {z : Nat} {x n : Int32} : rwP z x n ↔ rwB z x n = true := by simp [rwP, rwB]
theorem rwB_n {z : Nat} {x n : Int32} (h : rwB z x n = true) (hz : z ≤ 40) : ∃ i m : Nat, x = nI i ∧ n = nI m ∧ i + m ≤ z := by
  obtain ⟨h1, h2, h3⟩ := rwB_i.mpr h
  have a1 : ¬ x < 0 := fun q => by have := Int32.lt_iff_toInt_lt.mp q; rw [Int32.toInt_zero] at this; omega
  have a2 : ¬ n < 0 := fun q => by have := Int32.lt_iff_toInt_lt.mp q; rw [Int32.toInt_zero] at this; omega
  obtain ⟨i, hi, rfl⟩ := nI_of a1
  obtain ⟨m, hm, rfl⟩ := nI_of a2
  rw [nI_toInt hi, nI_toInt hm] at h3
  exact ⟨i, m, rfl, rfl, by omega⟩
theorem rwB_1 {z : Nat} {x : Int32} (h : rwB z x (nI 1) = true) (hz : z ≤ 40 := by omega) : ∃ i : Nat, i < z ∧ x = nI i := by
  obtain ⟨i, m, e1, e2, h3⟩ := rwB_n h hz
  have : (1 : Nat) = m := by
    have e4 := (nI_eq (a := 1) (b := m) (by decide) (by omega)).mp e2
    exact e4
  exact ⟨i, by omega, e1⟩
def rwI (ln sz : Nat → Nat) (itS : Nat → Nat → Int32) (fl fz : Nat → Int32) (it : Nat → Nat → Int32) : Prop := rwIs ln sz fl fz ∧ ∀ r j, r < 8 → j < 40 → it r j = itS r j
abbrev oRw : Type := Int32 × Int32 × (Nat → Nat) × (Nat → Nat) × (Nat → Nat → Int32)
def oRow (ln sz : Nat → Nat) (it : Nat → Nat → Int32) (st x l2 n : Int32) : oRw :=
  if isR x then if nI 0 ≤ l2 ∧ l2 ≤ nI 2 then if n ≤ nI 40 then if 0 ≤ n then (n, nI 0, fun z => if z = x.toNatClampNeg then l2.toNatClampNeg else ln z, fun z => if z = x.toNatClampNeg then n.toNatClampNeg else sz z, fun z j => if z = x.toNatClampNeg then 0 else it z j)
    else (-1000014, nI 4, ln, sz, it) else (-1000001, st, ln, sz, it) else (-1000001, st, ln, sz, it) else (-1000001, st, ln, sz, it)
def oSet (ln sz : Nat → Nat) (it : Nat → Nat → Int32) (st x i v : Int32) : oRw :=
  if isR x then if ln x.toNatClampNeg = 3 then (-1000011, nI 1, ln, sz, it) else if rwB (sz x.toNatClampNeg) i (nI 1) = true then (lowB (ln x.toNatClampNeg) v, nI 0, ln, sz, fun z j => if z = x.toNatClampNeg ∧ j = i.toNatClampNeg then lowB (ln x.toNatClampNeg) v else it z j) else (-1000012, nI 2, ln, sz, it)
  else (-1000001, st, ln, sz, it)
def oDrop (ln sz : Nat → Nat) (it : Nat → Nat → Int32) (st x : Int32) : oRw :=
  if isR x then if ln x.toNatClampNeg = 3 then (-1000011, nI 1, ln, sz, it) else (nI (sz x.toNatClampNeg), nI 0, fun z => if z = x.toNatClampNeg then 3 else ln z, sz, it) else (-1000001, st, ln, sz, it)
theorem rwI_row {ln sz : Nat → Nat} {itS : Nat → Nat → Int32} {fl fz : Nat → Int32} {it : Nat → Nat → Int32} {k la m : Nat} {g : Nat → Int32} (h : rwI ln sz itS fl fz it) (hk : k < 8) (hla : la ≤ 2) (hm : m ≤ 40) (hg : ∀ j, j < 40 → g j = 0) : rwI (fun z => if z = k then la else ln z) (fun z => if z = k then m else sz z) (fun z j => if z = k then 0 else itS z j) (upd fl k (nI la)) (upd fz k (nI m)) (fun j => if j = k then g else it j) := by
  refine ⟨fun r hr => ?_, fun r j hr hj => ?_⟩
  · by_cases e : r = k
    · subst e
      simp only [pk_us, if_true]
      exact ⟨(lnC_n hla).symm, trivial, hm, by omega⟩
    · simp only [pk_un e, if_neg e]
      exact h.1 r hr
  · by_cases e : r = k
    · subst e
      simp only [if_true]
      exact hg j hj
    · simp only [if_neg e]
      exact h.2 r j hr hj
theorem rwI_set {ln sz : Nat → Nat} {itS : Nat → Nat → Int32} {fl fz : Nat → Int32} {it : Nat → Nat → Int32} {k j : Nat} {v : Int32} (h : rwI ln sz itS fl fz it) (hk : k < 8) (hj : j < 40) : rwI ln sz (fun z i => if z = k ∧ i = j then v else itS z i) fl fz (fun i => if i = k then upd (it k) j v else it i) := by
  refine ⟨h.1, fun r i hr hi => ?_⟩
  by_cases e : r = k
  · subst e
    by_cases e2 : i = j
    · subst e2; simp [pk_us]
    · simp only [if_true, pk_un e2, e2, and_false, if_false]; exact h.2 r i hr hi
  · simp only [e, if_false, false_and]; exact h.2 r i hr hi
theorem rwI_drop {ln sz : Nat → Nat} {itS : Nat → Nat → Int32} {fl fz : Nat → Int32} {it : Nat → Nat → Int32} {k : Nat} (h : rwI ln sz itS fl fz it) (hk : k < 8) : rwI (fun z => if z = k then 3 else ln z) sz itS (upd fl k (-1)) fz it := by
  refine ⟨fun r hr => ?_, h.2⟩
  by_cases e : r = k
  · subst e
    simp only [pk_us, if_true]
    exact ⟨rfl, (h.1 r hr).2.1, (h.1 r hr).2.2.1, Nat.le_refl 3⟩
  · simp only [pk_un e, if_neg e]
    exact h.1 r hr

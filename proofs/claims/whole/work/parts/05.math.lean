/-! a city as a function: 0 suspects, 1 sunday, 2 day, 3 bribed, 4 clues; of clue c: 5 + 4 c kind, 6 + 4 c tells, 7 + 4 c every, 8 + 4 c off -/
def ctK (w : Nat → Nat) (c : Nat) : Nat := w (5 + 4 * c)
def ctT (w : Nat → Nat) (c : Nat) : Nat := w (6 + 4 * c)
def ctE (w : Nat → Nat) (c : Nat) : Nat := w (7 + 4 * c)
def ctO (w : Nat → Nat) (c : Nat) : Nat := w (8 + 4 * c)
def ctAll (w : Nat → Nat) : Nat := 2 ^ w 0 - 1
def ctOth (w : Nat → Nat) (c : Nat) : Nat := ctAll w &&& (63 ^^^ ctT w c)
/-- is clue c at work on day d -/
def ctWk (w : Nat → Nat) (c d : Nat) : Bool := ctK w c == 5 || (!(ctK w c == 2 && d % 7 == w 1) && !(d % ctE w c == ctO w c))
/-- whom clue c leaves -/
def ctLv (w : Nat → Nat) (c : Nat) : Nat :=
  if ctK w c = 3 then (if (w 3).testBit c then ctOth w c else ctT w c)
  else if (w 3).testBit c then ctAll w else if ctK w c = 4 ∨ ctK w c = 5 then ctOth w c else ctT w c
/-- the first n clues that are at work -/
def ctWks (w : Nat → Nat) (d : Nat) : Nat → Nat
  | 0 => 0
  | n + 1 => ctWks w d n ||| (if ctWk w n d then 2 ^ n else 0)
/-- whom those of the first n clues leave that are among b -/
def ctLb (w : Nat → Nat) (b : Nat) : Nat → Nat
  | 0 => ctAll w
  | n + 1 => if b.testBit n then ctLb w b n &&& ctLv w n else ctLb w b n
def ctLeft (w : Nat → Nat) (d : Nat) : Nat := ctLb w (ctWks w d (w 4)) (w 4)
/-- what the class's arrays hold of it -/
def ctIs (w : Nat → Nat) (fk ft fe fo : Nat → Int32) : Prop := ∀ c, c < w 4 → fk c = nI (ctK w c) ∧ ft c = nI (ctT w c) ∧ fe c = nI (ctE w c) ∧ fo c = nI (ctO w c)
theorem ctIs_0 {w : Nat → Nat} {fk ft fe fo : Nat → Int32} (h : ctIs w fk ft fe fo) {c : Nat} (hc : c < w 4) : fk c = nI (ctK w c) := (h c hc).1
theorem ctIs_1 {w : Nat → Nat} {fk ft fe fo : Nat → Int32} (h : ctIs w fk ft fe fo) {c : Nat} (hc : c < w 4) : ft c = nI (ctT w c) := (h c hc).2.1
theorem ctIs_2 {w : Nat → Nat} {fk ft fe fo : Nat → Int32} (h : ctIs w fk ft fe fo) {c : Nat} (hc : c < w 4) : fe c = nI (ctE w c) := (h c hc).2.2.1
theorem ctIs_3 {w : Nat → Nat} {fk ft fe fo : Nat → Int32} (h : ctIs w fk ft fe fo) {c : Nat} (hc : c < w 4) : fo c = nI (ctO w c) := (h c hc).2.2.2
/-- a city, or none (all 0) -/
def ctOk (w : Nat → Nat) : Prop := w 0 ≤ 6 ∧ w 1 ≤ 6 ∧ w 2 ≤ 999 ∧ w 3 < 64 ∧ w 4 ≤ 6 ∧ ∀ c, c < w 4 → 1 ≤ ctK w c ∧ ctK w c ≤ 5 ∧ 1 ≤ ctT w c ∧ ctT w c < 64 ∧ 2 ≤ ctE w c ∧ ctE w c ≤ 4 ∧ ctO w c < ctE w c
theorem q_lset {ls : Array Slot} {nL : Nat} {l l' : List (Nat × Value)} (h : lv_has ls nL l) (e : l = l') : lv_has ls nL l' := e ▸ h
theorem q_pw (n : Nat) (h : n ≤ 6) : 1 ≤ 2 ^ n ∧ 2 ^ n ≤ 64 := by
  have : ∀ n, n < 7 → 1 ≤ 2 ^ n ∧ 2 ^ n ≤ 64 := by decide
  exact this n (by omega)
theorem q_pw6 (n : Nat) (h : n < 6) : 1 ≤ 2 ^ n ∧ 2 ^ n ≤ 32 := by
  have : ∀ n, n < 6 → 1 ≤ 2 ^ n ∧ 2 ^ n ≤ 32 := by decide
  exact this n h
theorem q_15 {k : Nat} (h1 : 1 ≤ k) (h5 : k ≤ 5) : k = 1 ∨ k = 2 ∨ k = 3 ∨ k = 4 ∨ k = 5 := by omega
theorem q_tb (a b : Nat) : a.testBit b = true ↔ a / 2 ^ b &&& 1 = 1 := by
  rw [Nat.testBit_eq_decide_div_mod_eq, decide_eq_true_iff, Nat.and_one_is_mod]
theorem q_tb_lt (a b : Nat) : a / 2 ^ b &&& 1 < 2 := by rw [Nat.and_one_is_mod]; omega
theorem q_dv_lt (a b : Nat) (h : a < 2 ^ 31) : a / 2 ^ b < 2 ^ 31 := Nat.lt_of_le_of_lt (Nat.div_le_self _ _) h
theorem q_win1 {x lo hi : Int32} (c1 : ¬ x < lo) (c2 : ¬ hi < x) : lo ≤ x ∧ x ≤ hi := ⟨fa_of_nlt c1, fa_of_nlt c2⟩
theorem q_win2 {x lo hi : Int32} (c1 : x < lo) : ¬ (lo ≤ x ∧ x ≤ hi) := fun q => (fa_of_lt c1).2.1 q.1
theorem q_win3 {x lo hi : Int32} (c2 : hi < x) : ¬ (lo ≤ x ∧ x ≤ hi) := fun q => (fa_of_lt c2).2.1 q.2
/-- a range test that held: the natural -/
theorem q_rng {x : Int32} {a b : Nat} (h : nI a ≤ x ∧ x ≤ nI b) (hb : b < 2 ^ 31) (ha : a < 2 ^ 31) : ∃ k : Nat, a ≤ k ∧ k ≤ b ∧ x = nI k := by
  have h0 : ¬ x < 0 := by
    intro q
    have h1 := Int32.le_iff_toInt_le.mp h.1
    rw [nI_toInt ha] at h1
    have h2 := Int32.lt_iff_toInt_lt.mp q
    rw [Int32.toInt_zero] at h2
    omega
  obtain ⟨j, hj, rfl⟩ := nI_of h0
  exact ⟨j, (nI_leI ha hj).mp h.1, (nI_leI hj hb).mp h.2, rfl⟩
theorem q_has1 {x : Int32} {n : Nat} (c1 : ¬ x < 0) (c2 : ¬ nI n ≤ x) (hn : n < 2 ^ 31) : ∃ c : Nat, c < n ∧ x = nI c := by
  obtain ⟨j, hj, rfl⟩ := nI_of c1
  exact ⟨j, Nat.lt_of_not_le (fun q => c2 ((nI_leI hn hj).mpr q)), rfl⟩
theorem q_has2 {x : Int32} {n : Nat} (c1 : x < 0) (hn : n < 2 ^ 31) : ¬ ∃ c : Nat, c < n ∧ x = nI c := by
  rintro ⟨c, hc, rfl⟩
  exact nI_pos (by omega) c1
theorem q_has3 {x : Int32} {n : Nat} (c2 : nI n ≤ x) (hn : n < 2 ^ 31) : ¬ ∃ c : Nat, c < n ∧ x = nI c := by
  rintro ⟨c, hc, rfl⟩
  have := (nI_leI hn (by omega)).mp c2
  omega
theorem ctWks_lt (w : Nat → Nat) (d : Nat) : ∀ n, n ≤ 6 → ctWks w d n < 64 := by
  have key : ∀ n, n ≤ 6 → ctWks w d n < 2 ^ n := by
    intro n
    induction n with
    | zero => intro _; simp [ctWks]
    | succ n ih =>
      intro h
      have h1 := ih (by omega)
      rw [ctWks]
      apply Nat.or_lt_two_pow
      · exact Nat.lt_trans h1 (Nat.pow_lt_pow_right (by decide) (by omega))
      · split
        · exact Nat.pow_lt_pow_right (by decide) (by omega)
        · exact Nat.two_pow_pos _
  intro n h
  exact Nat.lt_of_lt_of_le (key n h) (by have := (q_pw n h).2; exact this)
theorem ctOth_fin : ∀ n, n < 7 → ∀ t, t < 64 → nI (2 ^ n - 1) &&& (nI t ^^^ (-1)) = nI ((2 ^ n - 1) &&& (63 ^^^ t)) := by decide +kernel
theorem ctOth_e (w : Nat → Nat) (c : Nat) (h0 : w 0 ≤ 6) (ht : ctT w c < 64) : nI (ctAll w) &&& (nI (ctT w c) ^^^ (-1)) = nI (ctOth w c) := ctOth_fin (w 0) (by omega) _ ht
theorem ctAll_lt {w : Nat → Nat} (h0 : w 0 ≤ 6) : ctAll w < 64 := by
  have := (q_pw (w 0) h0).2
  unfold ctAll
  omega
theorem ctLv_lt {w : Nat → Nat} {c : Nat} (h0 : w 0 ≤ 6) (ht : ctT w c < 64) : ctLv w c < 64 := by
  have h1 := ctAll_lt h0
  have h2 : ctOth w c < 64 := Nat.lt_of_le_of_lt Nat.and_le_left h1
  unfold ctLv
  split <;> split <;> try split
  all_goals omega
theorem ctLb_lt {w : Nat → Nat} (h0 : w 0 ≤ 6) (b : Nat) : ∀ n, ctLb w b n < 64
  | 0 => ctAll_lt h0
  | n + 1 => by
    rw [ctLb]
    split
    · exact Nat.lt_of_le_of_lt Nat.and_le_left (ctLb_lt h0 b n)
    · exact ctLb_lt h0 b n
theorem ctLeft_lt {w : Nat → Nat} (h0 : w 0 ≤ 6) (d : Nat) : ctLeft w d < 64 := ctLb_lt h0 _ _
theorem q_c1 {α1 β : Sort _} {f : α1 → β} {a1 b1 : α1} (e1 : a1 = b1) : f a1 = f b1 := by rw [e1]
theorem q_c2 {α1 α2 β : Sort _} {f : α1 → α2 → β} {a1 b1 : α1} {a2 b2 : α2} (e1 : a1 = b1) (e2 : a2 = b2) : f a1 a2 = f b1 b2 := by rw [e1, e2]
theorem q_c3 {α1 α2 α3 β : Sort _} {f : α1 → α2 → α3 → β} {a1 b1 : α1} {a2 b2 : α2} {a3 b3 : α3} (e1 : a1 = b1) (e2 : a2 = b2) (e3 : a3 = b3) : f a1 a2 a3 = f b1 b2 b3 := by rw [e1, e2, e3]
theorem q_c4 {α1 α2 α3 α4 β : Sort _} {f : α1 → α2 → α3 → α4 → β} {a1 b1 : α1} {a2 b2 : α2} {a3 b3 : α3} {a4 b4 : α4} (e1 : a1 = b1) (e2 : a2 = b2) (e3 : a3 = b3) (e4 : a4 = b4) : f a1 a2 a3 a4 = f b1 b2 b3 b4 := by rw [e1, e2, e3, e4]
theorem q_c5 {α1 α2 α3 α4 α5 β : Sort _} {f : α1 → α2 → α3 → α4 → α5 → β} {a1 b1 : α1} {a2 b2 : α2} {a3 b3 : α3} {a4 b4 : α4} {a5 b5 : α5} (e1 : a1 = b1) (e2 : a2 = b2) (e3 : a3 = b3) (e4 : a4 = b4) (e5 : a5 = b5) : f a1 a2 a3 a4 a5 = f b1 b2 b3 b4 b5 := by rw [e1, e2, e3, e4, e5]
theorem q_c6 {α1 α2 α3 α4 α5 α6 β : Sort _} {f : α1 → α2 → α3 → α4 → α5 → α6 → β} {a1 b1 : α1} {a2 b2 : α2} {a3 b3 : α3} {a4 b4 : α4} {a5 b5 : α5} {a6 b6 : α6} (e1 : a1 = b1) (e2 : a2 = b2) (e3 : a3 = b3) (e4 : a4 = b4) (e5 : a5 = b5) (e6 : a6 = b6) : f a1 a2 a3 a4 a5 a6 = f b1 b2 b3 b4 b5 b6 := by rw [e1, e2, e3, e4, e5, e6]

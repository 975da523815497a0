/-! the class's ring of acts and the model's cities ahead of them -/
def acC (sn : Nat → Nat → Nat) (kp : Nat) (w : Nat → Nat) (i : Nat) : Nat → Nat := if i = kp then w else sn i
def acR (fs fc fb : Nat → Int32) (nx kp : Nat) (w : Nat → Nat) (sn : Nat → Nat → Nat) : Prop := ∀ i, i < kp → ctOk (sn i) ∧ ∃ so cl be : Nat, fs ((nx + 24 - kp + i) % 24) = nI so ∧ fc ((nx + 24 - kp + i) % 24) = nI cl ∧ fb ((nx + 24 - kp + i) % 24) = nI be ∧ so ≤ 3 ∧ (so = 2 ∨ so = 3 → cl < acC sn kp w (i + 1) 4) ∧ (so = 0 → 1 ≤ acC sn kp w (i + 1) 2) ∧ ctUn (acC sn kp w (i + 1)) so cl be = sn i
theorem acR_0 {fs fc fb : Nat → Int32} {nx kp : Nat} {w : Nat → Nat} {sn : Nat → Nat → Nat} (h : kp = 0) : acR fs fc fb nx kp w sn := fun i hi => absurd hi (by omega)
theorem acR_top {fs fc fb : Nat → Int32} {nx kp : Nat} {w : Nat → Nat} {sn : Nat → Nat → Nat} (h : acR fs fc fb nx kp w sn) (h0 : 0 < kp) (hk : kp ≤ 24) : ctOk (sn (kp - 1)) ∧ ∃ so cl be : Nat, fs ((nx + 24 - 1) % 24) = nI so ∧ fc ((nx + 24 - 1) % 24) = nI cl ∧ fb ((nx + 24 - 1) % 24) = nI be ∧ so ≤ 3 ∧ (so = 2 ∨ so = 3 → cl < w 4) ∧ (so = 0 → 1 ≤ w 2) ∧ ctUn w so cl be = sn (kp - 1) := by
  obtain ⟨h1, so, cl, be, a1, a2, a3, a4, a5, a6, a7⟩ := h (kp - 1) (by omega)
  rw [show nx + 24 - kp + (kp - 1) = nx + 24 - 1 by omega] at a1 a2 a3
  have e : acC sn kp w (kp - 1 + 1) = w := if_pos (by omega)
  rw [e] at a5 a6 a7
  exact ⟨h1, so, cl, be, a1, a2, a3, a4, a5, a6, a7⟩
theorem acR_pop {fs fc fb : Nat → Int32} {nx kp : Nat} {w : Nat → Nat} {sn : Nat → Nat → Nat} (h : acR fs fc fb nx kp w sn) (h0 : 0 < kp) (hk : kp ≤ 24) (hn : nx < 24) : acR fs fc fb ((nx + 24 - 1) % 24) (kp - 1) (sn (kp - 1)) sn := fun i hi => by
  obtain ⟨h1, so, cl, be, a1, a2, a3, a4, a5, a6, a7⟩ := h i (by omega)
  have e : acC sn (kp - 1) (sn (kp - 1)) (i + 1) = acC sn kp w (i + 1) := by
    unfold acC
    rw [if_neg (by omega : ¬ i + 1 = kp)]
    by_cases q : i + 1 = kp - 1
    · rw [if_pos q, q]
    · rw [if_neg q]
  have e2 : ((nx + 24 - 1) % 24 + 24 - (kp - 1) + i) % 24 = (nx + 24 - kp + i) % 24 := by omega
  rw [e, e2]
  exact ⟨h1, so, cl, be, a1, a2, a3, a4, a5, a6, a7⟩
theorem acR_push {a : acS} {w w2 : Nat → Nat} {sn : Nat → Nat → Nat} {so cl be : Nat} (h : acR a.1 a.2.1 a.2.2.1 a.2.2.2.1 a.2.2.2.2 w sn) (hn : a.2.2.2.1 < 24) (hk : a.2.2.2.2 ≤ 24) (hv : ctOk w) (h3 : so ≤ 3) (h4 : so = 2 ∨ so = 3 → cl < w2 4) (h5 : so = 0 → 1 ≤ w2 2) (hu : ctUn w2 so cl be = w) : acR (acK a so cl be).1 (acK a so cl be).2.1 (acK a so cl be).2.2.1 (acK a so cl be).2.2.2.1 (acK a so cl be).2.2.2.2 w2 (ntS sn a.2.2.2.2 w) := by
  obtain ⟨fs, fc, fb, nx, kp⟩ := a
  show acR (upd fs nx (nI so)) (upd fc nx (nI cl)) (upd fb nx (nI be)) ((nx + 1) % 24) (min (kp + 1) 24) w2 (ntS sn kp w)
  replace hn : nx < 24 := hn
  replace hk : kp ≤ 24 := hk
  replace h : acR fs fc fb nx kp w sn := h
  intro i hi
  rcases Nat.lt_or_ge kp 24 with q | q
  · rw [Nat.min_eq_left (by omega)] at hi ⊢
    have es : ∀ z, z ≤ kp → ntS sn kp w z = acC sn kp w z := fun z hz => by
      unfold ntS acC; rw [if_neg (by omega)]
    rcases Nat.lt_or_ge i kp with hi2 | hi2
    · obtain ⟨h1, so2, cl2, be2, a1, a2, a3, a4, a5, a6, a7⟩ := h i hi2
      have e1 : ((nx + 1) % 24 + 24 - (kp + 1) + i) % 24 = (nx + 24 - kp + i) % 24 := by omega
      have e2 : (nx + 24 - kp + i) % 24 ≠ nx := by omega
      have e3 : acC (ntS sn kp w) (kp + 1) w2 (i + 1) = acC sn kp w (i + 1) := (if_neg (by omega)).trans (es _ (by omega))
      have e4 : ntS sn kp w i = sn i := (es _ (by omega)).trans (if_neg (by omega))
      rw [e1, pk_un e2, pk_un e2, pk_un e2, e3, e4]
      exact ⟨h1, so2, cl2, be2, a1, a2, a3, a4, a5, a6, a7⟩
    · have ei : i = kp := by omega
      subst ei
      have e1 : ((nx + 1) % 24 + 24 - (i + 1) + i) % 24 = nx := by omega
      have e3 : acC (ntS sn i w) (i + 1) w2 (i + 1) = w2 := if_pos rfl
      have e4 : ntS sn i w i = w := (es _ (by omega)).trans (if_pos rfl)
      rw [e1, pk_us, pk_us, pk_us, e3, e4]
      exact ⟨hv, so, cl, be, rfl, rfl, rfl, h3, h4, h5, hu⟩
  · have ek : kp = 24 := by omega
    subst ek
    rw [show min (24 + 1) 24 = 24 from rfl] at hi ⊢
    have es : ∀ z, ntS sn 24 w z = if z = 23 then w else sn (z + 1) := fun z => by unfold ntS; rw [if_pos rfl]
    rcases Nat.lt_or_ge i 23 with hi2 | hi2
    · obtain ⟨h1, so2, cl2, be2, a1, a2, a3, a4, a5, a6, a7⟩ := h (i + 1) (by omega)
      have e1 : ((nx + 1) % 24 + 24 - 24 + i) % 24 = (nx + 24 - 24 + (i + 1)) % 24 := by omega
      have e2 : (nx + 24 - 24 + (i + 1)) % 24 ≠ nx := by omega
      have e3 : acC (ntS sn 24 w) 24 w2 (i + 1) = acC sn 24 w (i + 1 + 1) := by
        unfold acC
        rw [if_neg (by omega), es]
        by_cases z : i + 1 = 23
        · rw [if_pos z, if_pos (by omega)]
        · rw [if_neg z, if_neg (by omega)]
      have e4 : ntS sn 24 w i = sn (i + 1) := (es i).trans (if_neg (by omega))
      rw [e1, pk_un e2, pk_un e2, pk_un e2, e3, e4]
      exact ⟨h1, so2, cl2, be2, a1, a2, a3, a4, a5, a6, a7⟩
    · have ei : i = 23 := by omega
      subst ei
      have e1 : ((nx + 1) % 24 + 24 - 24 + 23) % 24 = nx := by omega
      have e3 : acC (ntS sn 24 w) 24 w2 (23 + 1) = w2 := if_pos rfl
      have e4 : ntS sn 24 w 23 = w := (es 23).trans (if_pos rfl)
      rw [e1, pk_us, pk_us, pk_us, e3, e4]
      exact ⟨hv, so, cl, be, rfl, rfl, rfl, h3, h4, h5, hu⟩
theorem un_br {w : Nat → Nat} {c : Nat} : ctUn (ctBr w c) 1 c (w 3) = w := by
  funext j
  unfold ctUn ctBr
  rw [if_pos rfl]
  by_cases e : j = 3
  · subst e; simp
  · simp [e]
theorem un_T {w : Nat → Nat} {c t : Nat} : ctUn (ctSet w (6 + 4 * c) t) 2 c (ctT w c) = w := by
  funext j
  unfold ctUn ctSet ctT
  rw [if_neg (by decide), if_pos rfl]
  by_cases e : j < 5
  · simp [e]
  · by_cases e2 : j = 6 + 4 * c
    · subst e2; simp; intros; omega
    · simp [e, e2]
theorem un_O {w : Nat → Nat} {c t : Nat} : ctUn (ctSet w (8 + 4 * c) t) 3 c (ctO w c) = w := by
  funext j
  unfold ctUn ctSet ctO
  rw [if_neg (by decide), if_neg (by decide), if_pos rfl]
  by_cases e : j < 5
  · simp [e]
  · by_cases e2 : j = 8 + 4 * c
    · subst e2; simp; intros; omega
    · simp [e, e2]
theorem un_D {w : Nat → Nat} {i : Nat} : ctUn (ctDay w (i + 1)) 0 0 0 = ctDay w i := by
  funext j
  unfold ctUn ctDay
  rw [if_neg (by decide), if_neg (by decide), if_neg (by decide)]
  by_cases e : j = 2
  · subst e
    show (if 2 = 2 then (if 2 = 2 then w 2 + (i + 1) else w 2) - 1 else _) = _
    rw [if_pos rfl, if_pos rfl]
    simp
  · simp [e]
theorem ctDay_0 (w : Nat → Nat) : ctDay w 0 = w := by
  funext j
  unfold ctDay
  split
  · next e => subst e; rfl
  · rfl
/-- what both sides hold of the acts: the class's ring a, the model's cities sn, kp of them -/
def acI (a : acS) (w : Nat → Nat) (sn : Nat → Nat → Nat) : Prop := a.2.2.2.1 < 24 ∧ a.2.2.2.2 ≤ 24 ∧ acR a.1 a.2.1 a.2.2.1 a.2.2.2.1 a.2.2.2.2 w sn
theorem acI_days {a : acS} {w : Nat → Nat} {sn : Nat → Nat → Nat} (h : acI a w sn) (hv : ctOk w) : ∀ n, w 2 + n ≤ 999 → acI (acD a n) (ctDay w n) (mnD sn a.2.2.2.2 w n).1 ∧ (acD a n).2.2.2.2 = (mnD sn a.2.2.2.2 w n).2
  | 0, _ => ⟨by rw [ctDay_0]; exact h, rfl⟩
  | n + 1, hn => by
    obtain ⟨⟨h1, h2, h3⟩, h4⟩ := acI_days h hv n (by omega)
    refine ⟨⟨acL_x (n + 1) h.1, acL_k (n + 1) h.2.1, ?_⟩, ?_⟩
    · have := acR_push (a := acD a n) (w := ctDay w n) (w2 := ctDay w (n + 1)) (so := 0) (cl := 0) (be := 0) h3 h1 h2 (ctOk_day hv (by omega)) (by omega) (fun q => by omega) (fun _ => by show 1 ≤ (if 2 = 2 then w 2 + (n + 1) else w 2); rw [if_pos rfl]; omega) un_D
      rw [h4] at this
      exact this
    · show min ((acD a n).2.2.2.2 + 1) 24 = min ((mnD sn a.2.2.2.2 w n).2 + 1) 24
      rw [h4]
theorem acI_push {a : acS} {w w2 : Nat → Nat} {sn : Nat → Nat → Nat} {so cl be : Nat} (h : acI a w sn) (hv : ctOk w) (h3 : so ≤ 3) (h4 : so = 2 ∨ so = 3 → cl < w2 4) (h5 : so = 0 → 1 ≤ w2 2) (hu : ctUn w2 so cl be = w) : acI (acK a so cl be) w2 (ntS sn a.2.2.2.2 w) ∧ (acK a so cl be).2.2.2.2 = min (a.2.2.2.2 + 1) 24 :=
  ⟨⟨Nat.mod_lt _ (by decide), Nat.min_le_right _ _, acR_push h.2.2 h.1 h.2.1 hv h3 h4 h5 hu⟩, rfl⟩
/-! the acts' calls: both sides answer alike, and what they hold of the acts agrees behind them -/
theorem q_cs4 {w : Nat → Nat} {c j t : Nat} (h : c < w 4) : c < ctSet w j t 4 := h
theorem sim_learn {a : acS} {w : Nat → Nat} {sn : Nat → Nat → Nat} {x t : Int32} (h : acI a w sn) (hv : ctOk w) : ∃ (r : Int32) (w2 : Nat → Nat) (a2 : acS) (sn2 : Nat → Nat → Nat), oLearn w a x t = (r, w2, a2) ∧ mLearn w sn a.2.2.2.2 x t = (r, w2, sn2, a2.2.2.2.2) ∧ acI a2 w2 sn2 := by
  unfold oLearn mLearn
  by_cases h1 : inC (w 4) x
  · rw [if_pos h1, if_pos h1]
    by_cases h2 : nI 1 ≤ t ∧ t ≤ nI (ctAll w)
    · rw [if_pos h2, if_pos h2]
      obtain ⟨c, hc, rfl⟩ := (inC_i (by have := hv.2.2.2.2.1; omega)).mpr h1
      rw [q_cl (by have := hv.2.2.2.2.1; omega)]
      exact ⟨_, _, _, _, rfl, rfl, (acI_push (so := 2) (cl := c) (be := ctT w c) (w2 := ctSet w (6 + 4 * c) _) h hv (by omega) (fun _ => q_cs4 hc) (fun q => by omega) un_T).1⟩
    · rw [if_neg h2, if_neg h2]; exact ⟨_, _, _, _, rfl, rfl, h⟩
  · rw [if_neg h1, if_neg h1]; exact ⟨_, _, _, _, rfl, rfl, h⟩
theorem sim_shift {a : acS} {w : Nat → Nat} {sn : Nat → Nat → Nat} {x t : Int32} (h : acI a w sn) (hv : ctOk w) : ∃ (r : Int32) (w2 : Nat → Nat) (a2 : acS) (sn2 : Nat → Nat → Nat), oShift w a x t = (r, w2, a2) ∧ mShift w sn a.2.2.2.2 x t = (r, w2, sn2, a2.2.2.2.2) ∧ acI a2 w2 sn2 := by
  unfold oShift mShift
  by_cases h1 : inC (w 4) x
  · rw [if_pos h1, if_pos h1]
    by_cases h2 : nI 0 ≤ t ∧ t ≤ nI (ctE w x.toNatClampNeg - 1)
    · rw [if_pos h2, if_pos h2]
      obtain ⟨c, hc, rfl⟩ := (inC_i (by have := hv.2.2.2.2.1; omega)).mpr h1
      rw [q_cl (by have := hv.2.2.2.2.1; omega)]
      exact ⟨_, _, _, _, rfl, rfl, (acI_push (so := 3) (cl := c) (be := ctO w c) (w2 := ctSet w (8 + 4 * c) _) h hv (by omega) (fun _ => q_cs4 hc) (fun q => by omega) un_O).1⟩
    · rw [if_neg h2, if_neg h2]; exact ⟨_, _, _, _, rfl, rfl, h⟩
  · rw [if_neg h1, if_neg h1]; exact ⟨_, _, _, _, rfl, rfl, h⟩
theorem sim_bribe {a : acS} {w : Nat → Nat} {sn : Nat → Nat → Nat} {x t : Int32} (h : acI a w sn) (hv : ctOk w) : ∃ (r : Int32) (w2 : Nat → Nat) (a2 : acS) (sn2 : Nat → Nat → Nat), oBribe w a x t = (r, w2, a2) ∧ mBribe w sn a.2.2.2.2 x t = (r, w2, sn2, a2.2.2.2.2) ∧ acI a2 w2 sn2 := by
  unfold oBribe mBribe
  by_cases h1 : inC (w 4) x
  · rw [if_pos h1, if_pos h1]
    by_cases h2 : inW 1 t
    · rw [if_pos h2, if_pos h2]
      by_cases h3 : (w 3).testBit x.toNatClampNeg = decide (t.toNatClampNeg = 1)
      · rw [if_pos h3, if_pos h3]; exact ⟨_, _, _, _, rfl, rfl, h⟩
      · rw [if_neg h3, if_neg h3]
        exact ⟨_, _, _, _, rfl, rfl, (acI_push h hv (by omega) (fun q => by omega) (fun q => by omega) un_br).1⟩
    · rw [if_neg h2, if_neg h2]; exact ⟨_, _, _, _, rfl, rfl, h⟩
  · rw [if_neg h1, if_neg h1]; exact ⟨_, _, _, _, rfl, rfl, h⟩
theorem sim_days {a : acS} {w : Nat → Nat} {sn : Nat → Nat → Nat} {n : Int32} (h : acI a w sn) (hv : ctOk w) : ∃ (r : Int32) (w2 : Nat → Nat) (a2 : acS) (sn2 : Nat → Nat → Nat), oDays w a n = (r, w2, a2) ∧ mDays w sn a.2.2.2.2 n = (r, w2, sn2, a2.2.2.2.2) ∧ acI a2 w2 sn2 := by
  unfold oDays mDays
  by_cases h1 : 0 < w 0
  · rw [if_pos h1, if_pos h1]
    by_cases h2 : nI 1 ≤ n ∧ n ≤ nI 24
    · rw [if_pos h2, if_pos h2]
      by_cases h3 : w 2 + n.toNatClampNeg ≤ 999
      · rw [if_pos h3, if_pos h3]
        obtain ⟨h4, h5⟩ := acI_days h hv _ h3
        exact ⟨_, _, _, _, rfl, by rw [h5], h4⟩
      · rw [if_neg h3, if_neg h3]; exact ⟨_, _, _, _, rfl, rfl, h⟩
    · rw [if_neg h2, if_neg h2]; exact ⟨_, _, _, _, rfl, rfl, h⟩
  · rw [if_neg h1, if_neg h1]; exact ⟨_, _, _, _, rfl, rfl, h⟩
/-! the trace -/
theorem trP_out : ∀ (L : List Nat) (f : Nat → Int32) (n j : Nat), j < n → trP f n L j = f j
  | [], _, _, _, _ => rfl
  | b :: L, f, n, j, h => by rw [trP, trP_out L _ (n + 1) j (by omega), pk_un (by omega)]
theorem trP_c : ∀ (L : List Nat) (f g : Nat → Int32) (n : Nat), (∀ j, j < n → f j = g j) → ∀ j, j < n + L.length → trP f n L j = trP g n L j
  | [], _, _, _, h, j, hj => h j (by simpa using hj)
  | b :: L, f, g, n, h, j, hj => by
    rw [trP, trP]
    refine trP_c L _ _ (n + 1) (fun i hi => ?_) j (by simp at hj; omega)
    by_cases e : i = n
    · subst e; rw [pk_us, pk_us]
    · rw [pk_un e, pk_un e]; exact h i (by omega)
theorem askSL_le (k : Nat) : (askSL k).length ≤ 16 := by unfold askSL; (repeat' split) <;> decide
theorem askML_le (k : Nat) : (askML k).length ≤ 16 := by unfold askML; (repeat' split) <;> decide
theorem sim_ask {w : Nat → Nat} {tf tg : Nat → Int32} {n : Nat} {x y : Int32} (hn : n ≤ 16) (h : ∀ j, j < n → tf j = tg j) : ∃ (r : Int32) (tf2 tg2 : Nat → Int32) (n2 : Nat), oAsk w tf n x y = (r, tf2, n2) ∧ oAsk w tg n x y = (r, tg2, n2) ∧ n2 ≤ 16 ∧ ∀ j, j < n2 → tf2 j = tg2 j := by
  unfold oAsk
  by_cases h1 : inC (w 4) x
  · rw [if_pos h1, if_pos h1]
    by_cases h2 : inW 1 y
    · rw [if_pos h2, if_pos h2]
      by_cases h3 : y.toNatClampNeg = 0
      · rw [if_pos h3, if_pos h3]
        exact ⟨_, _, _, _, rfl, rfl, askSL_le _, fun j hj => trP_c _ _ _ 0 (fun i hi => absurd hi (Nat.not_lt_zero i)) j (by omega)⟩
      · rw [if_neg h3, if_neg h3]
        exact ⟨_, _, _, _, rfl, rfl, askML_le _, fun j hj => trP_c _ _ _ 0 (fun i hi => absurd hi (Nat.not_lt_zero i)) j (by omega)⟩
    · rw [if_neg h2, if_neg h2]; exact ⟨_, _, _, _, rfl, rfl, hn, h⟩
  · rw [if_neg h1, if_neg h1]; exact ⟨_, _, _, _, rfl, rfl, hn, h⟩
theorem trA_c {tf tg : Nat → Int32} {n : Nat} (h : ∀ j, j < n → tf j = tg j) (x : Int32) : trA tf n x = trA tg n x := by
  unfold trA
  by_cases q : 0 ≤ x.toInt ∧ x.toInt < n
  · rw [if_pos q, if_pos q]
    refine h _ ?_
    have e : x.toNatClampNeg = x.toInt.toNat := rfl
    omega
  · rw [if_neg q, if_neg q]
/-! images: what was kept is sound -/
theorem sim_image {w w0 w1 a0 a1 : Nat → Nat} {k r : Int32} (h : oImage w w0 w1 k = (r, a0, a1)) (hv : ctOk w) (h0 : ctOk w0) (h1 : ctOk w1) : ctOk a0 ∧ ctOk a1 := by
  unfold oImage at h
  split at h
  · split at h
    · obtain ⟨-, h⟩ := Prod.mk.inj h
      split at h
      · obtain ⟨rfl, rfl⟩ := Prod.mk.inj h; exact ⟨hv, h1⟩
      · obtain ⟨rfl, rfl⟩ := Prod.mk.inj h; exact ⟨h0, hv⟩
    · obtain ⟨-, h⟩ := Prod.mk.inj h
      obtain ⟨rfl, rfl⟩ := Prod.mk.inj h; exact ⟨h0, h1⟩
  · obtain ⟨-, h⟩ := Prod.mk.inj h
    obtain ⟨rfl, rfl⟩ := Prod.mk.inj h; exact ⟨h0, h1⟩
theorem sim_restore {w w0 w1 : Nat → Nat} {sn : Nat → Nat → Nat} {fs fc fb : Nat → Int32} {nx kp : Nat} {k r : Int32} {w2 : Nat → Nat} {kp2 : Nat} (h : oRestore w w0 w1 kp k = (r, w2, kp2)) (ha : acI (fs, fc, fb, nx, kp) w sn) : acI (fs, fc, fb, nx, kp2) w2 sn ∧ (kp2 = 0 ∨ kp2 = kp) := by
  unfold oRestore at h
  by_cases h1 : nI 0 ≤ k ∧ k ≤ nI 1
  · rw [if_pos h1] at h
    by_cases h2 : 0 < (if k = nI 0 then w0 0 else w1 0)
    · rw [if_pos h2] at h
      obtain ⟨-, h⟩ := Prod.mk.inj h
      obtain ⟨-, rfl⟩ := Prod.mk.inj h
      exact ⟨⟨ha.1, Nat.zero_le _, acR_0 rfl⟩, Or.inl rfl⟩
    · rw [if_neg h2] at h
      obtain ⟨-, h⟩ := Prod.mk.inj h
      obtain ⟨rfl, rfl⟩ := Prod.mk.inj h
      exact ⟨ha, Or.inr rfl⟩
  · rw [if_neg h1] at h
    obtain ⟨-, h⟩ := Prod.mk.inj h
    obtain ⟨rfl, rfl⟩ := Prod.mk.inj h
    exact ⟨ha, Or.inr rfl⟩
theorem paIs_k {sn : Nat → Nat → Nat} {kp kp2 : Nat} {fp : Nat → Int32} (h : paIs sn kp fp) (h2 : kp2 = 0 ∨ kp2 = kp) : paIs sn kp2 fp := fun i hi => h i (by omega)
/-! the law's loop: the script's six by six -/
theorem lw_cnt {L j : Nat} (hL : L ≤ 384) (hj : j ≤ 64) : (nI L - nI 6 < nI (6 * j)) ↔ L < 6 * j + 6 := by
  have e : (nI L - nI 6).toInt = (L : Int) - 6 := by
    rw [fb_subI (by rw [nI_toInt (by omega), nI_toInt (by decide)]; omega) (by rw [nI_toInt (by omega), nI_toInt (by decide)]; omega), nI_toInt (by omega), nI_toInt (by decide)]
    rfl
  rw [Int32.lt_iff_toInt_lt, e, nI_toInt (by omega)]
  omega
theorem lw_31 (x : Int32) : ∃ k : Nat, k < 32 ∧ x &&& nI 31 = nI k := by
  refine ⟨(x.toBitVec &&& 31#32).toNat, ?_, ?_⟩
  · rw [BitVec.toNat_and]
    exact Nat.lt_of_le_of_lt Nat.and_le_right (by decide)
  · apply Int32.toBitVec_inj.mp
    apply BitVec.eq_of_toNat_eq
    show (x.toBitVec &&& (nI 31).toBitVec).toNat = (nI _).toBitVec.toNat
    rw [show (nI 31).toBitVec = 31#32 from rfl]
    show _ = (BitVec.ofNat 32 _).toNat
    rw [BitVec.toNat_ofNat, Nat.mod_eq_of_lt]
    exact BitVec.isLt _

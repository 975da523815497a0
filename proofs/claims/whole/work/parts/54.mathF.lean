/-! strike: the model's way of counting -/
def blN (W : Nat) : Nat → Nat
  | 0 => 1
  | k + 1 => blN W k * (if W.testBit k = true then 10 else 1)
theorem blN_fin : ∀ n, n < 7 → ∀ W, W < 2 ^ n → blN W n = 10 ^ bc W := by decide +kernel
theorem blN_y {W k : Nat} (h : W.testBit k = true) : blN W (k + 1) = blN W k * 10 := by rw [blN, if_pos h]
theorem blN_n {W k : Nat} (h : ¬ W.testBit k = true) : blN W (k + 1) = blN W k * 1 := by rw [blN, if_neg h]
def wyN (W g c s : Nat) : Nat → Nat
  | 0 => s
  | k + 1 => wyN W g c s k * (if W.testBit k = true then (if g.testBit k = true then c else 10 - c) else 1)
theorem wyN_1 {W g c s k : Nat} (h : ¬ W.testBit k = true) : wyN W g c s (k + 1) = wyN W g c s k * 1 := by rw [wyN, if_neg h]
theorem wyN_c {W g c s k : Nat} (h : W.testBit k = true) (h2 : g.testBit k = true) : wyN W g c s (k + 1) = wyN W g c s k * c := by rw [wyN, if_pos h, if_pos h2]
theorem wyN_d {W g c s k : Nat} (h : W.testBit k = true) (h2 : ¬ g.testBit k = true) : wyN W g c s (k + 1) = wyN W g c s k * (10 - c) := by rw [wyN, if_pos h, if_neg h2]
def wyA (W g : Nat) : Nat → Nat
  | 0 => 0
  | k + 1 => wyA W g k + (if W.testBit k = true ∧ ¬ g.testBit k = true then 1 else 0)
def wyB (W g : Nat) : Nat → Nat
  | 0 => 0
  | k + 1 => wyB W g k + (if W.testBit k = true ∧ g.testBit k = true then 1 else 0)
theorem wyN_e (W g c s : Nat) : ∀ n, wyN W g c s n = s * ((10 - c) ^ wyA W g n * c ^ wyB W g n)
  | 0 => by simp [wyN, wyA, wyB]
  | n + 1 => by
    rw [wyN, wyA, wyB, wyN_e W g c s n]
    by_cases h : W.testBit n = true
    · by_cases h2 : g.testBit n = true
      · rw [if_pos h, if_pos h2, if_neg (fun q => q.2 h2), if_pos ⟨h, h2⟩, Nat.add_zero, Nat.pow_succ, Nat.mul_assoc, Nat.mul_assoc]
      · rw [if_pos h, if_neg h2, if_pos ⟨h, h2⟩, if_neg (fun q => h2 q.2), Nat.add_zero, Nat.pow_succ, Nat.mul_assoc, Nat.mul_assoc, Nat.mul_assoc, Nat.mul_comm (c ^ wyB W g n) (10 - c)]
        rfl
    · rw [if_neg h, if_neg (fun q => h q.1), if_neg (fun q => h q.1), Nat.mul_one, Nat.add_zero, Nat.add_zero]
theorem wyA_up {W g n : Nat} (h : W < 2 ^ n) : ∀ j, wyA W g (n + j) = wyA W g n
  | 0 => rfl
  | j + 1 => by
    rw [← Nat.add_assoc, wyA, wyA_up h j, if_neg (fun q => by rw [Nat.testBit_lt_two_pow (Nat.lt_of_lt_of_le h (Nat.pow_le_pow_right (by decide) (Nat.le_add_right n j)))] at q; exact Bool.noConfusion q.1), Nat.add_zero]
theorem wyB_up {W g n : Nat} (h : W < 2 ^ n) : ∀ j, wyB W g (n + j) = wyB W g n
  | 0 => rfl
  | j + 1 => by
    rw [← Nat.add_assoc, wyB, wyB_up h j, if_neg (fun q => by rw [Nat.testBit_lt_two_pow (Nat.lt_of_lt_of_le h (Nat.pow_le_pow_right (by decide) (Nat.le_add_right n j)))] at q; exact Bool.noConfusion q.1), Nat.add_zero]
theorem wy_fin : ∀ W, W < 64 → ∀ g, g < 64 → g &&& (63 ^^^ W) = 0 → wyA W g 6 = bc W - bc g ∧ wyB W g 6 = bc g := by decide +kernel
theorem wyN_v {W g c s n : Nat} (hn : n ≤ 6) (hW : W < 2 ^ n) (hg : g < 64) (h : g &&& (63 ^^^ W) = 0) : wyN W g c s n = s * ((10 - c) ^ (bc W - bc g) * c ^ bc g) := by
  have h6 : W < 64 := Nat.lt_of_lt_of_le hW (by have := (q_pw n hn).2; exact this)
  obtain ⟨h1, h2⟩ := wy_fin W h6 g hg h
  have e1 := wyA_up (g := g) hW (6 - n)
  have e2 := wyB_up (g := g) hW (6 - n)
  rw [show n + (6 - n) = 6 by omega] at e1 e2
  rw [wyN_e, ← e1, ← e2, h1, h2]
def gsF (w : Nat → Nat) (W c : Nat) : Nat → Nat
  | 0 => 0
  | g + 1 => gsF w W c g + wyN W g c (if g &&& (63 ^^^ W) = 0 ∧ bc (ctLb w (W &&& (63 ^^^ g)) (w 4)) = 1 then 1 else 0) (w 4)
theorem gsF_y {w : Nat → Nat} {W c g : Nat} (h : g &&& (63 ^^^ W) = 0) (h2 : bc (ctLb w (W &&& (63 ^^^ g)) (w 4)) = 1) : gsF w W c (g + 1) = gsF w W c g + wyN W g c 1 (w 4) := by rw [gsF, if_pos ⟨h, h2⟩]
theorem gsF_n1 {w : Nat → Nat} {W c g : Nat} (h : 0 < g &&& (63 ^^^ W)) : gsF w W c (g + 1) = gsF w W c g + wyN W g c 0 (w 4) := by rw [gsF, if_neg (fun q => by omega)]
theorem gsF_n2 {w : Nat → Nat} {W c g : Nat} (h2 : bc (ctLb w (W &&& (63 ^^^ g)) (w 4)) ≠ 1) : gsF w W c (g + 1) = gsF w W c g + wyN W g c 0 (w 4) := by rw [gsF, if_neg (fun q => h2 q.2)]
def smF (f : Nat → Nat) : Nat → Nat
  | 0 => 0
  | n + 1 => smF f n + f n
theorem smF_c {f g : Nat → Nat} : ∀ {n}, (∀ k, k < n → f k = g k) → smF f n = smF g n
  | 0, _ => rfl
  | n + 1, h => by rw [smF, smF, smF_c (fun k hk => h k (by omega)), h n (by omega)]
theorem smF_front (f : Nat → Nat) : ∀ n, smF f (n + 1) = f 0 + smF (fun k => f (k + 1)) n
  | 0 => by simp [smF]
  | n + 1 => by rw [smF, smF_front f n, smF, Nat.add_assoc]
theorem smF_rev : ∀ (n : Nat) (f : Nat → Nat), smF (fun g => f (n - g)) (n + 1) = smF f (n + 1)
  | 0, f => by simp [smF]
  | n + 1, f => by
    rw [smF, smF_front f (n + 1), ← smF_rev n (fun k => f (k + 1)), Nat.sub_self, Nat.add_comm]
    congr 1
    exact smF_c (fun k hk => by show f (n + 1 - k) = f (n - k + 1); congr 1; omega)
theorem sub_fin : ∀ W, W < 64 → ∀ g, g < 64 → (g &&& (63 ^^^ W) = 0 → W &&& (63 ^^^ g) = W - g ∧ (W - g) &&& (63 ^^^ W) = 0 ∧ bc (W - g) = bc W - bc g ∧ bc g ≤ bc W ∧ g ≤ W) := by decide +kernel
theorem onl_bc : ∀ a, a < 64 → (onl a ≠ -1000000 ↔ bc a = 1) := by decide +kernel
def tsT (w : Nat → Nat) (W c k : Nat) : Nat := if k &&& (63 ^^^ W) = 0 ∧ onl (ctLb w k (w 4)) ≠ -1000000 then (10 - c) ^ bc k * c ^ (bc W - bc k) else 0
theorem tsF_sm (w : Nat → Nat) (W c : Nat) : ∀ n, tsF w W c n = smF (tsT w W c) n
  | 0 => rfl
  | n + 1 => by
    rw [tsF, smF, tsT, tsF_sm w W c n]
    split <;> simp
theorem gsF_sm (w : Nat → Nat) (W c : Nat) : ∀ n, gsF w W c n = smF (fun g => wyN W g c (if g &&& (63 ^^^ W) = 0 ∧ bc (ctLb w (W &&& (63 ^^^ g)) (w 4)) = 1 then 1 else 0) (w 4)) n
  | 0 => rfl
  | n + 1 => by rw [gsF, smF, gsF_sm w W c n]
theorem wyN_z {W g c n : Nat} : wyN W g c 0 n = 0 := by rw [wyN_e, Nat.zero_mul]
theorem gsF_ts {w : Nat → Nat} {W c : Nat} (h0 : w 0 ≤ 6) (h4 : w 4 ≤ 6) (hW : W < 2 ^ w 4) : gsF w W c (W + 1) = tsF w W c (W + 1) := by
  have h6 : W < 64 := Nat.lt_of_lt_of_le hW (by have := (q_pw (w 4) h4).2; exact this)
  rw [gsF_sm, tsF_sm, ← smF_rev W (tsT w W c)]
  refine smF_c (fun g hg => ?_)
  show _ = tsT w W c (W - g)
  unfold tsT
  by_cases h : g &&& (63 ^^^ W) = 0
  · obtain ⟨e1, e2, e3, e4, e5⟩ := sub_fin W h6 g (by omega) h
    rw [e1]
    by_cases h2 : bc (ctLb w (W - g) (w 4)) = 1
    · rw [if_pos ⟨h, h2⟩, if_pos ⟨e2, (onl_bc _ (ctLb_lt h0 _ _)).mpr h2⟩, wyN_v h4 hW (by omega) h, Nat.one_mul, e3, show bc W - (bc W - bc g) = bc g by omega]
    · rw [if_neg (fun q => h2 q.2), if_neg (fun q => h2 ((onl_bc _ (ctLb_lt h0 _ _)).mp q.2)), wyN_z]
  · rw [if_neg (fun q => h q.1), wyN_z]
    refine (if_neg (fun q => h ?_)).symm
    obtain ⟨e1, e2, e3, e4, e5⟩ := sub_fin W h6 (W - g) (by omega) q.1
    rwa [show W - (W - g) = g by omega] at e2
theorem ctWks_2 (w : Nat → Nat) (d : Nat) : ∀ n, ctWks w d n < 2 ^ n
  | 0 => by simp [ctWks]
  | n + 1 => by
    rw [ctWks]
    apply Nat.or_lt_two_pow
    · exact Nat.lt_trans (ctWks_2 w d n) (Nat.pow_lt_pow_right (by decide) (Nat.lt_succ_self n))
    · split
      · exact Nat.pow_lt_pow_right (by decide) (Nat.lt_succ_self n)
      · exact Nat.two_pow_pos _
theorem mx1 {g : Nat} (h : 0 < g) : g = max 1 g := (Nat.max_eq_right h).symm
/-! rota: the model's way of counting -/
def offC (w : Nat → Nat) (m : Nat) (o : Nat → Nat) : Nat → Nat := fun j => if 5 ≤ j ∧ (j - 5) % 4 = 3 ∧ (j - 5) / 4 < m then o ((j - 5) / 4) else w j
theorem offC_lo {w : Nat → Nat} {m : Nat} {o : Nat → Nat} {j : Nat} (h : j < 5) : offC w m o j = w j := if_neg (by omega)
theorem offC_K (w : Nat → Nat) (m : Nat) (o : Nat → Nat) (c : Nat) : ctK (offC w m o) c = ctK w c := if_neg (by omega)
theorem offC_T (w : Nat → Nat) (m : Nat) (o : Nat → Nat) (c : Nat) : ctT (offC w m o) c = ctT w c := if_neg (by omega)
theorem offC_E (w : Nat → Nat) (m : Nat) (o : Nat → Nat) (c : Nat) : ctE (offC w m o) c = ctE w c := if_neg (by omega)
theorem offC_O {w : Nat → Nat} {m : Nat} {o : Nat → Nat} {c : Nat} (h : c < m) : ctO (offC w m o) c = o c := by
  unfold ctO offC
  rw [if_pos (by omega), show (8 + 4 * c - 5) / 4 = c by omega]
theorem offC_o {w : Nat → Nat} {m : Nat} {o : Nat → Nat} {c : Nat} (h : c < m) : offC w m o (5 + 4 * c + 3) = o c := by
  rw [show 5 + 4 * c + 3 = 8 + 4 * c by omega]; exact offC_O h
theorem offC_e {w : Nat → Nat} {m : Nat} {o : Nat → Nat} {c : Nat} : offC w m o (5 + 4 * c + 2) = ctE w c := by
  rw [show 5 + 4 * c + 2 = 7 + 4 * c by omega]; exact offC_E w m o c
theorem offC_Lv (w : Nat → Nat) (m : Nat) (o : Nat → Nat) (c : Nat) : ctLv (offC w m o) c = ctLv w c := by
  unfold ctLv ctOth ctAll
  rw [offC_K, offC_T, offC_lo (by decide), offC_lo (by decide)]
theorem offC_Wk {w : Nat → Nat} {m : Nat} {o : Nat → Nat} {c d : Nat} (h : c < m) : ctWk (offC w m o) c d = (ctK w c == 5 || (!(ctK w c == 2 && d % 7 == w 1) && !(d % ctE w c == o c))) := by
  unfold ctWk
  rw [offC_K, offC_E, offC_O h, offC_lo (by decide)]
theorem ctOk_offC {w : Nat → Nat} {o : Nat → Nat} (h : ctOk w) (ho : ∀ c, c < w 4 → o c < ctE w c) : ctOk (offC w (w 4) o) := by
  obtain ⟨h0, h1, h2, h3, h4, hv⟩ := h
  refine ⟨by rw [offC_lo (by decide)]; exact h0, by rw [offC_lo (by decide)]; exact h1, by rw [offC_lo (by decide)]; exact h2, by rw [offC_lo (by decide)]; exact h3, by rw [offC_lo (by decide)]; exact h4, fun c hc => ?_⟩
  rw [offC_lo (by decide)] at hc
  rw [offC_K, offC_T, offC_E, offC_O hc]
  have := hv c hc
  have := ho c hc
  omega
theorem mwIs_off {w : Nat → Nat} {m c v : Nat} {o : Nat → Nat} {ga : Nat → Int32} (h : mwIs (offC w m o) ga) (hc : c < m) : mwIs (offC w m (fun z => if z = c then v else o z)) (upd ga (5 + 4 * c + 3) (nI v)) := fun k hk => by
  by_cases e : k = 5 + 4 * c + 3
  · subst e; rw [pk_us, offC_o hc, if_pos rfl]
  · rw [pk_un e, h k hk]
    unfold offC
    by_cases q : 5 ≤ k ∧ (k - 5) % 4 = 3 ∧ (k - 5) / 4 < m
    · rw [if_pos q, if_pos q]
      show nI (o ((k - 5) / 4)) = nI (if (k - 5) / 4 = c then v else o ((k - 5) / 4))
      rw [if_neg (by omega)]
    · rw [if_neg q, if_neg q]
theorem mwIs_o0 {w : Nat → Nat} {o : Nat → Nat} {ga : Nat → Int32} (h : mwIs w ga) : mwIs (offC w 0 o) ga := fun k hk => by
  rw [h k hk, offC, if_neg (by omega)]
theorem mwIs_oz {w : Nat → Nat} {c : Nat} {ga : Nat → Int32} (h : mwIs (offC w c (fun _ => 0)) ga) : mwIs (offC w (c + 1) (fun _ => 0)) (upd ga (5 + 4 * c + 3) (nI 0)) := fun k hk => by
  by_cases e : k = 5 + 4 * c + 3
  · subst e; rw [pk_us, offC_o (Nat.lt_succ_self c)]
  · rw [pk_un e, h k hk]
    unfold offC
    by_cases q : 5 ≤ k ∧ (k - 5) % 4 = 3 ∧ (k - 5) / 4 < c
    · rw [if_pos q, if_pos ⟨q.1, q.2.1, by omega⟩]
    · rw [if_neg q, if_neg (by omega)]
/-- how many of the first n days are sure -/
def sdN (w : Nat → Nat) : Nat → Nat
  | 0 => 0
  | d + 1 => sdN w d + (if bc (ctLeft w (w 2 + d)) = 1 then 1 else 0)
theorem sdN_y {w : Nat → Nat} {d : Nat} (h : bc (ctLeft w (w 2 + d)) = 1) : sdN w (d + 1) = sdN w d + 1 := by rw [sdN, if_pos h]
theorem sdN_n {w : Nat → Nat} {d : Nat} (h : bc (ctLeft w (w 2 + d)) ≠ 1) : sdN w (d + 1) = sdN w d + 0 := by rw [sdN, if_neg h]
theorem sdN_le (w : Nat → Nat) : ∀ n, sdN w n ≤ n
  | 0 => Nat.le_refl 0
  | n + 1 => by
    have := sdN_le w n
    rw [sdN]
    split <;> omega
theorem ctWks_b (w : Nat → Nat) (d m : Nat) : ∀ n, (ctWks w d n).testBit m = (decide (m < n) && ctWk w m d)
  | 0 => by simp [ctWks]
  | n + 1 => by
    rw [ctWks, Nat.testBit_or, ctWks_b w d m n]
    by_cases h : ctWk w n d = true
    · rw [if_pos h, Nat.testBit_two_pow]
      by_cases e : n = m
      · subst e; simp [h]
      · rw [decide_eq_false e, Bool.or_false]
        congr 1
        exact decide_eq_decide.mpr ⟨fun q => by omega, fun q => by omega⟩
    · rw [if_neg h, Nat.zero_testBit, Bool.or_false]
      by_cases e : m = n
      · subst e; simp [h]
      · congr 1
        exact decide_eq_decide.mpr ⟨fun q => by omega, fun q => by omega⟩
theorem awN_b (w : Nat → Nat) (c d : Nat) : ∀ n, (awN w c n).testBit d = (decide (d < n) && !ctWk w c (w 2 + d))
  | 0 => by simp [awN]
  | n + 1 => by
    rw [awN]
    by_cases h : ctWk w c (w 2 + n) = true
    · rw [if_pos h, awN_b w c d n]
      by_cases e : d = n
      · subst e; simp [h]
      · congr 1
        exact decide_eq_decide.mpr ⟨fun q => by omega, fun q => by omega⟩
    · rw [if_neg h, Nat.testBit_or, awN_b w c d n, Nat.one_mul, Nat.testBit_two_pow]
      by_cases e : d = n
      · subst e; simp [h]
      · rw [decide_eq_false (show ¬ n = d from fun q => e q.symm), Bool.or_false]
        congr 1
        exact decide_eq_decide.mpr ⟨fun q => by omega, fun q => by omega⟩
theorem ctOff_Wk (w : Nat → Nat) (v c d : Nat) : ctWk (ctOff w (fun _ => v)) c d = (ctK w c == 5 || (!(ctK w c == 2 && d % 7 == w 1) && !(d % ctE w c == v))) := by
  have e1 : ctK (ctOff w (fun _ => v)) c = ctK w c := by unfold ctK ctOff; rw [if_neg (by omega), if_neg (by omega)]
  have e2 : ctE (ctOff w (fun _ => v)) c = ctE w c := by unfold ctE ctOff; rw [if_neg (by omega), if_neg (by omega)]
  have e3 : ctO (ctOff w (fun _ => v)) c = v := by unfold ctO ctOff; rw [if_neg (by omega), if_pos (by omega)]
  have e4 : ctOff w (fun _ => v) 1 = w 1 := rfl
  unfold ctWk
  rw [e1, e2, e3, e4]
theorem pmN_b {w : Nat → Nat} {n : Nat} {o : Nat → Nat} {s d : Nat} (hs : s < w 0) (hd : d < n) : ∀ m, m ≤ w 4 → (pmN w n o m s).testBit d = (ctLb (offC w (w 4) o) (ctWks (offC w (w 4) o) (w 2 + d) (w 4)) m).testBit s
  | 0, _ => by
    rw [pmN, ctLb, Nat.one_mul, Nat.testBit_two_pow_sub_one]
    unfold ctAll
    rw [Nat.testBit_two_pow_sub_one, offC_lo (by decide), decide_eq_true hd, decide_eq_true hs]
  | m + 1, hm => by
    rw [pmN, Nat.testBit_and, pmN_b hs hd m (by omega), ctLb, ctWks_b, decide_eq_true (by omega : m < w 4), Bool.true_and, offC_Wk (by omega : m < w 4)]
    have e : (spN w n m (o m) s).testBit d = ((ctLv w m).testBit s || !(ctK w m == 5 || (!(ctK w m == 2 && (w 2 + d) % 7 == w 1) && !((w 2 + d) % ctE w m == o m)))) := by
      unfold spN
      by_cases h : (ctLv w m).testBit s = true
      · rw [if_pos h, Nat.one_mul, Nat.testBit_two_pow_sub_one, h, decide_eq_true hd, Bool.true_or]
      · rw [if_neg h, awN_b, decide_eq_true hd, Bool.true_and, ctOff_Wk, Bool.eq_false_iff.mpr h, Bool.false_or]
        rfl
    rw [e]
    generalize (ctK w m == 5 || (!(ctK w m == 2 && (w 2 + d) % 7 == w 1) && !((w 2 + d) % ctE w m == o m))) = B
    cases B
    · rw [if_neg Bool.noConfusion]; simp
    · rw [if_pos rfl, Nat.testBit_and, offC_Lv]; simp
theorem pmN_0 {w : Nat → Nat} {n : Nat} {o : Nat → Nat} {s d : Nat} (hd : n ≤ d) : ∀ m, (pmN w n o m s).testBit d = false
  | 0 => by rw [pmN, Nat.one_mul, Nat.testBit_two_pow_sub_one]; exact decide_eq_false (by omega)
  | m + 1 => by rw [pmN, Nat.testBit_and, pmN_0 hd m, Bool.false_and]
def cnB (f : Nat → Nat) (d : Nat) : Nat → Nat
  | 0 => 0
  | k + 1 => cnB f d k + (if (f k).testBit d = true then 1 else 0)
theorem onF_b (f : Nat → Nat) (d : Nat) : ∀ k, (onF f k).testBit d = decide (0 < cnB f d k)
  | 0 => by simp [onF, cnB]
  | k + 1 => by
    rw [onF, Nat.testBit_or, onF_b f d k, cnB]
    cases (f k).testBit d
    · simp
    · simp
theorem moF_b (f : Nat → Nat) (d : Nat) : ∀ k, (moF f k).testBit d = decide (2 ≤ cnB f d k)
  | 0 => by simp [moF, cnB]
  | k + 1 => by
    rw [moF, Nat.testBit_or, Nat.testBit_and, onF_b f d k, moF_b f d k, cnB]
    cases (f k).testBit d
    · simp
    · rw [Bool.and_true, if_pos rfl, Bool.eq_iff_iff]
      simp only [Bool.or_eq_true, decide_eq_true_eq]
      omega
theorem bcN_t (X k : Nat) : bcN X (k + 1) = bcN X k + (if X.testBit k = true then 1 else 0) := by
  rw [bcN, Nat.testBit_eq_decide_div_mod_eq]
  by_cases h : X / 2 ^ k % 2 = 1
  · rw [h, if_pos (decide_eq_true rfl)]
  · rw [if_neg (by rw [decide_eq_false h]; exact Bool.noConfusion), show X / 2 ^ k % 2 = 0 by omega]
theorem bcN_up {L k : Nat} (h : L < 2 ^ k) : ∀ j, bcN L (k + j) = bcN L k
  | 0 => rfl
  | j + 1 => by
    rw [← Nat.add_assoc, bcN_t, bcN_up h j, Nat.testBit_lt_two_pow (Nat.lt_of_lt_of_le h (Nat.pow_le_pow_right (by decide) (Nat.le_add_right k j)))]
    rfl
theorem cnB_bc {f : Nat → Nat} {d L : Nat} : ∀ {k}, (∀ s, s < k → (f s).testBit d = L.testBit s) → cnB f d k = bcN L k
  | 0, _ => rfl
  | k + 1, h => by rw [cnB, bcN_t, cnB_bc (fun s hs => h s (by omega)), h k (by omega)]
theorem cnB_0 {f : Nat → Nat} {d : Nat} : ∀ {k}, (∀ s, s < k → (f s).testBit d = false) → cnB f d k = 0
  | 0, _ => rfl
  | k + 1, h => by rw [cnB, cnB_0 (fun s hs => h s (by omega)), h k (by omega)]; rfl
theorem ctLb_2 (w : Nat → Nat) (b : Nat) : ∀ n, ctLb w b n < 2 ^ w 0
  | 0 => by
    have := Nat.two_pow_pos (w 0)
    rw [ctLb, ctAll]; omega
  | n + 1 => by
    rw [ctLb]
    split
    · exact Nat.lt_of_le_of_lt Nat.and_le_left (ctLb_2 w b n)
    · exact ctLb_2 w b n
theorem su_bit {w : Nat → Nat} {n : Nat} {o : Nat → Nat} {d : Nat} (hv : ctOk w) (hd : d < 14) : (onF (pmN w n o (w 4)) (w 0) &&& (16383 ^^^ moF (pmN w n o (w 4)) (w 0))).testBit d = (decide (d < n) && decide (bc (ctLeft (offC w (w 4) o) (w 2 + d)) = 1)) := by
  rw [Nat.testBit_and, Nat.testBit_xor, onF_b, moF_b, show (16383 : Nat) = 2 ^ 14 - 1 from rfl, Nat.testBit_two_pow_sub_one, decide_eq_true hd]
  rcases Nat.lt_or_ge d n with h | h
  · rw [cnB_bc (L := ctLeft (offC w (w 4) o) (w 2 + d)) (fun s hs => by rw [pmN_b hs h (w 4) (Nat.le_refl _)]; unfold ctLeft; rw [offC_lo (by decide : 4 < 5)])]
    have h2 := ctLb_2 (offC w (w 4) o) (ctWks (offC w (w 4) o) (w 2 + d) (offC w (w 4) o 4)) (offC w (w 4) o 4)
    rw [offC_lo (by decide : 0 < 5)] at h2
    have h3 := bcN_up h2 (14 - w 0)
    rw [show w 0 + (14 - w 0) = 14 by have := hv.1; omega] at h3
    have h4 : bcN (ctLeft (offC w (w 4) o) (w 2 + d)) (w 0) = bc (ctLeft (offC w (w 4) o) (w 2 + d)) := h3.symm
    rw [h4, decide_eq_true h, Bool.true_and, Bool.true_xor, Bool.eq_iff_iff]
    simp only [Bool.and_eq_true, decide_eq_true_eq, Bool.not_eq_true', decide_eq_false_iff_not]
    omega
  · rw [cnB_0 (fun s hs => pmN_0 h (w 4)), decide_eq_false (by omega : ¬ d < n)]
    rfl
theorem su_min {w : Nat → Nat} {n : Nat} {o : Nat → Nat} (hv : ctOk w) : ∀ k, k ≤ 14 → bcN (onF (pmN w n o (w 4)) (w 0) &&& (16383 ^^^ moF (pmN w n o (w 4)) (w 0))) k = sdN (offC w (w 4) o) (min k n)
  | 0, _ => by rw [Nat.zero_min]; rfl
  | k + 1, hk => by
    rw [bcN_t, su_min hv k (by omega), su_bit hv (by omega)]
    rcases Nat.lt_or_ge k n with h | h
    · rw [Nat.min_eq_left (by omega), Nat.min_eq_left (by omega), sdN, decide_eq_true h, Bool.true_and, offC_lo (by decide : 2 < 5)]
      simp only [decide_eq_true_eq]
    · rw [Nat.min_eq_right (by omega), Nat.min_eq_right (by omega), decide_eq_false (by omega : ¬ k < n)]
      rfl
theorem suN_e {w : Nat → Nat} {n : Nat} {o : Nat → Nat} (hv : ctOk w) (hn : n ≤ 14) : suN w n o = sdN (offC w (w 4) o) n := by
  have := su_min (n := n) (o := o) hv 14 (Nat.le_refl _)
  rw [Nat.min_eq_right hn] at this
  exact this
/-! how far the rotas go -/
def rk (o : Nat → Nat) : Nat → Nat
  | 0 => 0
  | m + 1 => 4 * rk o m + o m
theorem rk_c {o o2 : Nat → Nat} : ∀ {m}, (∀ z, z < m → o z = o2 z) → rk o m = rk o2 m
  | 0, _ => rfl
  | m + 1, h => by rw [rk, rk, rk_c (fun z hz => h z (by omega)), h m (by omega)]
theorem rk_lt {o : Nat → Nat} : ∀ {m}, (∀ z, z < m → o z < 4) → rk o m < 4 ^ m
  | 0, _ => (by decide : (0 : Nat) < 1)
  | m + 1, h => by
    have h1 := rk_lt (fun z hz => h z (by omega) : ∀ z, z < m → o z < 4)
    have h2 := h m (by omega)
    rw [rk, Nat.pow_succ]
    omega
theorem rk_46 {o : Nat → Nat} {m : Nat} (hm : m ≤ 6) (h : ∀ z, z < m → o z < 4) : rk o m < 4096 := by
  have h1 := rk_lt h
  have h2 : 4 ^ m ≤ 4 ^ 6 := Nat.pow_le_pow_right (by decide) hm
  have h3 : (4 : Nat) ^ 6 = 4096 := by decide
  omega
theorem otN_keep {e : Nat → Nat} : ∀ (m : Nat) (o : Nat → Nat) (o2 : Nat → Nat) (c : Nat), otN e m o = some (o2, c) → ∀ z, m ≤ z → o2 z = o z
  | 0, o, o2, c, h, z, hz => by rw [otN] at h; exact absurd h (by simp)
  | m + 1, o, o2, c, h, z, hz => by
    rw [otN] at h
    split at h
    · have h2 := (Prod.mk.inj (Option.some.inj h)).1
      rw [← h2]
      exact if_neg (by omega)
    · rw [otN_keep m _ o2 c h z (by omega)]
      exact if_neg (by omega)
theorem otN_rk {e : Nat → Nat} : ∀ (m : Nat) (o : Nat → Nat) (o2 : Nat → Nat) (c : Nat), otN e m o = some (o2, c) → (∀ z, z < m → o z < 4) → rk o m < rk o2 m
  | 0, o, o2, c, h, hb => by rw [otN] at h; exact absurd h (by simp)
  | m + 1, o, o2, c, h, hb => by
    rw [otN] at h
    split at h
    · have h2 := (Prod.mk.inj (Option.some.inj h)).1
      rw [← h2, rk, rk, rk_c (o := fun z => if z = m then o m + 1 else o z) (o2 := o) (fun z hz => if_neg (by omega))]
      show 4 * rk o m + o m < 4 * rk o m + (if m = m then o m + 1 else o m)
      rw [if_pos rfl]
      omega
    · have h1 := otN_rk m _ o2 c h (fun z hz => by show (if z = m then 0 else o z) < 4; rw [if_neg (by omega)]; exact hb z (by omega))
      have h2 := otN_keep m _ o2 c h m (Nat.le_refl m)
      rw [show (if m = m then 0 else o m) = 0 from if_pos rfl] at h2
      have h3 : rk (fun z => if z = m then 0 else o z) m = rk o m := rk_c (fun z hz => if_neg (by omega))
      have h4 := hb m (by omega)
      rw [h3] at h1
      rw [rk, rk]
      omega
theorem otN_lt {e : Nat → Nat} : ∀ (m : Nat) (o : Nat → Nat) (o2 : Nat → Nat) (c : Nat), otN e m o = some (o2, c) → (∀ z, z < m → o z < e z) → ∀ z, z < m → o2 z < e z
  | 0, o, o2, c, h, hb, z, hz => absurd hz (Nat.not_lt_zero z)
  | m + 1, o, o2, c, h, hb, z, hz => by
    rw [otN] at h
    split at h
    · next h9 =>
      have h2 := (Prod.mk.inj (Option.some.inj h)).1
      rw [← h2]
      show (if z = m then o m + 1 else o z) < e z
      by_cases q : z = m
      · subst q; rw [if_pos rfl]; exact h9
      · rw [if_neg q]; exact hb z hz
    · by_cases q : z = m
      · subst q
        rw [otN_keep z _ o2 c h z (Nat.le_refl z)]
        show (if z = z then 0 else o z) < e z
        rw [if_pos rfl]
        exact Nat.lt_of_le_of_lt (Nat.zero_le _) (hb z (by omega))
      · exact otN_lt m _ o2 c h (fun y hy => by show (if y = m then 0 else o y) < e y; rw [if_neg (by omega)]; exact hb y (by omega)) z (by omega)
def moM (M : Nat) : Int32 := if M = 0 then -1000000 else nI (M - 1)
theorem moM_c {M s : Nat} (hM : M ≤ 15) (hs : s ≤ 14) : nI s ≤ moM M ↔ ¬ M < s + 1 := by
  have : ∀ M, M < 16 → ∀ s, s < 15 → (nI s ≤ moM M ↔ ¬ M < s + 1) := by decide +kernel
  exact this M (by omega) s (by omega)
theorem moM_s (s : Nat) : nI s = moM (s + 1) := by
  unfold moM
  rw [if_neg (by omega), Nat.add_sub_cancel]
theorem moM_m {M : Nat} (h : 0 < M) : moM M = moC M := by
  unfold moM moC
  rw [if_neg (by omega), if_neg (by omega)]

theorem q_05 (y : Int32) : y = nI 0 ∨ y = nI 1 ∨ y = nI 2 ∨ y = nI 3 ∨ y = nI 4 ∨ y = nI 5 ∨ ((y.toInt < 0 ∨ 5 < y.toInt) ∧ ¬ y = nI 0 ∧ ¬ y = nI 1 ∧ ¬ y = nI 2 ∧ ¬ y = nI 3 ∧ ¬ y = nI 4 ∧ ¬ y = nI 5) := by
  by_cases h0 : y.toInt < 0
  · refine Or.inr (Or.inr (Or.inr (Or.inr (Or.inr (Or.inr ⟨Or.inl h0, ?_, ?_, ?_, ?_, ?_, ?_⟩))))) <;> (intro e; rw [e, nI_toInt (by decide)] at h0; omega)
  · obtain ⟨j, hj, rfl⟩ := nI_of (x := y) (fun q => h0 (by have := Int32.lt_iff_toInt_lt.mp q; rw [Int32.toInt_zero] at this; exact this))
    by_cases h5 : j ≤ 5
    · rcases (show j = 0 ∨ j = 1 ∨ j = 2 ∨ j = 3 ∨ j = 4 ∨ j = 5 by omega) with rfl | rfl | rfl | rfl | rfl | rfl <;> simp
    · refine Or.inr (Or.inr (Or.inr (Or.inr (Or.inr (Or.inr ⟨Or.inr (by rw [nI_toInt hj]; omega), ?_, ?_, ?_, ?_, ?_, ?_⟩))))) <;> (rw [nI_eq hj (by decide)]; omega)
def oClue (w : Nat → Nat) (x y : Int32) : Int32 :=
  if inC (w 4) x then if y = nI 0 then nI (ctT w x.toNatClampNeg) else if y = nI 1 then nI (ctE w x.toNatClampNeg) else if y = nI 2 then nI (ctO w x.toNatClampNeg) else if y = nI 3 then (if (w 3).testBit x.toNatClampNeg = true then nI 1 else nI 0)
    else if y = nI 4 then (if ctWk w x.toNatClampNeg (w 2) = true then nI 1 else nI 0) else if y = nI 5 then nI (ctLv w x.toNatClampNeg) else -1000001 else -1000001
abbrev inW (n : Nat) (x : Int32) : Prop := nI 0 ≤ x ∧ x ≤ nI n
def oAhead (w : Nat → Nat) (d y : Int32) : Int32 :=
  if 0 < w 0 then if inW 99 d then if inW 2 y then if y.toNatClampNeg = 0 then nI (ctLeft w (w 2 + d.toNatClampNeg)) else if y.toNatClampNeg = 1 then nI (ctWks w (w 2 + d.toNatClampNeg) (w 4)) else onl (ctLeft w (w 2 + d.toNatClampNeg))
    else -1000001 else -1000001 else -1000002
/-- the first of the days from d on, k of them, on which t are left -/
def fsN (w : Nat → Nat) (t : Nat) : Nat → Nat → Int32
  | 0, _ => -1000000
  | k + 1, d => if bc (ctLeft w (w 2 + d)) = t then nI d else fsN w t k (d + 1)
theorem fsN_t {w : Nat → Nat} {t d : Nat} (h : d < 100) (h2 : bc (ctLeft w (w 2 + d)) = t) : fsN w t (100 - d) d = nI d := by
  rw [show 100 - d = (100 - (d + 1)) + 1 by omega, fsN, if_pos h2]
theorem fsN_s {w : Nat → Nat} {t d : Nat} (h : d < 100) (h2 : bc (ctLeft w (w 2 + d)) ≠ t) : fsN w t (100 - d) d = fsN w t (100 - (d + 1)) (d + 1) := by
  rw [show 100 - d = (100 - (d + 1)) + 1 by omega, fsN, if_neg h2]
theorem fsN_0 {w : Nat → Nat} {t d : Nat} (h : 100 ≤ d) : fsN w t (100 - d) d = -1000000 := by
  rw [show 100 - d = 0 by omega]; rfl
def oFirst (w : Nat → Nat) (y : Int32) : Int32 := if 0 < w 0 then if inW 1 y then fsN w (1 - y.toNatClampNeg) 100 0 else -1000001 else -1000002
/-- WHEN: the best of the first days (99: none), how many are left then -/
def whS (w : Nat → Nat) (s : Nat) : Nat → Nat × Nat
  | 0 => (99, 1)
  | d + 1 => if (ctLeft w (w 2 + d)).testBit s = true ∧ (whS w s d).2 < bc (ctLeft w (w 2 + d)) then (d, bc (ctLeft w (w 2 + d))) else whS w s d
def whB (w : Nat → Nat) (s d : Nat) : Nat := (whS w s d).1
def whM (w : Nat → Nat) (s d : Nat) : Nat := (whS w s d).2
theorem whB_f1 {w : Nat → Nat} {s d : Nat} (h : ¬ (ctLeft w (w 2 + d)).testBit s = true) : whB w s (d + 1) = whB w s d := by unfold whB; rw [whS, if_neg (fun q => h q.1)]
theorem whM_f1 {w : Nat → Nat} {s d : Nat} (h : ¬ (ctLeft w (w 2 + d)).testBit s = true) : whM w s (d + 1) = whM w s d := by unfold whM; rw [whS, if_neg (fun q => h q.1)]
theorem whB_f2 {w : Nat → Nat} {s d : Nat} (h : ¬ whM w s d < bc (ctLeft w (w 2 + d))) : whB w s (d + 1) = whB w s d := by unfold whB; rw [whS, if_neg (fun q => h q.2)]
theorem whM_f2 {w : Nat → Nat} {s d : Nat} (h : ¬ whM w s d < bc (ctLeft w (w 2 + d))) : whM w s (d + 1) = whM w s d := by unfold whM; rw [whS, if_neg (fun q => h q.2)]
theorem whB_t {w : Nat → Nat} {s d : Nat} (h : (ctLeft w (w 2 + d)).testBit s = true) (h2 : whM w s d < bc (ctLeft w (w 2 + d))) : whB w s (d + 1) = d := by unfold whB; rw [whS, if_pos ⟨h, h2⟩]
theorem whM_t {w : Nat → Nat} {s d : Nat} (h : (ctLeft w (w 2 + d)).testBit s = true) (h2 : whM w s d < bc (ctLeft w (w 2 + d))) : whM w s (d + 1) = bc (ctLeft w (w 2 + d)) := by unfold whM; rw [whS, if_pos ⟨h, h2⟩]
def whC (b : Nat) : Int32 := if b = 99 then -1000000 else nI b
theorem whC_n {b : Nat} (h : b ≠ 99) : whC b = nI b := if_neg h
def oWhen (w : Nat → Nat) (s n : Int32) : Int32 := if inC (w 0) s then if nI 1 ≤ n ∧ n ≤ nI 60 then whC (whB w s.toNatClampNeg n.toNatClampNeg) else -1000001 else -1000001
theorem inC_w {n : Nat} {x : Int32} (hn : n ≤ 6) : (nI 0 ≤ x ∧ x ≤ nI n - nI 1) ↔ inC n x := by
  rcases Nat.eq_zero_or_pos n with h | h
  · subst h
    rw [show nI 0 - nI 1 = -1 by decide]
    constructor
    · intro q
      have h1 := Int32.le_iff_toInt_le.mp q.1
      have h2 := Int32.le_iff_toInt_le.mp q.2
      rw [show (nI 0).toInt = 0 by decide] at h1
      rw [show (-1 : Int32).toInt = -1 by decide] at h2
      omega
    · intro q
      exact absurd q.2 (fun r => absurd q.1 (fa_of_lt r).2.1)
  · rw [pk_sub h]
    constructor
    · intro q
      obtain ⟨k, -, h2, rfl⟩ := q_rng q (by omega) (by decide)
      exact (inC_i (by omega)).mp ⟨k, by omega, rfl⟩
    · intro q
      obtain ⟨k, hk, rfl⟩ := (inC_i (by omega)).mpr q
      exact ⟨(nI_leI (by decide) (by omega)).mpr (Nat.zero_le _), (nI_leI (by omega) (by omega)).mpr (by omega)⟩
theorem fwF_l64 (w : Nat → Nat) (W L k : Nat) (h : k ≤ 64) : fwF w W L k ≤ 64 := by
  have := fwF_le w W L k
  omega
def oEnough (w : Nat → Nat) (d y : Int32) : Int32 := if 0 < w 0 then if inW 99 d then if inW 1 y then
  tlS (fwF w (ctWks w (w 2 + d.toNatClampNeg) (w 4)) (ctLb w (ctWks w (w 2 + d.toNatClampNeg) (w 4)) (w 4)) (ctWks w (w 2 + d.toNatClampNeg) (w 4) + 1)) y.toNatClampNeg else -1000001 else -1000001 else -1000002
def oClash (w : Nat → Nat) (d y : Int32) : Int32 := if 0 < w 0 then if inW 99 d then if inW 1 y then
  tlS (fwF w (ctWks w (w 2 + d.toNatClampNeg) (w 4)) 0 (ctWks w (w 2 + d.toNatClampNeg) (w 4) + 1)) y.toNatClampNeg else -1000001 else -1000001 else -1000002
theorem nX6_clue_0 : ∀ w ∈ wsX60, w ∈ wsX6_clue := by decide +kernel
theorem mX6_clue_1 : Cond.fieldLink RX6 47 "ClueLeave" "city" "LClueLeave$City;" ∈ wsX6_clue := by decide +kernel
theorem nX6_clue_2 : ∀ w ∈ wsX20, w ∈ wsX6_clue := by decide +kernel
theorem mX6_clue_3 : Cond.fieldLink RX6 151 "ClueLeave$City" "tells" "[I" ∈ wsX6_clue := by decide +kernel
theorem mX6_clue_4 : Cond.fieldLink RX6 155 "ClueLeave$City" "every" "[I" ∈ wsX6_clue := by decide +kernel
theorem mX6_clue_5 : Cond.fieldLink RX6 158 "ClueLeave$City" "off" "[I" ∈ wsX6_clue := by decide +kernel
theorem mX6_clue_6 : Cond.fieldLink RX6 130 "ClueLeave$City" "day" "I" ∈ wsX6_clue := by decide +kernel
theorem mX6_clue_7 : Cond.constant RX6 66 (-1000001) ∈ wsX6_clue := by decide +kernel
set_option maxHeartbeats 4000000 in
set_option maxRecDepth 100000 in
theorem c_X6_clue (l : Launch) (D : va_G) (cy : Nat → ClassId) (x0 r0 t0 q s0 k0 j0 im : Nat) (st : Int32) (h kA tA eA oA : Nat) (w : Nat → Nat) (fk ft fe fo : Nat → Int32) (hw : ctIs w fk ft fe fo) (hv : ctOk w) (x y : Int32) : q_Rd l yX6_clue wsX6_clue 4 D cy [(x0, .inr (6, [.ref r0, .ref t0, .ref q, .ref s0, .ref k0, .ref h, .ref j0, .ref im, .int (st)])), (h, .inr (2, [.int (nI (w 0)), .int (nI (w 1)), .int (nI (w 2)), .int (nI (w 4)), .int (nI (w 3)), .ref kA, .ref tA, .ref eA, .ref oA])), (kA, .inl (cy 0, 6, .inl fk)), (tA, .inl (cy 0, 6, .inl ft)), (eA, .inl (cy 0, 6, .inl fe)), (oA, .inl (cy 0, 6, .inl fo))] [.ref x0, .int (x), .int (y)] (fun r => r = oClue w x y) := by
  refine q_rd_of (cc := cX6_clue) (maxL := 3) (ret := (some .int)) (by decide) rfl (Nat.le_of_ble_eq_true rfl) ?_
  intro pg en s mi args below meth cd hC hP hK ls hl
  obtain ⟨hx, hb, hr, hml, hown, hts, hlocks⟩ := hC
  have hl : lv_has ls 3 [(0, .ref x0), (1, .int (x)), (2, .int (y))] := hl
  obtain ⟨hv0, hv1, hv2, hv3, hv4, hvc⟩ := id hv
  refine lv_aload_n hx hb dX6_clue_0 rfl (lv_at hl 0 rfl) ?_
  refine va_get (D := D) (ci := 6) (v := .ref h) (C := RX6) (T := TX6) (N := 9) hx hb hts nX6_clue_0 hown hK.1 hP 0 rfl rfl 5 (by decide) (hts _ mX6_clue_1) (fun _ h9 => h9) rfl dX6_clue_1 ?_
  refine lv_iload_n hx hb dX6_clue_4 rfl (lv_at hl 1 rfl) ?_
  refine q_rV (As := [.int (x)]) (rest := []) ⟨hx, hb, hml, hown, hts⟩ (c_X2_has l D cy h kA tA eA oA w fk ft fe fo hw hv x) (cwV 1 hts gX6_clue_X2_has rfl rfl rfl (by decide +kernel) ⟨Nat.le_of_ble_eq_true rfl, Nat.le_of_ble_eq_true rfl⟩) hP hK [1, 2, 3, 4, 5] rfl 1 rfl rfl rfl rfl hl.1 rfl (Nat.le_of_ble_eq_true rfl) dX6_clue_5 ⟨Nat.zero_le _, Nat.zero_le _⟩ (fun r1 hr1 => ?_)
  rcases hr1 with ⟨rfl, b2⟩ | ⟨rfl, b2⟩
  · replace b2 := (inC_i (by omega)).mp b2
    refine lv_if_ne (tgt := 14) hx hb dX6_clue_8 (by decide) (fun _ => ?_) (fun c9 => absurd c9 (by decide))
    obtain ⟨c, hc, rfl⟩ := (inC_i (by omega)).mpr b2
    obtain ⟨hk1, hk5, ht1, ht2, he2, he4, ho1⟩ := hvc c hc
    refine lv_iload_n hx hb dX6_clue_14 rfl (lv_at hl 2 rfl) ?_
    rcases q_05 y with rfl | rfl | rfl | rfl | rfl | rfl | hout
    · refine lv_tableIn (off := 37) (tgt := 52) hx hb dX6_clue_15 (by decide) (by decide) (by decide) (by decide) ?_
      refine lv_aload_n hx hb dX6_clue_52 rfl (lv_at hl 0 rfl) ?_
      refine va_get (D := D) (ci := 6) (v := .ref h) (C := RX6) (T := TX6) (N := 9) hx hb hts nX6_clue_0 hown hK.1 hP 0 rfl rfl 5 (by decide) (hts _ mX6_clue_1) (fun _ h9 => h9) rfl dX6_clue_53 ?_
      refine va_get (D := D) (ci := 2) (v := .ref tA) (C := RX2) (T := TX2) (N := 9) hx hb hts nX6_clue_2 hown hK.1 hP 1 rfl rfl 6 (by decide) (hts _ mX6_clue_3) (fun _ h9 => h9) rfl dX6_clue_56 ?_
      refine lv_iload_n hx hb dX6_clue_59 rfl (lv_at hl 1 rfl) ?_
      refine q_iald (j := c) (v := nI (ctT w c)) hx hb hK hP 3 rfl (by omega) (by decide) (ctIs_1 hw (by omega)) dX6_clue_60 ?_
      exact q_iret (v := nI (ctT w c)) hx hb hr hlocks dX6_clue_61 (by unfold oClue; simp only [if_pos b2, q_cl (by omega : c < 2147483648)]; exact rfl)
    · refine lv_tableIn (off := 47) (tgt := 62) hx hb dX6_clue_15 (by decide) (by decide) (by decide) (by decide) ?_
      refine lv_aload_n hx hb dX6_clue_62 rfl (lv_at hl 0 rfl) ?_
      refine va_get (D := D) (ci := 6) (v := .ref h) (C := RX6) (T := TX6) (N := 9) hx hb hts nX6_clue_0 hown hK.1 hP 0 rfl rfl 5 (by decide) (hts _ mX6_clue_1) (fun _ h9 => h9) rfl dX6_clue_63 ?_
      refine va_get (D := D) (ci := 2) (v := .ref eA) (C := RX2) (T := TX2) (N := 9) hx hb hts nX6_clue_2 hown hK.1 hP 1 rfl rfl 7 (by decide) (hts _ mX6_clue_4) (fun _ h9 => h9) rfl dX6_clue_66 ?_
      refine lv_iload_n hx hb dX6_clue_69 rfl (lv_at hl 1 rfl) ?_
      refine q_iald (j := c) (v := nI (ctE w c)) hx hb hK hP 4 rfl (by omega) (by decide) (ctIs_2 hw (by omega)) dX6_clue_70 ?_
      exact q_iret (v := nI (ctE w c)) hx hb hr hlocks dX6_clue_71 (by unfold oClue; simp only [if_pos b2, q_cl (by omega : c < 2147483648)]; exact rfl)
    · refine lv_tableIn (off := 57) (tgt := 72) hx hb dX6_clue_15 (by decide) (by decide) (by decide) (by decide) ?_
      refine lv_aload_n hx hb dX6_clue_72 rfl (lv_at hl 0 rfl) ?_
      refine va_get (D := D) (ci := 6) (v := .ref h) (C := RX6) (T := TX6) (N := 9) hx hb hts nX6_clue_0 hown hK.1 hP 0 rfl rfl 5 (by decide) (hts _ mX6_clue_1) (fun _ h9 => h9) rfl dX6_clue_73 ?_
      refine va_get (D := D) (ci := 2) (v := .ref oA) (C := RX2) (T := TX2) (N := 9) hx hb hts nX6_clue_2 hown hK.1 hP 1 rfl rfl 8 (by decide) (hts _ mX6_clue_5) (fun _ h9 => h9) rfl dX6_clue_76 ?_
      refine lv_iload_n hx hb dX6_clue_79 rfl (lv_at hl 1 rfl) ?_
      refine q_iald (j := c) (v := nI (ctO w c)) hx hb hK hP 5 rfl (by omega) (by decide) (ctIs_3 hw (by omega)) dX6_clue_80 ?_
      exact q_iret (v := nI (ctO w c)) hx hb hr hlocks dX6_clue_81 (by unfold oClue; simp only [if_pos b2, q_cl (by omega : c < 2147483648)]; exact rfl)
    · refine lv_tableIn (off := 67) (tgt := 82) hx hb dX6_clue_15 (by decide) (by decide) (by decide) (by decide) ?_
      refine lv_aload_n hx hb dX6_clue_82 rfl (lv_at hl 0 rfl) ?_
      refine va_get (D := D) (ci := 6) (v := .ref h) (C := RX6) (T := TX6) (N := 9) hx hb hts nX6_clue_0 hown hK.1 hP 0 rfl rfl 5 (by decide) (hts _ mX6_clue_1) (fun _ h9 => h9) rfl dX6_clue_83 ?_
      refine lv_iload_n hx hb dX6_clue_86 rfl (lv_at hl 1 rfl) ?_
      refine q_rV (As := [.int (nI c)]) (rest := []) ⟨hx, hb, hml, hown, hts⟩ (c_X2_isBribed l D cy h kA tA eA oA w fk ft fe fo hw hv c (by omega)) (cwV 1 hts gX6_clue_X2_isBribed rfl rfl rfl (by decide +kernel) ⟨Nat.le_of_ble_eq_true rfl, Nat.le_of_ble_eq_true rfl⟩) hP hK [1, 2, 3, 4, 5] rfl 1 rfl rfl rfl rfl hl.1 rfl (Nat.le_of_ble_eq_true rfl) dX6_clue_87 ⟨Nat.zero_le _, Nat.zero_le _⟩ (fun r3 hr3 => ?_)
      rcases hr3 with ⟨rfl, b4⟩ | ⟨rfl, b4⟩
      · have _ := b4
        refine lv_if_eq (tgt := 97) hx hb dX6_clue_90 (by decide) (fun c9 => absurd c9 (by decide)) (fun _ => ?_)
        refine lv_iconst (v := nI 1) hx hb dX6_clue_93 (by decide) ?_
        refine lv_goto (tgt := 98) hx hb dX6_clue_94 (by decide) ?_
        exact q_iret (v := nI 1) hx hb hr hlocks dX6_clue_98 (by unfold oClue; simp only [if_pos b2, q_cl (by omega : c < 2147483648)]; exact (if_pos b4).symm)
      · have _ := b4
        refine lv_if_eq (tgt := 97) hx hb dX6_clue_90 (by decide) (fun _ => ?_) (fun c9 => absurd (by decide) c9)
        refine lv_iconst (v := nI 0) hx hb dX6_clue_97 (by decide) ?_
        exact q_iret (v := nI 0) hx hb hr hlocks dX6_clue_98 (by unfold oClue; simp only [if_pos b2, q_cl (by omega : c < 2147483648)]; exact (if_neg b4).symm)
    · refine lv_tableIn (off := 84) (tgt := 99) hx hb dX6_clue_15 (by decide) (by decide) (by decide) (by decide) ?_
      refine lv_aload_n hx hb dX6_clue_99 rfl (lv_at hl 0 rfl) ?_
      refine va_get (D := D) (ci := 6) (v := .ref h) (C := RX6) (T := TX6) (N := 9) hx hb hts nX6_clue_0 hown hK.1 hP 0 rfl rfl 5 (by decide) (hts _ mX6_clue_1) (fun _ h9 => h9) rfl dX6_clue_100 ?_
      refine lv_iload_n hx hb dX6_clue_103 rfl (lv_at hl 1 rfl) ?_
      refine lv_aload_n hx hb dX6_clue_104 rfl (lv_at hl 0 rfl) ?_
      refine va_get (D := D) (ci := 6) (v := .ref h) (C := RX6) (T := TX6) (N := 9) hx hb hts nX6_clue_0 hown hK.1 hP 0 rfl rfl 5 (by decide) (hts _ mX6_clue_1) (fun _ h9 => h9) rfl dX6_clue_105 ?_
      refine va_get (D := D) (ci := 2) (v := .int (nI (w 2))) (C := RX2) (T := TX2) (N := 9) hx hb hts nX6_clue_2 hown hK.1 hP 1 rfl rfl 2 (by decide) (hts _ mX6_clue_6) (fun _ h9 => h9) rfl dX6_clue_108 ?_
      refine q_rV (As := [.int (nI c), .int (nI (w 2))]) (rest := []) ⟨hx, hb, hml, hown, hts⟩ (c_X2_worksOn l D cy h kA tA eA oA w fk ft fe fo hw hv c (w 2) (by omega) (by omega)) (cwV 2 hts gX6_clue_X2_worksOn rfl rfl rfl (by decide +kernel) ⟨Nat.le_of_ble_eq_true rfl, Nat.le_of_ble_eq_true rfl⟩) hP hK [1, 2, 3, 4, 5] rfl 1 rfl rfl rfl rfl hl.1 rfl (Nat.le_of_ble_eq_true rfl) dX6_clue_111 ⟨Nat.zero_le _, Nat.zero_le _⟩ (fun r5 hr5 => ?_)
      rcases hr5 with ⟨rfl, b6⟩ | ⟨rfl, b6⟩
      · have _ := b6
        refine lv_if_eq (tgt := 121) hx hb dX6_clue_114 (by decide) (fun c9 => absurd c9 (by decide)) (fun _ => ?_)
        refine lv_iconst (v := nI 1) hx hb dX6_clue_117 (by decide) ?_
        refine lv_goto (tgt := 122) hx hb dX6_clue_118 (by decide) ?_
        exact q_iret (v := nI 1) hx hb hr hlocks dX6_clue_122 (by unfold oClue; simp only [if_pos b2, q_cl (by omega : c < 2147483648)]; exact (if_pos b6).symm)
      · have _ := b6
        refine lv_if_eq (tgt := 121) hx hb dX6_clue_114 (by decide) (fun _ => ?_) (fun c9 => absurd (by decide) c9)
        refine lv_iconst (v := nI 0) hx hb dX6_clue_121 (by decide) ?_
        exact q_iret (v := nI 0) hx hb hr hlocks dX6_clue_122 (by unfold oClue; simp only [if_pos b2, q_cl (by omega : c < 2147483648)]; exact (if_neg b6).symm)
    · refine lv_tableIn (off := 108) (tgt := 123) hx hb dX6_clue_15 (by decide) (by decide) (by decide) (by decide) ?_
      refine lv_aload_n hx hb dX6_clue_123 rfl (lv_at hl 0 rfl) ?_
      refine va_get (D := D) (ci := 6) (v := .ref h) (C := RX6) (T := TX6) (N := 9) hx hb hts nX6_clue_0 hown hK.1 hP 0 rfl rfl 5 (by decide) (hts _ mX6_clue_1) (fun _ h9 => h9) rfl dX6_clue_124 ?_
      refine lv_iload_n hx hb dX6_clue_127 rfl (lv_at hl 1 rfl) ?_
      refine q_rV (As := [.int (nI c)]) (rest := []) ⟨hx, hb, hml, hown, hts⟩ (c_X2_leftByOne l D cy h kA tA eA oA w fk ft fe fo hw hv c (by omega)) (cwV 1 hts gX6_clue_X2_leftByOne rfl rfl rfl (by decide +kernel) ⟨Nat.le_of_ble_eq_true rfl, Nat.le_of_ble_eq_true rfl⟩) hP hK [1, 2, 3, 4, 5] rfl 1 rfl rfl rfl rfl hl.1 rfl (Nat.le_of_ble_eq_true rfl) dX6_clue_128 ⟨Nat.zero_le _, Nat.zero_le _⟩ (fun r7 hr7 => ?_)
      obtain rfl := hr7
      exact q_iret (v := nI (ctLv w c)) hx hb hr hlocks dX6_clue_131 (by unfold oClue; simp only [if_pos b2, q_cl (by omega : c < 2147483648)]; exact rfl)
    · refine lv_tableOut (tgt := 132) hx hb dX6_clue_15 (hout.1) (by decide) ?_
      refine lv_ldc (v := (-1000001)) hx hb hown (hts _ mX6_clue_7) dX6_clue_132 ?_
      exact q_iret (v := (-1000001)) hx hb hr hlocks dX6_clue_134 (by obtain ⟨-, e0, e1, e2, e3, e4, e5⟩ := hout; simp only [oClue, if_pos b2, if_neg e0, if_neg e1, if_neg e2, if_neg e3, if_neg e4, if_neg e5])
  · replace b2 := fun q => b2 ((inC_i (by omega)).mpr q)
    refine lv_if_ne (tgt := 14) hx hb dX6_clue_8 (by decide) (fun c9 => absurd (by decide) c9) (fun _ => ?_)
    refine lv_ldc (v := (-1000001)) hx hb hown (hts _ mX6_clue_7) dX6_clue_11 ?_
    exact q_iret (v := (-1000001)) hx hb hr hlocks dX6_clue_13 (by simp only [oClue, if_neg b2])
theorem nX6_ahead_0 : ∀ w ∈ wsX60, w ∈ wsX6_ahead := by decide +kernel
theorem mX6_ahead_1 : Cond.fieldLink RX6 47 "ClueLeave" "city" "LClueLeave$City;" ∈ wsX6_ahead := by decide +kernel
theorem nX6_ahead_2 : ∀ w ∈ wsX20, w ∈ wsX6_ahead := by decide +kernel
theorem mX6_ahead_3 : Cond.fieldLink RX6 130 "ClueLeave$City" "day" "I" ∈ wsX6_ahead := by decide +kernel
theorem mX6_ahead_4 : Cond.constant RX6 66 (-1000001) ∈ wsX6_ahead := by decide +kernel
theorem mX6_ahead_5 : Cond.constant RX6 129 (-1000002) ∈ wsX6_ahead := by decide +kernel
set_option maxHeartbeats 4000000 in
set_option maxRecDepth 100000 in
theorem c_X6_ahead (l : Launch) (D : va_G) (cy : Nat → ClassId) (x0 r0 t0 q s0 k0 j0 im : Nat) (st : Int32) (h kA tA eA oA : Nat) (w : Nat → Nat) (fk ft fe fo : Nat → Int32) (hw : ctIs w fk ft fe fo) (hv : ctOk w) (d y : Int32) : q_Rd l yX6_ahead wsX6_ahead 6 D cy [(x0, .inr (6, [.ref r0, .ref t0, .ref q, .ref s0, .ref k0, .ref h, .ref j0, .ref im, .int (st)])), (h, .inr (2, [.int (nI (w 0)), .int (nI (w 1)), .int (nI (w 2)), .int (nI (w 4)), .int (nI (w 3)), .ref kA, .ref tA, .ref eA, .ref oA])), (kA, .inl (cy 0, 6, .inl fk)), (tA, .inl (cy 0, 6, .inl ft)), (eA, .inl (cy 0, 6, .inl fe)), (oA, .inl (cy 0, 6, .inl fo))] [.ref x0, .int (d), .int (y)] (fun r => r = oAhead w d y) := by
  refine q_rd_of (cc := cX6_ahead) (maxL := 4) (ret := (some .int)) (by decide) rfl (Nat.le_of_ble_eq_true rfl) ?_
  intro pg en s mi args below meth cd hC hP hK ls hl
  obtain ⟨hx, hb, hr, hml, hown, hts, hlocks⟩ := hC
  have hl : lv_has ls 4 [(0, .ref x0), (1, .int (d)), (2, .int (y))] := hl
  obtain ⟨hv0, hv1, hv2, hv3, hv4, hvc⟩ := id hv
  refine lv_aload_n hx hb dX6_ahead_0 rfl (lv_at hl 0 rfl) ?_
  refine va_get (D := D) (ci := 6) (v := .ref h) (C := RX6) (T := TX6) (N := 9) hx hb hts nX6_ahead_0 hown hK.1 hP 0 rfl rfl 5 (by decide) (hts _ mX6_ahead_1) (fun _ h9 => h9) rfl dX6_ahead_1 ?_
  refine q_rV (As := []) (rest := []) ⟨hx, hb, hml, hown, hts⟩ (c_X2_stands l D cy h kA tA eA oA w fk ft fe fo hw hv) (cwV 0 hts gX6_ahead_X2_stands rfl rfl rfl (by decide +kernel) ⟨Nat.le_of_ble_eq_true rfl, Nat.le_of_ble_eq_true rfl⟩) hP hK [1, 2, 3, 4, 5] rfl 1 rfl rfl rfl rfl hl.1 rfl (Nat.le_of_ble_eq_true rfl) dX6_ahead_4 ⟨Nat.zero_le _, Nat.zero_le _⟩ (fun r1 hr1 => ?_)
  rcases hr1 with ⟨rfl, b2⟩ | ⟨rfl, b2⟩
  · have _ := b2
    refine lv_if_ne (tgt := 13) hx hb dX6_ahead_7 (by decide) (fun _ => ?_) (fun c9 => absurd c9 (by decide))
    refine lv_iload_n hx hb dX6_ahead_13 rfl (lv_at hl 1 rfl) ?_
    refine lv_iconst (v := nI 0) hx hb dX6_ahead_14 (by decide) ?_
    refine lv_bipush (v := nI 99) hx hb dX6_ahead_15 (by decide) ?_
    refine q_rS (As := [.int (d), .int (nI 0), .int (nI 99)]) (rest := []) ⟨hx, hb, hml, hown, hts⟩ (c_X6_isWithin l D cy d (nI 0) (nI 99)) (va_cwS 3 hts gX6_ahead_X6_isWithin rfl rfl rfl (by decide +kernel) ⟨Nat.le_of_ble_eq_true rfl, Nat.le_of_ble_eq_true rfl⟩) hP hK [] rfl rfl hl.1 rfl (Nat.le_of_ble_eq_true rfl) dX6_ahead_17 ⟨Nat.zero_le _, Nat.zero_le _⟩ (fun r3 hr3 => ?_)
    rcases hr3 with ⟨rfl, b4⟩ | ⟨rfl, b4⟩
    · have _ := b4
      refine lv_if_eq (tgt := 32) hx hb dX6_ahead_20 (by decide) (fun c9 => absurd c9 (by decide)) (fun _ => ?_)
      obtain ⟨m, -, hm, rfl⟩ := q_rng b4 (by decide) (by decide)
      refine lv_iload_n hx hb dX6_ahead_23 rfl (lv_at hl 2 rfl) ?_
      refine lv_iconst (v := nI 0) hx hb dX6_ahead_24 (by decide) ?_
      refine lv_iconst (v := nI 2) hx hb dX6_ahead_25 (by decide) ?_
      refine q_rS (As := [.int (y), .int (nI 0), .int (nI 2)]) (rest := []) ⟨hx, hb, hml, hown, hts⟩ (c_X6_isWithin l D cy y (nI 0) (nI 2)) (va_cwS 3 hts gX6_ahead_X6_isWithin rfl rfl rfl (by decide +kernel) ⟨Nat.le_of_ble_eq_true rfl, Nat.le_of_ble_eq_true rfl⟩) hP hK [] rfl rfl hl.1 rfl (Nat.le_of_ble_eq_true rfl) dX6_ahead_26 ⟨Nat.zero_le _, Nat.zero_le _⟩ (fun r5 hr5 => ?_)
      rcases hr5 with ⟨rfl, b6⟩ | ⟨rfl, b6⟩
      · have _ := b6
        refine lv_if_ne (tgt := 35) hx hb dX6_ahead_29 (by decide) (fun _ => ?_) (fun c9 => absurd c9 (by decide))
        obtain ⟨k, -, hk, rfl⟩ := q_rng b6 (by decide) (by decide)
        refine lv_aload_n hx hb dX6_ahead_35 rfl (lv_at hl 0 rfl) ?_
        refine va_get (D := D) (ci := 6) (v := .ref h) (C := RX6) (T := TX6) (N := 9) hx hb hts nX6_ahead_0 hown hK.1 hP 0 rfl rfl 5 (by decide) (hts _ mX6_ahead_1) (fun _ h9 => h9) rfl dX6_ahead_36 ?_
        refine va_get (D := D) (ci := 2) (v := .int (nI (w 2))) (C := RX2) (T := TX2) (N := 9) hx hb hts nX6_ahead_2 hown hK.1 hP 1 rfl rfl 2 (by decide) (hts _ mX6_ahead_3) (fun _ h9 => h9) rfl dX6_ahead_39 ?_
        refine lv_iload_n hx hb dX6_ahead_42 rfl (lv_at hl 1 rfl) ?_
        refine lv_iadd hx hb dX6_ahead_43 ?_
        refine q_top (y := nI ((w 2) + m)) (nI_add _ _) ?_
        refine lv_istore_n (lv' := [(3, .int (nI ((w 2) + m))), (0, .ref x0), (1, .int (nI m)), (2, .int (nI k))]) hx hb dX6_ahead_44 rfl hl (by decide) rfl (fun ls hl => ?_)
        refine lv_iload_n hx hb dX6_ahead_45 rfl (lv_at hl 3 rfl) ?_
        refine q_if_ne (tgt := 58) hx hb dX6_ahead_46 (by decide) (by omega) (fun c7 => ?_) (fun c7 => ?_)
        · refine lv_iload_n hx hb dX6_ahead_58 rfl (lv_at hl 3 rfl) ?_
          refine lv_iconst (v := nI 1) hx hb dX6_ahead_59 (by decide) ?_
          refine q_icmp_ne (tgt := 74) hx hb dX6_ahead_60 (by decide) (by omega) (by decide) (fun c8 => ?_) (fun c8 => ?_)
          · refine lv_aload_n hx hb dX6_ahead_74 rfl (lv_at hl 1 rfl) ?_
            refine va_get (D := D) (ci := 6) (v := .ref h) (C := RX6) (T := TX6) (N := 9) hx hb hts nX6_ahead_0 hown hK.1 hP 0 rfl rfl 5 (by decide) (hts _ mX6_ahead_1) (fun _ h9 => h9) rfl dX6_ahead_75 ?_
            refine lv_iload_n hx hb dX6_ahead_78 rfl (lv_at hl 0 rfl) ?_
            refine q_rV (As := [.int (nI ((w 2) + m))]) (rest := []) ⟨hx, hb, hml, hown, hts⟩ (c_X2_leftOn l D cy h kA tA eA oA w fk ft fe fo hw hv ((w 2) + m) (by omega)) (cwV 1 hts gX6_ahead_X2_leftOn rfl rfl rfl (by decide +kernel) ⟨Nat.le_of_ble_eq_true rfl, Nat.le_of_ble_eq_true rfl⟩) hP hK [1, 2, 3, 4, 5] rfl 1 rfl rfl rfl rfl hl.1 rfl (Nat.le_of_ble_eq_true rfl) dX6_ahead_79 ⟨Nat.zero_le _, Nat.zero_le _⟩ (fun r9 hr9 => ?_)
            obtain rfl := hr9
            have hll := ctLeft_lt hv0 (w 2 + m)
            refine q_rS (As := [.int (nI (ctLeft w ((w 2) + m)))]) (rest := []) ⟨hx, hb, hml, hown, hts⟩ (c_X6_onlyOne l D cy (ctLeft w ((w 2) + m)) (by omega)) (va_cwS 1 hts gX6_ahead_X6_onlyOne rfl rfl rfl (by decide +kernel) ⟨Nat.le_of_ble_eq_true rfl, Nat.le_of_ble_eq_true rfl⟩) hP hK [] rfl rfl hl.1 rfl (Nat.le_of_ble_eq_true rfl) dX6_ahead_82 ⟨Nat.zero_le _, Nat.zero_le _⟩ (fun r10 hr10 => ?_)
            obtain rfl := hr10
            exact q_iret (v := onl (ctLeft w ((w 2) + m))) hx hb hr hlocks dX6_ahead_85 ((by simp only [oAhead, q_cl (by omega : m < 2147483648), q_cl (by omega : k < 2147483648), if_pos b2, if_pos b4, if_pos b6, if_neg (by omega : ¬ k = 0), if_neg (by omega : ¬ k = 1)]))
          · refine lv_aload_n hx hb dX6_ahead_63 rfl (lv_at hl 1 rfl) ?_
            refine va_get (D := D) (ci := 6) (v := .ref h) (C := RX6) (T := TX6) (N := 9) hx hb hts nX6_ahead_0 hown hK.1 hP 0 rfl rfl 5 (by decide) (hts _ mX6_ahead_1) (fun _ h9 => h9) rfl dX6_ahead_64 ?_
            refine lv_iload_n hx hb dX6_ahead_67 rfl (lv_at hl 0 rfl) ?_
            refine q_rV (As := [.int (nI ((w 2) + m))]) (rest := []) ⟨hx, hb, hml, hown, hts⟩ (c_X2_workersOn l D cy h kA tA eA oA w fk ft fe fo hw hv ((w 2) + m) (by omega)) (cwV 1 hts gX6_ahead_X2_workersOn rfl rfl rfl (by decide +kernel) ⟨Nat.le_of_ble_eq_true rfl, Nat.le_of_ble_eq_true rfl⟩) hP hK [1, 2, 3, 4, 5] rfl 1 rfl rfl rfl rfl hl.1 rfl (Nat.le_of_ble_eq_true rfl) dX6_ahead_68 ⟨Nat.zero_le _, Nat.zero_le _⟩ (fun r11 hr11 => ?_)
            obtain rfl := hr11
            refine lv_goto (tgt := 85) hx hb dX6_ahead_71 (by decide) ?_
            exact q_iret (v := nI (ctWks w ((w 2) + m) (w 4))) hx hb hr hlocks dX6_ahead_85 ((by simp only [oAhead, q_cl (by omega : m < 2147483648), q_cl (by omega : k < 2147483648), if_pos b2, if_pos b4, if_pos b6, if_neg (by omega : ¬ k = 0), if_pos (by omega : k = 1)]))
        · refine lv_aload_n hx hb dX6_ahead_49 rfl (lv_at hl 1 rfl) ?_
          refine va_get (D := D) (ci := 6) (v := .ref h) (C := RX6) (T := TX6) (N := 9) hx hb hts nX6_ahead_0 hown hK.1 hP 0 rfl rfl 5 (by decide) (hts _ mX6_ahead_1) (fun _ h9 => h9) rfl dX6_ahead_50 ?_
          refine lv_iload_n hx hb dX6_ahead_53 rfl (lv_at hl 0 rfl) ?_
          refine q_rV (As := [.int (nI ((w 2) + m))]) (rest := []) ⟨hx, hb, hml, hown, hts⟩ (c_X2_leftOn l D cy h kA tA eA oA w fk ft fe fo hw hv ((w 2) + m) (by omega)) (cwV 1 hts gX6_ahead_X2_leftOn rfl rfl rfl (by decide +kernel) ⟨Nat.le_of_ble_eq_true rfl, Nat.le_of_ble_eq_true rfl⟩) hP hK [1, 2, 3, 4, 5] rfl 1 rfl rfl rfl rfl hl.1 rfl (Nat.le_of_ble_eq_true rfl) dX6_ahead_54 ⟨Nat.zero_le _, Nat.zero_le _⟩ (fun r12 hr12 => ?_)
          obtain rfl := hr12
          exact q_iret (v := nI (ctLeft w ((w 2) + m))) hx hb hr hlocks dX6_ahead_57 ((by simp only [oAhead, q_cl (by omega : m < 2147483648), q_cl (by omega : k < 2147483648), if_pos b2, if_pos b4, if_pos b6, if_pos (by omega : k = 0)]))
      · have _ := b6
        refine lv_if_ne (tgt := 35) hx hb dX6_ahead_29 (by decide) (fun c9 => absurd (by decide) c9) (fun _ => ?_)
        refine lv_ldc (v := (-1000001)) hx hb hown (hts _ mX6_ahead_4) dX6_ahead_32 ?_
        exact q_iret (v := (-1000001)) hx hb hr hlocks dX6_ahead_34 ((by simp only [oAhead, if_pos b2, if_pos b4, if_neg b6]))
    · have _ := b4
      refine lv_if_eq (tgt := 32) hx hb dX6_ahead_20 (by decide) (fun _ => ?_) (fun c9 => absurd (by decide) c9)
      refine lv_ldc (v := (-1000001)) hx hb hown (hts _ mX6_ahead_4) dX6_ahead_32 ?_
      exact q_iret (v := (-1000001)) hx hb hr hlocks dX6_ahead_34 ((by simp only [oAhead, if_pos b2, if_neg b4]))
  · have _ := b2
    refine lv_if_ne (tgt := 13) hx hb dX6_ahead_7 (by decide) (fun c9 => absurd (by decide) c9) (fun _ => ?_)
    refine lv_ldc (v := (-1000002)) hx hb hown (hts _ mX6_ahead_5) dX6_ahead_10 ?_
    exact q_iret (v := (-1000002)) hx hb hr hlocks dX6_ahead_12 ((by simp only [oAhead, if_neg b2]))
theorem nX6_first_0 : ∀ w ∈ wsX60, w ∈ wsX6_first := by decide +kernel
theorem mX6_first_1 : Cond.fieldLink RX6 47 "ClueLeave" "city" "LClueLeave$City;" ∈ wsX6_first := by decide +kernel
theorem mX6_first_2 : Cond.constant RX6 185 (-1000000) ∈ wsX6_first := by decide +kernel
theorem nX6_first_3 : ∀ w ∈ wsX20, w ∈ wsX6_first := by decide +kernel
theorem mX6_first_4 : Cond.fieldLink RX6 130 "ClueLeave$City" "day" "I" ∈ wsX6_first := by decide +kernel
theorem mX6_first_5 : Cond.constant RX6 66 (-1000001) ∈ wsX6_first := by decide +kernel
theorem mX6_first_6 : Cond.constant RX6 129 (-1000002) ∈ wsX6_first := by decide +kernel
set_option maxHeartbeats 4000000 in
set_option maxRecDepth 100000 in
theorem c_X6_first (l : Launch) (D : va_G) (cy : Nat → ClassId) (x0 r0 t0 q s0 k0 j0 im : Nat) (st : Int32) (h kA tA eA oA : Nat) (w : Nat → Nat) (fk ft fe fo : Nat → Int32) (hw : ctIs w fk ft fe fo) (hv : ctOk w) (mean : Int32) : q_Rd l yX6_first wsX6_first 6 D cy [(x0, .inr (6, [.ref r0, .ref t0, .ref q, .ref s0, .ref k0, .ref h, .ref j0, .ref im, .int (st)])), (h, .inr (2, [.int (nI (w 0)), .int (nI (w 1)), .int (nI (w 2)), .int (nI (w 4)), .int (nI (w 3)), .ref kA, .ref tA, .ref eA, .ref oA])), (kA, .inl (cy 0, 6, .inl fk)), (tA, .inl (cy 0, 6, .inl ft)), (eA, .inl (cy 0, 6, .inl fe)), (oA, .inl (cy 0, 6, .inl fo))] [.ref x0, .int (mean)] (fun r => r = oFirst w mean) := by
  refine q_rd_of (cc := cX6_first) (maxL := 4) (ret := (some .int)) (by decide) rfl (Nat.le_of_ble_eq_true rfl) ?_
  intro pg en s mi args below meth cd hC hP hK ls hl
  obtain ⟨hx, hb, hr, hml, hown, hts, hlocks⟩ := hC
  have hl : lv_has ls 4 [(0, .ref x0), (1, .int (mean))] := hl
  obtain ⟨hv0, hv1, hv2, hv3, hv4, hvc⟩ := id hv
  refine lv_aload_n hx hb dX6_first_0 rfl (lv_at hl 0 rfl) ?_
  refine va_get (D := D) (ci := 6) (v := .ref h) (C := RX6) (T := TX6) (N := 9) hx hb hts nX6_first_0 hown hK.1 hP 0 rfl rfl 5 (by decide) (hts _ mX6_first_1) (fun _ h9 => h9) rfl dX6_first_1 ?_
  refine q_rV (As := []) (rest := []) ⟨hx, hb, hml, hown, hts⟩ (c_X2_stands l D cy h kA tA eA oA w fk ft fe fo hw hv) (cwV 0 hts gX6_first_X2_stands rfl rfl rfl (by decide +kernel) ⟨Nat.le_of_ble_eq_true rfl, Nat.le_of_ble_eq_true rfl⟩) hP hK [1, 2, 3, 4, 5] rfl 1 rfl rfl rfl rfl hl.1 rfl (Nat.le_of_ble_eq_true rfl) dX6_first_4 ⟨Nat.zero_le _, Nat.zero_le _⟩ (fun r1 hr1 => ?_)
  rcases hr1 with ⟨rfl, b2⟩ | ⟨rfl, b2⟩
  · have _ := b2
    refine lv_if_ne (tgt := 13) hx hb dX6_first_7 (by decide) (fun _ => ?_) (fun c9 => absurd c9 (by decide))
    refine lv_iload_n hx hb dX6_first_13 rfl (lv_at hl 1 rfl) ?_
    refine lv_iconst (v := nI 0) hx hb dX6_first_14 (by decide) ?_
    refine lv_iconst (v := nI 1) hx hb dX6_first_15 (by decide) ?_
    refine q_rS (As := [.int (mean), .int (nI 0), .int (nI 1)]) (rest := []) ⟨hx, hb, hml, hown, hts⟩ (c_X6_isWithin l D cy mean (nI 0) (nI 1)) (va_cwS 3 hts gX6_first_X6_isWithin rfl rfl rfl (by decide +kernel) ⟨Nat.le_of_ble_eq_true rfl, Nat.le_of_ble_eq_true rfl⟩) hP hK [] rfl rfl hl.1 rfl (Nat.le_of_ble_eq_true rfl) dX6_first_16 ⟨Nat.zero_le _, Nat.zero_le _⟩ (fun r3 hr3 => ?_)
    rcases hr3 with ⟨rfl, b4⟩ | ⟨rfl, b4⟩
    · have _ := b4
      refine lv_if_ne (tgt := 25) hx hb dX6_first_19 (by decide) (fun _ => ?_) (fun c9 => absurd c9 (by decide))
      obtain ⟨m, -, hm, rfl⟩ := q_rng b4 (by decide) (by decide)
      refine lv_iload_n hx hb dX6_first_25 rfl (lv_at hl 1 rfl) ?_
      refine lv_iconst (v := nI 1) hx hb dX6_first_26 (by decide) ?_
      refine q_icmp_ne (tgt := 34) hx hb dX6_first_27 (by decide) (by omega) (by decide) (fun c5 => ?_) (fun c5 => ?_)
      · refine lv_iconst (v := nI 1) hx hb dX6_first_34 (by decide) ?_
        refine lv_istore_n (lv' := [(2, .int (nI 1)), (0, .ref x0), (1, .int (nI m))]) hx hb dX6_first_35 rfl hl (by decide) rfl (fun ls hl => ?_)
        refine lv_iconst (v := nI 0) hx hb dX6_first_36 (by decide) ?_
        refine lv_istore_n (lv' := [(3, .int (nI 0)), (2, .int (nI 1)), (0, .ref x0), (1, .int (nI m))]) hx hb dX6_first_37 rfl hl (by decide) rfl (fun ls hl => ?_)
        have L38_24 : ∀ (fu d : Nat), d ≤ 100 → 100 < d + fu → fsN w (1 - m) (100 - d) d = fsN w (1 - m) 100 0 → ∀ ls : Array Slot, lv_has ls 4 [(0, .ref x0), (1, .int (nI m)), (2, .int (nI 1)), (3, .int (nI d))] → W pg l en (q_rm 6) s mi args below meth cd s.heap [] 0 0 (MQ below (vp_Si (fun r => r = oFirst w (nI m))) args s 0 0 (fun _ => False)) (F0 mi 38 ls []) := by
          intro fu
          induction fu with
          | zero =>
            intro d h1 h2
            exact absurd h2 (by omega)
          | succ fu ih38 =>
            intro d h1_38 h2_38 hf38_0 ls hl
            refine lv_iload_n hx hb dX6_first_38 rfl (lv_at hl 3 rfl) ?_
            refine lv_bipush (v := nI 99) hx hb dX6_first_39 (by decide) ?_
            refine q_icmp_gt (tgt := 75) hx hb dX6_first_41 (by decide) (by omega) (by decide) (fun c6 => ?_) (fun c6 => ?_)
            · refine lv_ldc (v := (-1000000)) hx hb hown (hts _ mX6_first_2) dX6_first_75 ?_
              exact q_iret (v := (-1000000)) hx hb hr hlocks dX6_first_77 ((by simp only [oFirst, if_pos b2, if_pos b4, q_cl (by omega : m < 2147483648)]; exact (fsN_0 (d := d) (by omega)).symm.trans hf38_0))
            · refine lv_aload_n hx hb dX6_first_44 rfl (lv_at hl 0 rfl) ?_
              refine va_get (D := D) (ci := 6) (v := .ref h) (C := RX6) (T := TX6) (N := 9) hx hb hts nX6_first_0 hown hK.1 hP 0 rfl rfl 5 (by decide) (hts _ mX6_first_1) (fun _ h9 => h9) rfl dX6_first_45 ?_
              refine lv_aload_n hx hb dX6_first_48 rfl (lv_at hl 0 rfl) ?_
              refine va_get (D := D) (ci := 6) (v := .ref h) (C := RX6) (T := TX6) (N := 9) hx hb hts nX6_first_0 hown hK.1 hP 0 rfl rfl 5 (by decide) (hts _ mX6_first_1) (fun _ h9 => h9) rfl dX6_first_49 ?_
              refine va_get (D := D) (ci := 2) (v := .int (nI (w 2))) (C := RX2) (T := TX2) (N := 9) hx hb hts nX6_first_3 hown hK.1 hP 1 rfl rfl 2 (by decide) (hts _ mX6_first_4) (fun _ h9 => h9) rfl dX6_first_52 ?_
              refine lv_iload_n hx hb dX6_first_55 rfl (lv_at hl 3 rfl) ?_
              refine lv_iadd hx hb dX6_first_56 ?_
              refine q_top (y := nI ((w 2) + d)) (nI_add _ _) ?_
              refine q_rV (As := [.int (nI ((w 2) + d))]) (rest := []) ⟨hx, hb, hml, hown, hts⟩ (c_X2_leftOn l D cy h kA tA eA oA w fk ft fe fo hw hv ((w 2) + d) (by omega)) (cwV 1 hts gX6_first_X2_leftOn rfl rfl rfl (by decide +kernel) ⟨Nat.le_of_ble_eq_true rfl, Nat.le_of_ble_eq_true rfl⟩) hP hK [1, 2, 3, 4, 5] rfl 1 rfl rfl rfl rfl hl.1 rfl (Nat.le_of_ble_eq_true rfl) dX6_first_57 ⟨Nat.zero_le _, Nat.zero_le _⟩ (fun r7 hr7 => ?_)
              obtain rfl := hr7
              have hll := ctLeft_lt hv0 (w 2 + d)
              refine q_rS (As := [.int (nI (ctLeft w ((w 2) + d)))]) (rest := []) ⟨hx, hb, hml, hown, hts⟩ (c_J6_bitCount_0f7a4 l D cy (ctLeft w ((w 2) + d)) (by omega)) (va_cwS 1 hts gX6_first_J6_bitCount_0f7a4 rfl rfl rfl (by decide +kernel) ⟨Nat.le_of_ble_eq_true rfl, Nat.le_of_ble_eq_true rfl⟩) hP hK [] rfl rfl hl.1 rfl (Nat.le_of_ble_eq_true rfl) dX6_first_60 ⟨Nat.zero_le _, Nat.zero_le _⟩ (fun r8 hr8 => ?_)
              obtain rfl := hr8
              have hbl := bc_lt (ctLeft w (w 2 + d)) (by omega)
              refine lv_iload_n hx hb dX6_first_63 rfl (lv_at hl 2 rfl) ?_
              refine q_icmp_ne (tgt := 69) hx hb dX6_first_64 (by decide) (by omega) (by decide) (fun c9 => ?_) (fun c9 => ?_)
              · refine lv_iinc (v := nI (d + 1)) (lv' := [(3, .int (nI (d + 1))), (0, .ref x0), (1, .int (nI m)), (2, .int (nI 1))]) hx hb dX6_first_69 hl (k := 3) rfl (q_inc d 1) (by decide) rfl (fun ls hl => ?_)
                refine lv_goto (tgt := 38) hx hb dX6_first_72 (by decide) ?_
                exact ih38 (d + 1) (by omega) (by omega) ((fsN_s (by omega) (by omega)).symm.trans hf38_0) ls (lv_sub (l' := [(0, .ref x0), (1, .int (nI m)), (2, .int (nI 1)), (3, .int (nI (d + 1)))]) hl [1, 2, 3, 0] rfl)
              · refine lv_iload_n hx hb dX6_first_67 rfl (lv_at hl 3 rfl) ?_
                exact q_iret (v := nI d) hx hb hr hlocks dX6_first_68 ((by simp only [oFirst, if_pos b2, if_pos b4, q_cl (by omega : m < 2147483648)]; exact (fsN_t (by omega) (by omega)).symm.trans hf38_0))
        exact L38_24 (100 + 1) 0 (by omega) (by omega) rfl ls (lv_sub (l' := [(0, .ref x0), (1, .int (nI m)), (2, .int (nI 1)), (3, .int (nI 0))]) hl [2, 3, 1, 0] rfl)
      · refine lv_iconst (v := nI 0) hx hb dX6_first_30 (by decide) ?_
        refine lv_goto (tgt := 35) hx hb dX6_first_31 (by decide) ?_
        refine lv_istore_n (lv' := [(2, .int (nI 0)), (0, .ref x0), (1, .int (nI m))]) hx hb dX6_first_35 rfl hl (by decide) rfl (fun ls hl => ?_)
        refine lv_iconst (v := nI 0) hx hb dX6_first_36 (by decide) ?_
        refine lv_istore_n (lv' := [(3, .int (nI 0)), (2, .int (nI 0)), (0, .ref x0), (1, .int (nI m))]) hx hb dX6_first_37 rfl hl (by decide) rfl (fun ls hl => ?_)
        have L38_64 : ∀ (fu d : Nat), d ≤ 100 → 100 < d + fu → fsN w (1 - m) (100 - d) d = fsN w (1 - m) 100 0 → ∀ ls : Array Slot, lv_has ls 4 [(0, .ref x0), (1, .int (nI m)), (2, .int (nI 0)), (3, .int (nI d))] → W pg l en (q_rm 6) s mi args below meth cd s.heap [] 0 0 (MQ below (vp_Si (fun r => r = oFirst w (nI m))) args s 0 0 (fun _ => False)) (F0 mi 38 ls []) := by
          intro fu
          induction fu with
          | zero =>
            intro d h1 h2
            exact absurd h2 (by omega)
          | succ fu ih38 =>
            intro d h1_38 h2_38 hf38_0 ls hl
            refine lv_iload_n hx hb dX6_first_38 rfl (lv_at hl 3 rfl) ?_
            refine lv_bipush (v := nI 99) hx hb dX6_first_39 (by decide) ?_
            refine q_icmp_gt (tgt := 75) hx hb dX6_first_41 (by decide) (by omega) (by decide) (fun c10 => ?_) (fun c10 => ?_)
            · refine lv_ldc (v := (-1000000)) hx hb hown (hts _ mX6_first_2) dX6_first_75 ?_
              exact q_iret (v := (-1000000)) hx hb hr hlocks dX6_first_77 ((by simp only [oFirst, if_pos b2, if_pos b4, q_cl (by omega : m < 2147483648)]; exact (fsN_0 (d := d) (by omega)).symm.trans hf38_0))
            · refine lv_aload_n hx hb dX6_first_44 rfl (lv_at hl 0 rfl) ?_
              refine va_get (D := D) (ci := 6) (v := .ref h) (C := RX6) (T := TX6) (N := 9) hx hb hts nX6_first_0 hown hK.1 hP 0 rfl rfl 5 (by decide) (hts _ mX6_first_1) (fun _ h9 => h9) rfl dX6_first_45 ?_
              refine lv_aload_n hx hb dX6_first_48 rfl (lv_at hl 0 rfl) ?_
              refine va_get (D := D) (ci := 6) (v := .ref h) (C := RX6) (T := TX6) (N := 9) hx hb hts nX6_first_0 hown hK.1 hP 0 rfl rfl 5 (by decide) (hts _ mX6_first_1) (fun _ h9 => h9) rfl dX6_first_49 ?_
              refine va_get (D := D) (ci := 2) (v := .int (nI (w 2))) (C := RX2) (T := TX2) (N := 9) hx hb hts nX6_first_3 hown hK.1 hP 1 rfl rfl 2 (by decide) (hts _ mX6_first_4) (fun _ h9 => h9) rfl dX6_first_52 ?_
              refine lv_iload_n hx hb dX6_first_55 rfl (lv_at hl 3 rfl) ?_
              refine lv_iadd hx hb dX6_first_56 ?_
              refine q_top (y := nI ((w 2) + d)) (nI_add _ _) ?_
              refine q_rV (As := [.int (nI ((w 2) + d))]) (rest := []) ⟨hx, hb, hml, hown, hts⟩ (c_X2_leftOn l D cy h kA tA eA oA w fk ft fe fo hw hv ((w 2) + d) (by omega)) (cwV 1 hts gX6_first_X2_leftOn rfl rfl rfl (by decide +kernel) ⟨Nat.le_of_ble_eq_true rfl, Nat.le_of_ble_eq_true rfl⟩) hP hK [1, 2, 3, 4, 5] rfl 1 rfl rfl rfl rfl hl.1 rfl (Nat.le_of_ble_eq_true rfl) dX6_first_57 ⟨Nat.zero_le _, Nat.zero_le _⟩ (fun r11 hr11 => ?_)
              obtain rfl := hr11
              have hll := ctLeft_lt hv0 (w 2 + d)
              refine q_rS (As := [.int (nI (ctLeft w ((w 2) + d)))]) (rest := []) ⟨hx, hb, hml, hown, hts⟩ (c_J6_bitCount_0f7a4 l D cy (ctLeft w ((w 2) + d)) (by omega)) (va_cwS 1 hts gX6_first_J6_bitCount_0f7a4 rfl rfl rfl (by decide +kernel) ⟨Nat.le_of_ble_eq_true rfl, Nat.le_of_ble_eq_true rfl⟩) hP hK [] rfl rfl hl.1 rfl (Nat.le_of_ble_eq_true rfl) dX6_first_60 ⟨Nat.zero_le _, Nat.zero_le _⟩ (fun r12 hr12 => ?_)
              obtain rfl := hr12
              have hbl := bc_lt (ctLeft w (w 2 + d)) (by omega)
              refine lv_iload_n hx hb dX6_first_63 rfl (lv_at hl 2 rfl) ?_
              refine q_icmp_ne (tgt := 69) hx hb dX6_first_64 (by decide) (by omega) (by decide) (fun c13 => ?_) (fun c13 => ?_)
              · refine lv_iinc (v := nI (d + 1)) (lv' := [(3, .int (nI (d + 1))), (0, .ref x0), (1, .int (nI m)), (2, .int (nI 0))]) hx hb dX6_first_69 hl (k := 3) rfl (q_inc d 1) (by decide) rfl (fun ls hl => ?_)
                refine lv_goto (tgt := 38) hx hb dX6_first_72 (by decide) ?_
                exact ih38 (d + 1) (by omega) (by omega) ((fsN_s (by omega) (by omega)).symm.trans hf38_0) ls (lv_sub (l' := [(0, .ref x0), (1, .int (nI m)), (2, .int (nI 0)), (3, .int (nI (d + 1)))]) hl [1, 2, 3, 0] rfl)
              · refine lv_iload_n hx hb dX6_first_67 rfl (lv_at hl 3 rfl) ?_
                exact q_iret (v := nI d) hx hb hr hlocks dX6_first_68 ((by simp only [oFirst, if_pos b2, if_pos b4, q_cl (by omega : m < 2147483648)]; exact (fsN_t (by omega) (by omega)).symm.trans hf38_0))
        exact L38_64 (100 + 1) 0 (by omega) (by omega) rfl ls (lv_sub (l' := [(0, .ref x0), (1, .int (nI m)), (2, .int (nI 0)), (3, .int (nI 0))]) hl [2, 3, 1, 0] rfl)
    · have _ := b4
      refine lv_if_ne (tgt := 25) hx hb dX6_first_19 (by decide) (fun c9 => absurd (by decide) c9) (fun _ => ?_)
      refine lv_ldc (v := (-1000001)) hx hb hown (hts _ mX6_first_5) dX6_first_22 ?_
      exact q_iret (v := (-1000001)) hx hb hr hlocks dX6_first_24 ((by simp only [oFirst, if_pos b2, if_neg b4]))
  · have _ := b2
    refine lv_if_ne (tgt := 13) hx hb dX6_first_7 (by decide) (fun c9 => absurd (by decide) c9) (fun _ => ?_)
    refine lv_ldc (v := (-1000002)) hx hb hown (hts _ mX6_first_6) dX6_first_10 ?_
    exact q_iret (v := (-1000002)) hx hb hr hlocks dX6_first_12 ((by simp only [oFirst, if_neg b2]))
theorem nX6_when_0 : ∀ w ∈ wsX60, w ∈ wsX6_when := by decide +kernel
theorem mX6_when_1 : Cond.fieldLink RX6 47 "ClueLeave" "city" "LClueLeave$City;" ∈ wsX6_when := by decide +kernel
theorem nX6_when_2 : ∀ w ∈ wsX20, w ∈ wsX6_when := by decide +kernel
theorem mX6_when_3 : Cond.fieldLink RX6 196 "ClueLeave$City" "suspects" "I" ∈ wsX6_when := by decide +kernel
theorem mX6_when_4 : Cond.constant RX6 185 (-1000000) ∈ wsX6_when := by decide +kernel
theorem mX6_when_5 : Cond.fieldLink RX6 130 "ClueLeave$City" "day" "I" ∈ wsX6_when := by decide +kernel
theorem mX6_when_6 : Cond.constant RX6 66 (-1000001) ∈ wsX6_when := by decide +kernel
set_option maxHeartbeats 4000000 in
set_option maxRecDepth 100000 in
theorem c_X6_when (l : Launch) (D : va_G) (cy : Nat → ClassId) (x0 r0 t0 q s0 k0 j0 im : Nat) (st : Int32) (h kA tA eA oA : Nat) (w : Nat → Nat) (fk ft fe fo : Nat → Int32) (hw : ctIs w fk ft fe fo) (hv : ctOk w) (sx n : Int32) : q_Rd l yX6_when wsX6_when 6 D cy [(x0, .inr (6, [.ref r0, .ref t0, .ref q, .ref s0, .ref k0, .ref h, .ref j0, .ref im, .int (st)])), (h, .inr (2, [.int (nI (w 0)), .int (nI (w 1)), .int (nI (w 2)), .int (nI (w 4)), .int (nI (w 3)), .ref kA, .ref tA, .ref eA, .ref oA])), (kA, .inl (cy 0, 6, .inl fk)), (tA, .inl (cy 0, 6, .inl ft)), (eA, .inl (cy 0, 6, .inl fe)), (oA, .inl (cy 0, 6, .inl fo))] [.ref x0, .int (sx), .int (n)] (fun r => r = oWhen w sx n) := by
  refine q_rd_of (cc := cX6_when) (maxL := 7) (ret := (some .int)) (by decide) rfl (Nat.le_of_ble_eq_true rfl) ?_
  intro pg en s mi args below meth cd hC hP hK ls hl
  obtain ⟨hx, hb, hr, hml, hown, hts, hlocks⟩ := hC
  have hl : lv_has ls 7 [(0, .ref x0), (1, .int (sx)), (2, .int (n))] := hl
  obtain ⟨hv0, hv1, hv2, hv3, hv4, hvc⟩ := id hv
  refine lv_iload_n hx hb dX6_when_0 rfl (lv_at hl 1 rfl) ?_
  refine lv_iconst (v := nI 0) hx hb dX6_when_1 (by decide) ?_
  refine lv_aload_n hx hb dX6_when_2 rfl (lv_at hl 0 rfl) ?_
  refine va_get (D := D) (ci := 6) (v := .ref h) (C := RX6) (T := TX6) (N := 9) hx hb hts nX6_when_0 hown hK.1 hP 0 rfl rfl 5 (by decide) (hts _ mX6_when_1) (fun _ h9 => h9) rfl dX6_when_3 ?_
  refine va_get (D := D) (ci := 2) (v := .int (nI (w 0))) (C := RX2) (T := TX2) (N := 9) hx hb hts nX6_when_2 hown hK.1 hP 1 rfl rfl 0 (by decide) (hts _ mX6_when_3) (fun _ h9 => h9) rfl dX6_when_6 ?_
  refine lv_iconst (v := nI 1) hx hb dX6_when_9 (by decide) ?_
  refine lv_isub hx hb dX6_when_10 ?_
  refine q_rS (As := [.int (sx), .int (nI 0), .int ((nI (w 0)) - (nI 1))]) (rest := []) ⟨hx, hb, hml, hown, hts⟩ (c_X6_isWithin l D cy sx (nI 0) ((nI (w 0)) - (nI 1))) (va_cwS 3 hts gX6_when_X6_isWithin rfl rfl rfl (by decide +kernel) ⟨Nat.le_of_ble_eq_true rfl, Nat.le_of_ble_eq_true rfl⟩) hP hK [] rfl rfl hl.1 rfl (Nat.le_of_ble_eq_true rfl) dX6_when_11 ⟨Nat.zero_le _, Nat.zero_le _⟩ (fun r1 hr1 => ?_)
  rcases hr1 with ⟨rfl, b2⟩ | ⟨rfl, b2⟩
  · have _ := b2
    replace b2 := (inC_w hv0).mp b2
    refine lv_if_eq (tgt := 27) hx hb dX6_when_14 (by decide) (fun c9 => absurd c9 (by decide)) (fun _ => ?_)
    refine lv_iload_n hx hb dX6_when_17 rfl (lv_at hl 2 rfl) ?_
    refine lv_iconst (v := nI 1) hx hb dX6_when_18 (by decide) ?_
    refine lv_bipush (v := nI 60) hx hb dX6_when_19 (by decide) ?_
    refine q_rS (As := [.int (n), .int (nI 1), .int (nI 60)]) (rest := []) ⟨hx, hb, hml, hown, hts⟩ (c_X6_isWithin l D cy n (nI 1) (nI 60)) (va_cwS 3 hts gX6_when_X6_isWithin rfl rfl rfl (by decide +kernel) ⟨Nat.le_of_ble_eq_true rfl, Nat.le_of_ble_eq_true rfl⟩) hP hK [] rfl rfl hl.1 rfl (Nat.le_of_ble_eq_true rfl) dX6_when_21 ⟨Nat.zero_le _, Nat.zero_le _⟩ (fun r3 hr3 => ?_)
    rcases hr3 with ⟨rfl, b4⟩ | ⟨rfl, b4⟩
    · have _ := b4
      refine lv_if_ne (tgt := 30) hx hb dX6_when_24 (by decide) (fun _ => ?_) (fun c9 => absurd c9 (by decide))
      obtain ⟨s1, hs1, rfl⟩ := (inC_i (by omega)).mpr b2
      obtain ⟨n1, -, hn1, rfl⟩ := q_rng b4 (by decide) (by decide)
      refine lv_ldc (v := (-1000000)) hx hb hown (hts _ mX6_when_4) dX6_when_30 ?_
      refine lv_istore_n (lv' := [(3, .int ((-1000000))), (0, .ref x0), (1, .int (nI s1)), (2, .int (nI n1))]) hx hb dX6_when_32 rfl hl (by decide) rfl (fun ls hl => ?_)
      refine lv_iconst (v := nI 1) hx hb dX6_when_33 (by decide) ?_
      refine lv_istore (lv' := [(4, .int (nI 1)), (3, .int ((-1000000))), (0, .ref x0), (1, .int (nI s1)), (2, .int (nI n1))]) hx hb dX6_when_34 hl (by decide) rfl (fun ls hl => ?_)
      refine lv_iconst (v := nI 0) hx hb dX6_when_36 (by decide) ?_
      refine lv_istore (lv' := [(5, .int (nI 0)), (4, .int (nI 1)), (3, .int ((-1000000))), (0, .ref x0), (1, .int (nI s1)), (2, .int (nI n1))]) hx hb dX6_when_37 hl (by decide) rfl (fun ls hl => ?_)
      have L39_30 : ∀ (fu d : Nat), d ≤ n1 → n1 < d + fu → whM w s1 d ≤ 15 → ∀ ls : Array Slot, lv_has ls 7 [(0, .ref x0), (1, .int (nI s1)), (2, .int (nI n1)), (3, .int (whC (whB w s1 d))), (4, .int (nI (whM w s1 d))), (5, .int (nI d))] → W pg l en (q_rm 6) s mi args below meth cd s.heap [] 0 0 (MQ below (vp_Si (fun r => r = oWhen w (nI s1) (nI n1))) args s 0 0 (fun _ => False)) (F0 mi 39 ls []) := by
        intro fu
        induction fu with
        | zero =>
          intro d h1 h2
          exact absurd h2 (by omega)
        | succ fu ih39 =>
          intro d h1_39 h2_39 hf39_0 ls hl
          refine lv_iload hx hb dX6_when_39 (lv_at hl 5 rfl) ?_
          refine lv_iload_n hx hb dX6_when_41 rfl (lv_at hl 2 rfl) ?_
          refine q_icmp_ge (tgt := 99) hx hb dX6_when_42 (by decide) (by omega) (by omega) (fun c5 => ?_) (fun c5 => ?_)
          · refine lv_iload_n hx hb dX6_when_99 rfl (lv_at hl 3 rfl) ?_
            exact q_iret (v := whC (whB w s1 d)) hx hb hr hlocks dX6_when_100 ((by simp only [oWhen, if_pos b2, if_pos b4, q_cl (by omega : s1 < 2147483648), q_cl (by omega : n1 < 2147483648), (by omega : d = n1)]))
          · refine lv_aload_n hx hb dX6_when_45 rfl (lv_at hl 0 rfl) ?_
            refine va_get (D := D) (ci := 6) (v := .ref h) (C := RX6) (T := TX6) (N := 9) hx hb hts nX6_when_0 hown hK.1 hP 0 rfl rfl 5 (by decide) (hts _ mX6_when_1) (fun _ h9 => h9) rfl dX6_when_46 ?_
            refine lv_aload_n hx hb dX6_when_49 rfl (lv_at hl 0 rfl) ?_
            refine va_get (D := D) (ci := 6) (v := .ref h) (C := RX6) (T := TX6) (N := 9) hx hb hts nX6_when_0 hown hK.1 hP 0 rfl rfl 5 (by decide) (hts _ mX6_when_1) (fun _ h9 => h9) rfl dX6_when_50 ?_
            refine va_get (D := D) (ci := 2) (v := .int (nI (w 2))) (C := RX2) (T := TX2) (N := 9) hx hb hts nX6_when_2 hown hK.1 hP 1 rfl rfl 2 (by decide) (hts _ mX6_when_5) (fun _ h9 => h9) rfl dX6_when_53 ?_
            refine lv_iload hx hb dX6_when_56 (lv_at hl 5 rfl) ?_
            refine lv_iadd hx hb dX6_when_58 ?_
            refine q_top (y := nI ((w 2) + d)) (nI_add _ _) ?_
            refine q_rV (As := [.int (nI ((w 2) + d))]) (rest := []) ⟨hx, hb, hml, hown, hts⟩ (c_X2_leftOn l D cy h kA tA eA oA w fk ft fe fo hw hv ((w 2) + d) (by omega)) (cwV 1 hts gX6_when_X2_leftOn rfl rfl rfl (by decide +kernel) ⟨Nat.le_of_ble_eq_true rfl, Nat.le_of_ble_eq_true rfl⟩) hP hK [1, 2, 3, 4, 5] rfl 1 rfl rfl rfl rfl hl.1 rfl (Nat.le_of_ble_eq_true rfl) dX6_when_59 ⟨Nat.zero_le _, Nat.zero_le _⟩ (fun r6 hr6 => ?_)
            obtain rfl := hr6
            have hll := ctLeft_lt hv0 (w 2 + d)
            have hbl := bc_lt (ctLeft w (w 2 + d)) (by omega)
            refine lv_istore (lv' := [(6, .int (nI (ctLeft w ((w 2) + d)))), (0, .ref x0), (1, .int (nI s1)), (2, .int (nI n1)), (3, .int (whC (whB w s1 d))), (4, .int (nI (whM w s1 d))), (5, .int (nI d))]) hx hb dX6_when_62 hl (by decide) rfl (fun ls hl => ?_)
            refine lv_iload hx hb dX6_when_64 (lv_at hl 0 rfl) ?_
            refine lv_iload_n hx hb dX6_when_66 rfl (lv_at hl 2 rfl) ?_
            refine q_rS (As := [.int (nI (ctLeft w ((w 2) + d))), .int (nI s1)]) (rest := []) ⟨hx, hb, hml, hown, hts⟩ (c_X6_isIn l D cy (ctLeft w ((w 2) + d)) s1 (by omega) (by omega)) (va_cwS 2 hts gX6_when_X6_isIn rfl rfl rfl (by decide +kernel) ⟨Nat.le_of_ble_eq_true rfl, Nat.le_of_ble_eq_true rfl⟩) hP hK [] rfl rfl hl.1 rfl (Nat.le_of_ble_eq_true rfl) dX6_when_67 ⟨Nat.zero_le _, Nat.zero_le _⟩ (fun r7 hr7 => ?_)
            rcases hr7 with ⟨rfl, b8⟩ | ⟨rfl, b8⟩
            · have _ := b8
              refine lv_if_eq (tgt := 93) hx hb dX6_when_70 (by decide) (fun c9 => absurd c9 (by decide)) (fun _ => ?_)
              refine lv_iload hx hb dX6_when_73 (lv_at hl 0 rfl) ?_
              refine q_rS (As := [.int (nI (ctLeft w ((w 2) + d)))]) (rest := []) ⟨hx, hb, hml, hown, hts⟩ (c_J6_bitCount_0f7a4 l D cy (ctLeft w ((w 2) + d)) (by omega)) (va_cwS 1 hts gX6_when_J6_bitCount_0f7a4 rfl rfl rfl (by decide +kernel) ⟨Nat.le_of_ble_eq_true rfl, Nat.le_of_ble_eq_true rfl⟩) hP hK [] rfl rfl hl.1 rfl (Nat.le_of_ble_eq_true rfl) dX6_when_75 ⟨Nat.zero_le _, Nat.zero_le _⟩ (fun r9 hr9 => ?_)
              obtain rfl := hr9
              refine lv_iload hx hb dX6_when_78 (lv_at hl 5 rfl) ?_
              refine q_icmp_le (tgt := 93) hx hb dX6_when_80 (by decide) (by omega) (by omega) (fun c10 => ?_) (fun c10 => ?_)
              · refine lv_iinc (v := nI (d + 1)) (lv' := [(5, .int (nI (d + 1))), (6, .int (nI (ctLeft w ((w 2) + d)))), (0, .ref x0), (1, .int (nI s1)), (2, .int (nI n1)), (3, .int (whC (whB w s1 d))), (4, .int (nI (whM w s1 d)))]) hx hb dX6_when_93 hl (k := 6) rfl (q_inc d 1) (by decide) rfl (fun ls hl => ?_)
                refine lv_goto (tgt := 39) hx hb dX6_when_96 (by decide) ?_
                exact ih39 (d + 1) (by omega) (by omega) (by rw [whM_f2 (by omega)]; omega) ls (q_lset (lv_sub (l' := [(0, .ref x0), (1, .int (nI s1)), (2, .int (nI n1)), (3, .int (whC (whB w s1 d))), (4, .int (nI (whM w s1 d))), (5, .int (nI (d + 1)))]) hl [2, 3, 4, 5, 6, 0] rfl) (q_c2 (f := fun z3 z4 => ([(0, .ref x0), (1, .int (nI s1)), (2, .int (nI n1)), (3, .int (z3)), (4, .int (z4)), (5, .int (nI (d + 1)))] : List (Nat × Value))) (show (whC (whB w s1 d) : Int32) = whC (whB w s1 (d + 1)) from (congrArg whC (whB_f2 (by omega))).symm) (show (nI (whM w s1 d) : Int32) = nI (whM w s1 (d + 1)) from (congrArg nI (whM_f2 (by omega))).symm)))
              · refine lv_iload hx hb dX6_when_83 (lv_at hl 0 rfl) ?_
                refine q_rS (As := [.int (nI (ctLeft w ((w 2) + d)))]) (rest := []) ⟨hx, hb, hml, hown, hts⟩ (c_J6_bitCount_0f7a4 l D cy (ctLeft w ((w 2) + d)) (by omega)) (va_cwS 1 hts gX6_when_J6_bitCount_0f7a4 rfl rfl rfl (by decide +kernel) ⟨Nat.le_of_ble_eq_true rfl, Nat.le_of_ble_eq_true rfl⟩) hP hK [] rfl rfl hl.1 rfl (Nat.le_of_ble_eq_true rfl) dX6_when_85 ⟨Nat.zero_le _, Nat.zero_le _⟩ (fun r11 hr11 => ?_)
                obtain rfl := hr11
                refine lv_istore (lv' := [(4, .int (nI (bc (ctLeft w ((w 2) + d))))), (6, .int (nI (ctLeft w ((w 2) + d)))), (0, .ref x0), (1, .int (nI s1)), (2, .int (nI n1)), (3, .int (whC (whB w s1 d))), (5, .int (nI d))]) hx hb dX6_when_88 hl (by decide) rfl (fun ls hl => ?_)
                refine lv_iload hx hb dX6_when_90 (lv_at hl 6 rfl) ?_
                refine lv_istore_n (lv' := [(3, .int (nI d)), (4, .int (nI (bc (ctLeft w ((w 2) + d))))), (6, .int (nI (ctLeft w ((w 2) + d)))), (0, .ref x0), (1, .int (nI s1)), (2, .int (nI n1)), (5, .int (nI d))]) hx hb dX6_when_92 rfl hl (by decide) rfl (fun ls hl => ?_)
                refine lv_iinc (v := nI (d + 1)) (lv' := [(5, .int (nI (d + 1))), (3, .int (nI d)), (4, .int (nI (bc (ctLeft w ((w 2) + d))))), (6, .int (nI (ctLeft w ((w 2) + d)))), (0, .ref x0), (1, .int (nI s1)), (2, .int (nI n1))]) hx hb dX6_when_93 hl (k := 6) rfl (q_inc d 1) (by decide) rfl (fun ls hl => ?_)
                refine lv_goto (tgt := 39) hx hb dX6_when_96 (by decide) ?_
                exact ih39 (d + 1) (by omega) (by omega) (by rw [whM_t b8 (by omega)]; omega) ls (q_lset (lv_sub (l' := [(0, .ref x0), (1, .int (nI s1)), (2, .int (nI n1)), (3, .int (nI d)), (4, .int (nI (bc (ctLeft w ((w 2) + d))))), (5, .int (nI (d + 1)))]) hl [4, 5, 6, 1, 2, 0] rfl) (q_c2 (f := fun z3 z4 => ([(0, .ref x0), (1, .int (nI s1)), (2, .int (nI n1)), (3, .int (z3)), (4, .int (z4)), (5, .int (nI (d + 1)))] : List (Nat × Value))) (show (nI d : Int32) = whC (whB w s1 (d + 1)) from (whC_n (by omega : d ≠ 99)).symm.trans (congrArg whC (whB_t b8 (by omega))).symm) (show (nI (bc (ctLeft w ((w 2) + d))) : Int32) = nI (whM w s1 (d + 1)) from (congrArg nI (whM_t b8 (by omega))).symm)))
            · have _ := b8
              refine lv_if_eq (tgt := 93) hx hb dX6_when_70 (by decide) (fun _ => ?_) (fun c9 => absurd (by decide) c9)
              refine lv_iinc (v := nI (d + 1)) (lv' := [(5, .int (nI (d + 1))), (6, .int (nI (ctLeft w ((w 2) + d)))), (0, .ref x0), (1, .int (nI s1)), (2, .int (nI n1)), (3, .int (whC (whB w s1 d))), (4, .int (nI (whM w s1 d)))]) hx hb dX6_when_93 hl (k := 6) rfl (q_inc d 1) (by decide) rfl (fun ls hl => ?_)
              refine lv_goto (tgt := 39) hx hb dX6_when_96 (by decide) ?_
              exact ih39 (d + 1) (by omega) (by omega) (by rw [whM_f1 b8]; omega) ls (q_lset (lv_sub (l' := [(0, .ref x0), (1, .int (nI s1)), (2, .int (nI n1)), (3, .int (whC (whB w s1 d))), (4, .int (nI (whM w s1 d))), (5, .int (nI (d + 1)))]) hl [2, 3, 4, 5, 6, 0] rfl) (q_c2 (f := fun z3 z4 => ([(0, .ref x0), (1, .int (nI s1)), (2, .int (nI n1)), (3, .int (z3)), (4, .int (z4)), (5, .int (nI (d + 1)))] : List (Nat × Value))) (show (whC (whB w s1 d) : Int32) = whC (whB w s1 (d + 1)) from (congrArg whC (whB_f1 b8)).symm) (show (nI (whM w s1 d) : Int32) = nI (whM w s1 (d + 1)) from (congrArg nI (whM_f1 b8)).symm)))
      exact L39_30 (n1 + 1) 0 (by omega) (by omega) (show 1 ≤ 15 by decide) ls (q_lset (lv_sub (l' := [(0, .ref x0), (1, .int (nI s1)), (2, .int (nI n1)), (3, .int ((-1000000))), (4, .int (nI 1)), (5, .int (nI 0))]) hl [3, 4, 5, 2, 1, 0] rfl) (q_c2 (f := fun z3 z4 => ([(0, .ref x0), (1, .int (nI s1)), (2, .int (nI n1)), (3, .int (z3)), (4, .int (z4)), (5, .int (nI 0))] : List (Nat × Value))) (show ((-1000000) : Int32) = whC (whB w s1 0) from rfl) (show (nI 1 : Int32) = nI (whM w s1 0) from rfl)))
    · have _ := b4
      refine lv_if_ne (tgt := 30) hx hb dX6_when_24 (by decide) (fun c9 => absurd (by decide) c9) (fun _ => ?_)
      refine lv_ldc (v := (-1000001)) hx hb hown (hts _ mX6_when_6) dX6_when_27 ?_
      exact q_iret (v := (-1000001)) hx hb hr hlocks dX6_when_29 ((by simp only [oWhen, if_pos b2, if_neg b4]))
  · have _ := b2
    replace b2 := fun q => b2 ((inC_w hv0).mpr q)
    refine lv_if_eq (tgt := 27) hx hb dX6_when_14 (by decide) (fun _ => ?_) (fun c9 => absurd (by decide) c9)
    refine lv_ldc (v := (-1000001)) hx hb hown (hts _ mX6_when_6) dX6_when_27 ?_
    exact q_iret (v := (-1000001)) hx hb hr hlocks dX6_when_29 ((by simp only [oWhen, if_neg b2]))
theorem nX6_enough_0 : ∀ w ∈ wsX60, w ∈ wsX6_enough := by decide +kernel
theorem mX6_enough_1 : Cond.fieldLink RX6 47 "ClueLeave" "city" "LClueLeave$City;" ∈ wsX6_enough := by decide +kernel
theorem nX6_enough_2 : ∀ w ∈ wsX20, w ∈ wsX6_enough := by decide +kernel
theorem mX6_enough_3 : Cond.fieldLink RX6 130 "ClueLeave$City" "day" "I" ∈ wsX6_enough := by decide +kernel
theorem mX6_enough_4 : Cond.constant RX6 66 (-1000001) ∈ wsX6_enough := by decide +kernel
theorem mX6_enough_5 : Cond.constant RX6 129 (-1000002) ∈ wsX6_enough := by decide +kernel
set_option maxHeartbeats 4000000 in
set_option maxRecDepth 100000 in
theorem c_X6_enough (l : Launch) (D : va_G) (cy : Nat → ClassId) (x0 r0 t0 q s0 k0 j0 im : Nat) (st : Int32) (h kA tA eA oA : Nat) (w : Nat → Nat) (fk ft fe fo : Nat → Int32) (hw : ctIs w fk ft fe fo) (hv : ctOk w) (d y : Int32) : q_Rd l yX6_enough wsX6_enough 6 D cy [(x0, .inr (6, [.ref r0, .ref t0, .ref q, .ref s0, .ref k0, .ref h, .ref j0, .ref im, .int (st)])), (h, .inr (2, [.int (nI (w 0)), .int (nI (w 1)), .int (nI (w 2)), .int (nI (w 4)), .int (nI (w 3)), .ref kA, .ref tA, .ref eA, .ref oA])), (kA, .inl (cy 0, 6, .inl fk)), (tA, .inl (cy 0, 6, .inl ft)), (eA, .inl (cy 0, 6, .inl fe)), (oA, .inl (cy 0, 6, .inl fo))] [.ref x0, .int (d), .int (y)] (fun r => r = oEnough w d y) := by
  refine q_rd_of (cc := cX6_enough) (maxL := 4) (ret := (some .int)) (by decide) rfl (Nat.le_of_ble_eq_true rfl) ?_
  intro pg en s mi args below meth cd hC hP hK ls hl
  obtain ⟨hx, hb, hr, hml, hown, hts, hlocks⟩ := hC
  have hl : lv_has ls 4 [(0, .ref x0), (1, .int (d)), (2, .int (y))] := hl
  obtain ⟨hv0, hv1, hv2, hv3, hv4, hvc⟩ := id hv
  refine lv_aload_n hx hb dX6_enough_0 rfl (lv_at hl 0 rfl) ?_
  refine va_get (D := D) (ci := 6) (v := .ref h) (C := RX6) (T := TX6) (N := 9) hx hb hts nX6_enough_0 hown hK.1 hP 0 rfl rfl 5 (by decide) (hts _ mX6_enough_1) (fun _ h9 => h9) rfl dX6_enough_1 ?_
  refine q_rV (As := []) (rest := []) ⟨hx, hb, hml, hown, hts⟩ (c_X2_stands l D cy h kA tA eA oA w fk ft fe fo hw hv) (cwV 0 hts gX6_enough_X2_stands rfl rfl rfl (by decide +kernel) ⟨Nat.le_of_ble_eq_true rfl, Nat.le_of_ble_eq_true rfl⟩) hP hK [1, 2, 3, 4, 5] rfl 1 rfl rfl rfl rfl hl.1 rfl (Nat.le_of_ble_eq_true rfl) dX6_enough_4 ⟨Nat.zero_le _, Nat.zero_le _⟩ (fun r1 hr1 => ?_)
  rcases hr1 with ⟨rfl, b2⟩ | ⟨rfl, b2⟩
  · have _ := b2
    refine lv_if_ne (tgt := 13) hx hb dX6_enough_7 (by decide) (fun _ => ?_) (fun c9 => absurd c9 (by decide))
    refine lv_iload_n hx hb dX6_enough_13 rfl (lv_at hl 1 rfl) ?_
    refine lv_iconst (v := nI 0) hx hb dX6_enough_14 (by decide) ?_
    refine lv_bipush (v := nI 99) hx hb dX6_enough_15 (by decide) ?_
    refine q_rS (As := [.int (d), .int (nI 0), .int (nI 99)]) (rest := []) ⟨hx, hb, hml, hown, hts⟩ (c_X6_isWithin l D cy d (nI 0) (nI 99)) (va_cwS 3 hts gX6_enough_X6_isWithin rfl rfl rfl (by decide +kernel) ⟨Nat.le_of_ble_eq_true rfl, Nat.le_of_ble_eq_true rfl⟩) hP hK [] rfl rfl hl.1 rfl (Nat.le_of_ble_eq_true rfl) dX6_enough_17 ⟨Nat.zero_le _, Nat.zero_le _⟩ (fun r3 hr3 => ?_)
    rcases hr3 with ⟨rfl, b4⟩ | ⟨rfl, b4⟩
    · have _ := b4
      refine lv_if_eq (tgt := 32) hx hb dX6_enough_20 (by decide) (fun c9 => absurd c9 (by decide)) (fun _ => ?_)
      obtain ⟨m, -, hm, rfl⟩ := q_rng b4 (by decide) (by decide)
      refine lv_iload_n hx hb dX6_enough_23 rfl (lv_at hl 2 rfl) ?_
      refine lv_iconst (v := nI 0) hx hb dX6_enough_24 (by decide) ?_
      refine lv_iconst (v := nI 1) hx hb dX6_enough_25 (by decide) ?_
      refine q_rS (As := [.int (y), .int (nI 0), .int (nI 1)]) (rest := []) ⟨hx, hb, hml, hown, hts⟩ (c_X6_isWithin l D cy y (nI 0) (nI 1)) (va_cwS 3 hts gX6_enough_X6_isWithin rfl rfl rfl (by decide +kernel) ⟨Nat.le_of_ble_eq_true rfl, Nat.le_of_ble_eq_true rfl⟩) hP hK [] rfl rfl hl.1 rfl (Nat.le_of_ble_eq_true rfl) dX6_enough_26 ⟨Nat.zero_le _, Nat.zero_le _⟩ (fun r5 hr5 => ?_)
      rcases hr5 with ⟨rfl, b6⟩ | ⟨rfl, b6⟩
      · have _ := b6
        refine lv_if_ne (tgt := 35) hx hb dX6_enough_29 (by decide) (fun _ => ?_) (fun c9 => absurd c9 (by decide))
        obtain ⟨k, -, hk, rfl⟩ := q_rng b6 (by decide) (by decide)
        have hwl := ctWks_lt w (w 2 + m) (w 4) hv4
        refine lv_aload_n hx hb dX6_enough_35 rfl (lv_at hl 0 rfl) ?_
        refine va_get (D := D) (ci := 6) (v := .ref h) (C := RX6) (T := TX6) (N := 9) hx hb hts nX6_enough_0 hown hK.1 hP 0 rfl rfl 5 (by decide) (hts _ mX6_enough_1) (fun _ h9 => h9) rfl dX6_enough_36 ?_
        refine lv_aload_n hx hb dX6_enough_39 rfl (lv_at hl 0 rfl) ?_
        refine va_get (D := D) (ci := 6) (v := .ref h) (C := RX6) (T := TX6) (N := 9) hx hb hts nX6_enough_0 hown hK.1 hP 0 rfl rfl 5 (by decide) (hts _ mX6_enough_1) (fun _ h9 => h9) rfl dX6_enough_40 ?_
        refine va_get (D := D) (ci := 2) (v := .int (nI (w 2))) (C := RX2) (T := TX2) (N := 9) hx hb hts nX6_enough_2 hown hK.1 hP 1 rfl rfl 2 (by decide) (hts _ mX6_enough_3) (fun _ h9 => h9) rfl dX6_enough_43 ?_
        refine lv_iload_n hx hb dX6_enough_46 rfl (lv_at hl 1 rfl) ?_
        refine lv_iadd hx hb dX6_enough_47 ?_
        refine q_top (y := nI ((w 2) + m)) (nI_add _ _) ?_
        refine q_rV (As := [.int (nI ((w 2) + m))]) (rest := []) ⟨hx, hb, hml, hown, hts⟩ (c_X2_workersOn l D cy h kA tA eA oA w fk ft fe fo hw hv ((w 2) + m) (by omega)) (cwV 1 hts gX6_enough_X2_workersOn rfl rfl rfl (by decide +kernel) ⟨Nat.le_of_ble_eq_true rfl, Nat.le_of_ble_eq_true rfl⟩) hP hK [1, 2, 3, 4, 5] rfl 1 rfl rfl rfl rfl hl.1 rfl (Nat.le_of_ble_eq_true rfl) dX6_enough_48 ⟨Nat.zero_le _, Nat.zero_le _⟩ (fun r7 hr7 => ?_)
        obtain rfl := hr7
        refine lv_istore_n (lv' := [(3, .int (nI (ctWks w ((w 2) + m) (w 4)))), (0, .ref x0), (1, .int (nI m)), (2, .int (nI k))]) hx hb dX6_enough_51 rfl hl (by decide) rfl (fun ls hl => ?_)
        refine lv_aload_n hx hb dX6_enough_52 rfl (lv_at hl 1 rfl) ?_
        refine va_get (D := D) (ci := 6) (v := .ref h) (C := RX6) (T := TX6) (N := 9) hx hb hts nX6_enough_0 hown hK.1 hP 0 rfl rfl 5 (by decide) (hts _ mX6_enough_1) (fun _ h9 => h9) rfl dX6_enough_53 ?_
        refine lv_iload_n hx hb dX6_enough_56 rfl (lv_at hl 0 rfl) ?_
        refine lv_aload_n hx hb dX6_enough_57 rfl (lv_at hl 1 rfl) ?_
        refine va_get (D := D) (ci := 6) (v := .ref h) (C := RX6) (T := TX6) (N := 9) hx hb hts nX6_enough_0 hown hK.1 hP 0 rfl rfl 5 (by decide) (hts _ mX6_enough_1) (fun _ h9 => h9) rfl dX6_enough_58 ?_
        refine lv_iload_n hx hb dX6_enough_61 rfl (lv_at hl 0 rfl) ?_
        refine q_rV (As := [.int (nI (ctWks w ((w 2) + m) (w 4)))]) (rest := [.int (nI (ctWks w ((w 2) + m) (w 4))), .ref h]) ⟨hx, hb, hml, hown, hts⟩ (c_X2_leftBy l D cy h kA tA eA oA w fk ft fe fo hw hv (ctWks w ((w 2) + m) (w 4)) (by omega)) (cwV 1 hts gX6_enough_X2_leftBy rfl rfl rfl (by decide +kernel) ⟨Nat.le_of_ble_eq_true rfl, Nat.le_of_ble_eq_true rfl⟩) hP hK [1, 2, 3, 4, 5] rfl 1 rfl rfl rfl rfl hl.1 rfl (Nat.le_of_ble_eq_true rfl) dX6_enough_62 ⟨Nat.zero_le _, Nat.zero_le _⟩ (fun r8 hr8 => ?_)
        obtain rfl := hr8
        have hlb := ctLb_lt hv0 (ctWks w (w 2 + m) (w 4)) (w 4)
        refine q_rV (As := [.int (nI (ctWks w ((w 2) + m) (w 4))), .int (nI (ctLb w (ctWks w ((w 2) + m) (w 4)) (w 4)))]) (rest := []) ⟨hx, hb, hml, hown, hts⟩ (c_X2_fewestThatLeave l D cy h kA tA eA oA w fk ft fe fo hw hv (ctWks w ((w 2) + m) (w 4)) (ctLb w (ctWks w ((w 2) + m) (w 4)) (w 4)) (by omega) (by omega)) (cwV 2 hts gX6_enough_X2_fewestThatLeave rfl rfl rfl (by decide +kernel) ⟨Nat.le_of_ble_eq_true rfl, Nat.le_of_ble_eq_true rfl⟩) hP hK [1, 2, 3, 4, 5] rfl 1 rfl rfl rfl rfl hl.1 rfl (Nat.le_of_ble_eq_true rfl) dX6_enough_65 ⟨Nat.zero_le _, Nat.zero_le _⟩ (fun r9 hr9 => ?_)
        obtain rfl := hr9
        have hfl := fwF_l64 w (ctWks w (w 2 + m) (w 4)) (ctLb w (ctWks w (w 2 + m) (w 4)) (w 4)) (ctWks w (w 2 + m) (w 4) + 1) (by omega)
        refine lv_iload_n hx hb dX6_enough_68 rfl (lv_at hl 3 rfl) ?_
        refine q_rS (As := [.int (fwC (fwF w (ctWks w ((w 2) + m) (w 4)) (ctLb w (ctWks w ((w 2) + m) (w 4)) (w 4)) ((ctWks w ((w 2) + m) (w 4)) + 1))), .int (nI k)]) (rest := []) ⟨hx, hb, hml, hown, hts⟩ (c_X6_tellSet l D cy ((fwF w (ctWks w ((w 2) + m) (w 4)) (ctLb w (ctWks w ((w 2) + m) (w 4)) (w 4)) ((ctWks w ((w 2) + m) (w 4)) + 1))) k (by omega) (by omega)) (va_cwS 2 hts gX6_enough_X6_tellSet rfl rfl rfl (by decide +kernel) ⟨Nat.le_of_ble_eq_true rfl, Nat.le_of_ble_eq_true rfl⟩) hP hK [] rfl rfl hl.1 rfl (Nat.le_of_ble_eq_true rfl) dX6_enough_69 ⟨Nat.zero_le _, Nat.zero_le _⟩ (fun r10 hr10 => ?_)
        obtain rfl := hr10
        exact q_iret (v := tlS ((fwF w (ctWks w ((w 2) + m) (w 4)) (ctLb w (ctWks w ((w 2) + m) (w 4)) (w 4)) ((ctWks w ((w 2) + m) (w 4)) + 1))) k) hx hb hr hlocks dX6_enough_72 ((by simp only [oEnough, q_cl (by omega : m < 2147483648), q_cl (by omega : k < 2147483648), if_pos b2, if_pos b4, if_pos b6]))
      · have _ := b6
        refine lv_if_ne (tgt := 35) hx hb dX6_enough_29 (by decide) (fun c9 => absurd (by decide) c9) (fun _ => ?_)
        refine lv_ldc (v := (-1000001)) hx hb hown (hts _ mX6_enough_4) dX6_enough_32 ?_
        exact q_iret (v := (-1000001)) hx hb hr hlocks dX6_enough_34 ((by simp only [oEnough, if_pos b2, if_pos b4, if_neg b6]))
    · have _ := b4
      refine lv_if_eq (tgt := 32) hx hb dX6_enough_20 (by decide) (fun _ => ?_) (fun c9 => absurd (by decide) c9)
      refine lv_ldc (v := (-1000001)) hx hb hown (hts _ mX6_enough_4) dX6_enough_32 ?_
      exact q_iret (v := (-1000001)) hx hb hr hlocks dX6_enough_34 ((by simp only [oEnough, if_pos b2, if_neg b4]))
  · have _ := b2
    refine lv_if_ne (tgt := 13) hx hb dX6_enough_7 (by decide) (fun c9 => absurd (by decide) c9) (fun _ => ?_)
    refine lv_ldc (v := (-1000002)) hx hb hown (hts _ mX6_enough_5) dX6_enough_10 ?_
    exact q_iret (v := (-1000002)) hx hb hr hlocks dX6_enough_12 ((by simp only [oEnough, if_neg b2]))
theorem nX6_clash_0 : ∀ w ∈ wsX60, w ∈ wsX6_clash := by decide +kernel
theorem mX6_clash_1 : Cond.fieldLink RX6 47 "ClueLeave" "city" "LClueLeave$City;" ∈ wsX6_clash := by decide +kernel
theorem nX6_clash_2 : ∀ w ∈ wsX20, w ∈ wsX6_clash := by decide +kernel
theorem mX6_clash_3 : Cond.fieldLink RX6 130 "ClueLeave$City" "day" "I" ∈ wsX6_clash := by decide +kernel
theorem mX6_clash_4 : Cond.constant RX6 66 (-1000001) ∈ wsX6_clash := by decide +kernel
theorem mX6_clash_5 : Cond.constant RX6 129 (-1000002) ∈ wsX6_clash := by decide +kernel
set_option maxHeartbeats 4000000 in
set_option maxRecDepth 100000 in
theorem c_X6_clash (l : Launch) (D : va_G) (cy : Nat → ClassId) (x0 r0 t0 q s0 k0 j0 im : Nat) (st : Int32) (h kA tA eA oA : Nat) (w : Nat → Nat) (fk ft fe fo : Nat → Int32) (hw : ctIs w fk ft fe fo) (hv : ctOk w) (d y : Int32) : q_Rd l yX6_clash wsX6_clash 6 D cy [(x0, .inr (6, [.ref r0, .ref t0, .ref q, .ref s0, .ref k0, .ref h, .ref j0, .ref im, .int (st)])), (h, .inr (2, [.int (nI (w 0)), .int (nI (w 1)), .int (nI (w 2)), .int (nI (w 4)), .int (nI (w 3)), .ref kA, .ref tA, .ref eA, .ref oA])), (kA, .inl (cy 0, 6, .inl fk)), (tA, .inl (cy 0, 6, .inl ft)), (eA, .inl (cy 0, 6, .inl fe)), (oA, .inl (cy 0, 6, .inl fo))] [.ref x0, .int (d), .int (y)] (fun r => r = oClash w d y) := by
  refine q_rd_of (cc := cX6_clash) (maxL := 3) (ret := (some .int)) (by decide) rfl (Nat.le_of_ble_eq_true rfl) ?_
  intro pg en s mi args below meth cd hC hP hK ls hl
  obtain ⟨hx, hb, hr, hml, hown, hts, hlocks⟩ := hC
  have hl : lv_has ls 3 [(0, .ref x0), (1, .int (d)), (2, .int (y))] := hl
  obtain ⟨hv0, hv1, hv2, hv3, hv4, hvc⟩ := id hv
  refine lv_aload_n hx hb dX6_clash_0 rfl (lv_at hl 0 rfl) ?_
  refine va_get (D := D) (ci := 6) (v := .ref h) (C := RX6) (T := TX6) (N := 9) hx hb hts nX6_clash_0 hown hK.1 hP 0 rfl rfl 5 (by decide) (hts _ mX6_clash_1) (fun _ h9 => h9) rfl dX6_clash_1 ?_
  refine q_rV (As := []) (rest := []) ⟨hx, hb, hml, hown, hts⟩ (c_X2_stands l D cy h kA tA eA oA w fk ft fe fo hw hv) (cwV 0 hts gX6_clash_X2_stands rfl rfl rfl (by decide +kernel) ⟨Nat.le_of_ble_eq_true rfl, Nat.le_of_ble_eq_true rfl⟩) hP hK [1, 2, 3, 4, 5] rfl 1 rfl rfl rfl rfl hl.1 rfl (Nat.le_of_ble_eq_true rfl) dX6_clash_4 ⟨Nat.zero_le _, Nat.zero_le _⟩ (fun r1 hr1 => ?_)
  rcases hr1 with ⟨rfl, b2⟩ | ⟨rfl, b2⟩
  · have _ := b2
    refine lv_if_ne (tgt := 13) hx hb dX6_clash_7 (by decide) (fun _ => ?_) (fun c9 => absurd c9 (by decide))
    refine lv_iload_n hx hb dX6_clash_13 rfl (lv_at hl 1 rfl) ?_
    refine lv_iconst (v := nI 0) hx hb dX6_clash_14 (by decide) ?_
    refine lv_bipush (v := nI 99) hx hb dX6_clash_15 (by decide) ?_
    refine q_rS (As := [.int (d), .int (nI 0), .int (nI 99)]) (rest := []) ⟨hx, hb, hml, hown, hts⟩ (c_X6_isWithin l D cy d (nI 0) (nI 99)) (va_cwS 3 hts gX6_clash_X6_isWithin rfl rfl rfl (by decide +kernel) ⟨Nat.le_of_ble_eq_true rfl, Nat.le_of_ble_eq_true rfl⟩) hP hK [] rfl rfl hl.1 rfl (Nat.le_of_ble_eq_true rfl) dX6_clash_17 ⟨Nat.zero_le _, Nat.zero_le _⟩ (fun r3 hr3 => ?_)
    rcases hr3 with ⟨rfl, b4⟩ | ⟨rfl, b4⟩
    · have _ := b4
      refine lv_if_eq (tgt := 32) hx hb dX6_clash_20 (by decide) (fun c9 => absurd c9 (by decide)) (fun _ => ?_)
      obtain ⟨m, -, hm, rfl⟩ := q_rng b4 (by decide) (by decide)
      refine lv_iload_n hx hb dX6_clash_23 rfl (lv_at hl 2 rfl) ?_
      refine lv_iconst (v := nI 0) hx hb dX6_clash_24 (by decide) ?_
      refine lv_iconst (v := nI 1) hx hb dX6_clash_25 (by decide) ?_
      refine q_rS (As := [.int (y), .int (nI 0), .int (nI 1)]) (rest := []) ⟨hx, hb, hml, hown, hts⟩ (c_X6_isWithin l D cy y (nI 0) (nI 1)) (va_cwS 3 hts gX6_clash_X6_isWithin rfl rfl rfl (by decide +kernel) ⟨Nat.le_of_ble_eq_true rfl, Nat.le_of_ble_eq_true rfl⟩) hP hK [] rfl rfl hl.1 rfl (Nat.le_of_ble_eq_true rfl) dX6_clash_26 ⟨Nat.zero_le _, Nat.zero_le _⟩ (fun r5 hr5 => ?_)
      rcases hr5 with ⟨rfl, b6⟩ | ⟨rfl, b6⟩
      · have _ := b6
        refine lv_if_ne (tgt := 35) hx hb dX6_clash_29 (by decide) (fun _ => ?_) (fun c9 => absurd c9 (by decide))
        obtain ⟨k, -, hk, rfl⟩ := q_rng b6 (by decide) (by decide)
        have hwl := ctWks_lt w (w 2 + m) (w 4) hv4
        refine lv_aload_n hx hb dX6_clash_35 rfl (lv_at hl 0 rfl) ?_
        refine va_get (D := D) (ci := 6) (v := .ref h) (C := RX6) (T := TX6) (N := 9) hx hb hts nX6_clash_0 hown hK.1 hP 0 rfl rfl 5 (by decide) (hts _ mX6_clash_1) (fun _ h9 => h9) rfl dX6_clash_36 ?_
        refine lv_aload_n hx hb dX6_clash_39 rfl (lv_at hl 0 rfl) ?_
        refine va_get (D := D) (ci := 6) (v := .ref h) (C := RX6) (T := TX6) (N := 9) hx hb hts nX6_clash_0 hown hK.1 hP 0 rfl rfl 5 (by decide) (hts _ mX6_clash_1) (fun _ h9 => h9) rfl dX6_clash_40 ?_
        refine lv_aload_n hx hb dX6_clash_43 rfl (lv_at hl 0 rfl) ?_
        refine va_get (D := D) (ci := 6) (v := .ref h) (C := RX6) (T := TX6) (N := 9) hx hb hts nX6_clash_0 hown hK.1 hP 0 rfl rfl 5 (by decide) (hts _ mX6_clash_1) (fun _ h9 => h9) rfl dX6_clash_44 ?_
        refine va_get (D := D) (ci := 2) (v := .int (nI (w 2))) (C := RX2) (T := TX2) (N := 9) hx hb hts nX6_clash_2 hown hK.1 hP 1 rfl rfl 2 (by decide) (hts _ mX6_clash_3) (fun _ h9 => h9) rfl dX6_clash_47 ?_
        refine lv_iload_n hx hb dX6_clash_50 rfl (lv_at hl 1 rfl) ?_
        refine lv_iadd hx hb dX6_clash_51 ?_
        refine q_top (y := nI ((w 2) + m)) (nI_add _ _) ?_
        refine q_rV (As := [.int (nI ((w 2) + m))]) (rest := [.ref h]) ⟨hx, hb, hml, hown, hts⟩ (c_X2_workersOn l D cy h kA tA eA oA w fk ft fe fo hw hv ((w 2) + m) (by omega)) (cwV 1 hts gX6_clash_X2_workersOn rfl rfl rfl (by decide +kernel) ⟨Nat.le_of_ble_eq_true rfl, Nat.le_of_ble_eq_true rfl⟩) hP hK [1, 2, 3, 4, 5] rfl 1 rfl rfl rfl rfl hl.1 rfl (Nat.le_of_ble_eq_true rfl) dX6_clash_52 ⟨Nat.zero_le _, Nat.zero_le _⟩ (fun r7 hr7 => ?_)
        obtain rfl := hr7
        refine lv_iconst (v := nI 0) hx hb dX6_clash_55 (by decide) ?_
        refine q_rV (As := [.int (nI (ctWks w ((w 2) + m) (w 4))), .int (nI 0)]) (rest := []) ⟨hx, hb, hml, hown, hts⟩ (c_X2_fewestThatLeave l D cy h kA tA eA oA w fk ft fe fo hw hv (ctWks w ((w 2) + m) (w 4)) 0 (by omega) (by omega)) (cwV 2 hts gX6_clash_X2_fewestThatLeave rfl rfl rfl (by decide +kernel) ⟨Nat.le_of_ble_eq_true rfl, Nat.le_of_ble_eq_true rfl⟩) hP hK [1, 2, 3, 4, 5] rfl 1 rfl rfl rfl rfl hl.1 rfl (Nat.le_of_ble_eq_true rfl) dX6_clash_56 ⟨Nat.zero_le _, Nat.zero_le _⟩ (fun r8 hr8 => ?_)
        obtain rfl := hr8
        have hfl := fwF_l64 w (ctWks w (w 2 + m) (w 4)) 0 (ctWks w (w 2 + m) (w 4) + 1) (by omega)
        refine lv_iload_n hx hb dX6_clash_59 rfl (lv_at hl 2 rfl) ?_
        refine q_rS (As := [.int (fwC (fwF w (ctWks w ((w 2) + m) (w 4)) 0 ((ctWks w ((w 2) + m) (w 4)) + 1))), .int (nI k)]) (rest := []) ⟨hx, hb, hml, hown, hts⟩ (c_X6_tellSet l D cy ((fwF w (ctWks w ((w 2) + m) (w 4)) 0 ((ctWks w ((w 2) + m) (w 4)) + 1))) k (by omega) (by omega)) (va_cwS 2 hts gX6_clash_X6_tellSet rfl rfl rfl (by decide +kernel) ⟨Nat.le_of_ble_eq_true rfl, Nat.le_of_ble_eq_true rfl⟩) hP hK [] rfl rfl hl.1 rfl (Nat.le_of_ble_eq_true rfl) dX6_clash_60 ⟨Nat.zero_le _, Nat.zero_le _⟩ (fun r9 hr9 => ?_)
        obtain rfl := hr9
        exact q_iret (v := tlS ((fwF w (ctWks w ((w 2) + m) (w 4)) 0 ((ctWks w ((w 2) + m) (w 4)) + 1))) k) hx hb hr hlocks dX6_clash_63 ((by simp only [oClash, q_cl (by omega : m < 2147483648), q_cl (by omega : k < 2147483648), if_pos b2, if_pos b4, if_pos b6]))
      · have _ := b6
        refine lv_if_ne (tgt := 35) hx hb dX6_clash_29 (by decide) (fun c9 => absurd (by decide) c9) (fun _ => ?_)
        refine lv_ldc (v := (-1000001)) hx hb hown (hts _ mX6_clash_4) dX6_clash_32 ?_
        exact q_iret (v := (-1000001)) hx hb hr hlocks dX6_clash_34 ((by simp only [oClash, if_pos b2, if_pos b4, if_neg b6]))
    · have _ := b4
      refine lv_if_eq (tgt := 32) hx hb dX6_clash_20 (by decide) (fun _ => ?_) (fun c9 => absurd (by decide) c9)
      refine lv_ldc (v := (-1000001)) hx hb hown (hts _ mX6_clash_4) dX6_clash_32 ?_
      exact q_iret (v := (-1000001)) hx hb hr hlocks dX6_clash_34 ((by simp only [oClash, if_pos b2, if_neg b4]))
  · have _ := b2
    refine lv_if_ne (tgt := 13) hx hb dX6_clash_7 (by decide) (fun c9 => absurd (by decide) c9) (fun _ => ?_)
    refine lv_ldc (v := (-1000002)) hx hb hown (hts _ mX6_clash_5) dX6_clash_10 ?_
    exact q_iret (v := (-1000002)) hx hb hr hlocks dX6_clash_12 ((by simp only [oClash, if_neg b2]))

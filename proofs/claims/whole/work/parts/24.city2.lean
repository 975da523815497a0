/-! the fewest clues of W (bits) that leave L: 64 is none -/
def fwF (w : Nat → Nat) (W L : Nat) : Nat → Nat
  | 0 => 64
  | k + 1 => if k &&& (63 ^^^ W) = 0 ∧ (fwF w W L k = 64 ∨ bc k < bc (fwF w W L k)) ∧ ctLb w k (w 4) = L then k else fwF w W L k
def fwC (b : Nat) : Int32 := if b = 64 then -1000000 else nI b
theorem fwF_le (w : Nat → Nat) (W L : Nat) : ∀ k, fwF w W L k = 64 ∨ fwF w W L k < k
  | 0 => Or.inl rfl
  | k + 1 => by
    have := fwF_le w W L k
    rw [fwF]
    split
    · exact Or.inr (by omega)
    · omega
theorem fwC_n {b : Nat} (h : b ≠ 64) : fwC b = nI b := if_neg h
theorem fwC_ne {b : Nat} (h : ¬ fwC b = -1000000) : b ≠ 64 := fun q => h (by rw [q]; rfl)
theorem fwC_64 {b : Nat} (h : fwC b = -1000000) (hb : b ≤ 64) : b = 64 := by
  have : ∀ b, b < 65 → fwC b = -1000000 → b = 64 := by decide +kernel
  exact this b (by omega) h
theorem fwC_1 {b x : Nat} (h : fwC b = -1000000) (hb : b ≤ 64 := by omega) : b = 64 ∨ x < bc b := Or.inl (fwC_64 h hb)
theorem fwC_2 {b x : Nat} (h : b ≠ 64) (h2 : bc b ≤ x) : ¬ (b = 64 ∨ x < bc b) := by omega
theorem fwF_f1 {w : Nat → Nat} {W L k : Nat} (h : 0 < k &&& (63 ^^^ W)) : fwF w W L (k + 1) = fwF w W L k := by
  rw [fwF, if_neg (fun q => by omega)]
theorem fwF_f2 {w : Nat → Nat} {W L k : Nat} (h : ¬ (fwF w W L k = 64 ∨ bc k < bc (fwF w W L k))) : fwF w W L (k + 1) = fwF w W L k := by
  rw [fwF, if_neg (fun q => h q.2.1)]
theorem fwF_f3 {w : Nat → Nat} {W L k : Nat} (h : ctLb w k (w 4) ≠ L) : fwF w W L (k + 1) = fwF w W L k := by
  rw [fwF, if_neg (fun q => h q.2.2)]
theorem fwF_t {w : Nat → Nat} {W L k : Nat} (h : k &&& (63 ^^^ W) = 0) (h2 : fwF w W L k = 64 ∨ bc k < bc (fwF w W L k)) (h3 : ctLb w k (w 4) = L) : fwF w W L (k + 1) = k := by
  rw [fwF, if_pos ⟨h, h2, h3⟩]
theorem nand6_fin : ∀ a, a < 64 → ∀ b, b < 64 → nI a &&& (nI b ^^^ (-1)) = nI (a &&& (63 ^^^ b)) := by decide +kernel
theorem nand6 {a b : Nat} (ha : a < 64) (hb : b < 64) : nI a &&& (nI b ^^^ (-1)) = nI (a &&& (63 ^^^ b)) := nand6_fin a ha b hb
/-- how likely it is sure: in tenths to the power of how many are at work -/
def tsF (w : Nat → Nat) (W c : Nat) : Nat → Nat
  | 0 => 0
  | k + 1 => if k &&& (63 ^^^ W) = 0 ∧ onl (ctLb w k (w 4)) ≠ -1000000 then tsF w W c k + (10 - c) ^ bc k * c ^ (bc W - bc k) else tsF w W c k
theorem tsF_f1 {w : Nat → Nat} {W c k : Nat} (h : 0 < k &&& (63 ^^^ W)) : tsF w W c (k + 1) = tsF w W c k := by
  rw [tsF, if_neg (fun q => by omega)]
theorem tsF_f2 {w : Nat → Nat} {W c k : Nat} (h : onl (ctLb w k (w 4)) = -1000000) : tsF w W c (k + 1) = tsF w W c k := by
  rw [tsF, if_neg (fun q => q.2 h)]
theorem tsF_t {w : Nat → Nat} {W c k : Nat} (h : k &&& (63 ^^^ W) = 0) (h2 : ¬ onl (ctLb w k (w 4)) = -1000000) : tsF w W c (k + 1) = tsF w W c k + (10 - c) ^ bc k * c ^ (bc W - bc k) := by
  rw [tsF, if_pos ⟨h, h2⟩]
theorem bc_sub_fin : ∀ a, a < 64 → ∀ b, b < 64 → a &&& (63 ^^^ b) = 0 → bc a ≤ bc b := by decide +kernel
theorem bc_sub {a b : Nat} (ha : a < 64) (hb : b < 64) (h : a &&& (63 ^^^ b) = 0) : bc a ≤ bc b := bc_sub_fin a ha b hb h
/-- Euclid's steps, and how far they go -/
def gdI (x y i : Nat) : Prop := x < 2 ^ 31 ∧ y < 2 ^ 31 ∧ (i = 0 ∨ (y < x ∧ x * y * 2 ^ i ≤ 2 ^ 63))
theorem gdI_s {x y i : Nat} (h : gdI x y i) (hy : 0 < y) : gdI y (x % y) (i + 1) := by
  obtain ⟨h1, h2, h3⟩ := h
  have hm : x % y < y := Nat.mod_lt _ hy
  refine ⟨h2, by omega, Or.inr ⟨hm, ?_⟩⟩
  rcases h3 with h3 | ⟨h3, h4⟩
  · subst h3
    have : y * (x % y) ≤ 2 ^ 31 * 2 ^ 31 := Nat.mul_le_mul (by omega) (by omega)
    rw [show (2 : Nat) ^ (0 + 1) = 2 from rfl]
    omega
  · have e : x % y * 2 ≤ x := by
      have h5 : x % y + y ≤ x := by
        have h6 := Nat.mod_add_div x y
        have h7 : y * 1 ≤ y * (x / y) := Nat.mul_le_mul_left y (Nat.div_pos (by omega) hy)
        omega
      omega
    calc y * (x % y) * 2 ^ (i + 1) = y * (x % y * 2) * 2 ^ i := by rw [Nat.pow_succ, Nat.mul_comm (2 ^ i) 2, ← Nat.mul_assoc, Nat.mul_assoc y]
      _ ≤ y * x * 2 ^ i := Nat.mul_le_mul_right _ (Nat.mul_le_mul_left _ e)
      _ = x * y * 2 ^ i := by rw [Nat.mul_comm y x]
      _ ≤ 2 ^ 63 := h4
theorem gdI_100 {x y i : Nat} (h : gdI x y i) (hi : 100 ≤ i) : y = 0 := by
  obtain ⟨h1, h2, h3⟩ := h
  rcases Nat.eq_zero_or_pos y with q | q
  · exact q
  · rcases h3 with h3 | ⟨h3, h4⟩
    · omega
    · have h5 : 1 ≤ x * y := Nat.mul_pos (by omega) q
      have h6 : (2 : Nat) ^ 100 ≤ 2 ^ i := Nat.pow_le_pow_right (by decide) hi
      have h7 : 1 * 2 ^ 100 ≤ x * y * 2 ^ i := Nat.mul_le_mul h5 h6
      have h8 : (2 : Nat) ^ 63 < 1 * 2 ^ 100 := by decide
      omega
theorem gd_0 {x y G : Nat} (h : Nat.gcd x y = G) (hy : y = 0) : x = G := by rw [hy, Nat.gcd_zero_right] at h; exact h
theorem gd_s {x y G : Nat} (h : Nat.gcd x y = G) : Nat.gcd y (x % y) = G := by rw [← h, Nat.gcd_comm x y, Nat.gcd_rec y x, Nat.gcd_comm]
def tlS (b wh : Nat) : Int32 := if b = 64 then -1000000 else if wh = 0 then nI (bc b) else nI b
theorem tlS_0 {b wh : Nat} (h : b = 64) : tlS b wh = -1000000 := if_pos h
theorem tlS_1 {b wh : Nat} (h : b ≠ 64) (h2 : wh = 0) : tlS b wh = nI (bc b) := by unfold tlS; rw [if_neg h, if_pos h2]
theorem tlS_2 {b wh : Nat} (h : b ≠ 64) (h2 : ¬ wh = 0) : tlS b wh = nI b := by unfold tlS; rw [if_neg h, if_neg h2]
theorem mX2_fewestThatLeave_0 : Cond.constant RX2 71 (-1000000) ∈ wsX2_fewestThatLeave := by decide +kernel
set_option maxHeartbeats 4000000 in
set_option maxRecDepth 100000 in
theorem c_X2_fewestThatLeave (l : Launch) (D : va_G) (cy : Nat → ClassId) (h kA tA eA oA : Nat) (w : Nat → Nat) (fk ft fe fo : Nat → Int32) (hw : ctIs w fk ft fe fo) (hv : ctOk w) (B1 L : Nat) (hW : B1 < 64) (hL : L < 64) : q_Rd l yX2_fewestThatLeave wsX2_fewestThatLeave 5 D cy [(h, .inr (2, [.int (nI (w 0)), .int (nI (w 1)), .int (nI (w 2)), .int (nI (w 4)), .int (nI (w 3)), .ref kA, .ref tA, .ref eA, .ref oA])), (kA, .inl (cy 0, 6, .inl fk)), (tA, .inl (cy 0, 6, .inl ft)), (eA, .inl (cy 0, 6, .inl fe)), (oA, .inl (cy 0, 6, .inl fo))] [.ref h, .int (nI B1), .int (nI L)] (fun r => r = fwC (fwF w B1 L (B1 + 1))) := by
  refine q_rd_of (cc := cX2_fewestThatLeave) (maxL := 6) (ret := (some .int)) (by decide) rfl (Nat.le_of_ble_eq_true rfl) ?_
  intro pg en s mi args below meth cd hC hP hK ls hl
  obtain ⟨hx, hb, hr, hml, hown, hts, hlocks⟩ := hC
  have hl : lv_has ls 6 [(0, .ref h), (1, .int (nI B1)), (2, .int (nI L))] := hl
  obtain ⟨hv0, hv1, hv2, hv3, hv4, hvc⟩ := id hv
  refine lv_ldc (v := (-1000000)) hx hb hown (hts _ mX2_fewestThatLeave_0) dX2_fewestThatLeave_0 ?_
  refine lv_istore_n (lv' := [(3, .int ((-1000000))), (0, .ref h), (1, .int (nI B1)), (2, .int (nI L))]) hx hb dX2_fewestThatLeave_2 rfl hl (by decide) rfl (fun ls hl => ?_)
  refine lv_iconst (v := nI 0) hx hb dX2_fewestThatLeave_3 (by decide) ?_
  refine lv_istore (lv' := [(4, .int (nI 0)), (3, .int ((-1000000))), (0, .ref h), (1, .int (nI B1)), (2, .int (nI L))]) hx hb dX2_fewestThatLeave_4 hl (by decide) rfl (fun ls hl => ?_)
  have L6_7 : ∀ (fu k : Nat), k ≤ (B1 + 1) → (B1 + 1) < k + fu → ∀ ls : Array Slot, lv_has ls 6 [(0, .ref h), (1, .int (nI B1)), (2, .int (nI L)), (3, .int (fwC (fwF w B1 L k))), (4, .int (nI k))] → W pg l en (q_rm 5) s mi args below meth cd s.heap [] 0 0 (MQ below (vp_Si (fun r => r = fwC (fwF w B1 L (B1 + 1)))) args s 0 0 (fun _ => False)) (F0 mi 6 ls []) := by
    intro fu
    induction fu with
    | zero =>
      intro k h1 h2
      exact absurd h2 (by omega)
    | succ fu ih6 =>
      intro k h1_6 h2_6 ls hl
      have hle := fwF_le w B1 L k
      refine lv_iload hx hb dX2_fewestThatLeave_6 (lv_at hl 4 rfl) ?_
      refine lv_iload_n hx hb dX2_fewestThatLeave_8 rfl (lv_at hl 1 rfl) ?_
      refine q_icmp_gt (tgt := 70) hx hb dX2_fewestThatLeave_9 (by decide) (by omega) (by omega) (fun c1 => ?_) (fun c1 => ?_)
      · refine lv_iload_n hx hb dX2_fewestThatLeave_70 rfl (lv_at hl 3 rfl) ?_
        exact q_iret (v := fwC (fwF w B1 L k)) hx hb hr hlocks dX2_fewestThatLeave_71 (by rw [show k = B1 + 1 by omega])
      · refine lv_iload_n hx hb dX2_fewestThatLeave_12 rfl (lv_at hl 3 rfl) ?_
        refine lv_ldc (v := (-1000000)) hx hb hown (hts _ mX2_fewestThatLeave_0) dX2_fewestThatLeave_13 ?_
        refine lv_icmp_eq (tgt := 30) hx hb dX2_fewestThatLeave_15 (by decide) (fun c2 => ?_) (fun c2 => ?_)
        · refine lv_iconst (v := nI 1) hx hb dX2_fewestThatLeave_30 (by decide) ?_
          refine lv_goto (tgt := 35) hx hb dX2_fewestThatLeave_31 (by decide) ?_
          refine lv_istore (lv' := [(5, .int (nI 1)), (0, .ref h), (1, .int (nI B1)), (2, .int (nI L)), (3, .int (fwC (fwF w B1 L k))), (4, .int (nI k))]) hx hb dX2_fewestThatLeave_35 hl (by decide) rfl (fun ls hl => ?_)
          refine lv_iload hx hb dX2_fewestThatLeave_37 (lv_at hl 5 rfl) ?_
          refine lv_iload_n hx hb dX2_fewestThatLeave_39 rfl (lv_at hl 2 rfl) ?_
          refine lv_iconst (v := (-1)) hx hb dX2_fewestThatLeave_40 (by decide) ?_
          refine lv_ixor hx hb dX2_fewestThatLeave_41 ?_
          refine lv_iand hx hb dX2_fewestThatLeave_42 ?_
          refine q_top (y := nI (k &&& (63 ^^^ B1))) (nand6 (by omega) hW) ?_
          have hkw : k &&& (63 ^^^ B1) < 64 := Nat.lt_of_le_of_lt Nat.and_le_left (by omega)
          refine q_if_ne (tgt := 64) hx hb dX2_fewestThatLeave_43 (by decide) (by omega) (fun c3 => ?_) (fun c3 => ?_)
          · refine lv_iinc (v := nI (k + 1)) (lv' := [(4, .int (nI (k + 1))), (5, .int (nI 1)), (0, .ref h), (1, .int (nI B1)), (2, .int (nI L)), (3, .int (fwC (fwF w B1 L k)))]) hx hb dX2_fewestThatLeave_64 hl (k := 5) rfl (q_inc k 1) (by decide) rfl (fun ls hl => ?_)
            refine lv_goto (tgt := 6) hx hb dX2_fewestThatLeave_67 (by decide) ?_
            exact ih6 (k + 1) (by omega) (by omega) ls (q_lset (lv_sub (l' := [(0, .ref h), (1, .int (nI B1)), (2, .int (nI L)), (3, .int (fwC (fwF w B1 L k))), (4, .int (nI (k + 1)))]) hl [2, 3, 4, 5, 0] rfl) (q_c1 (f := fun z3 => ([(0, .ref h), (1, .int (nI B1)), (2, .int (nI L)), (3, .int (z3)), (4, .int (nI (k + 1)))] : List (Nat × Value))) (show (fwC (fwF w B1 L k) : Int32) = fwC (fwF w B1 L (k + 1)) from (congrArg fwC (fwF_f1 c3)).symm)))
          · refine lv_iload hx hb dX2_fewestThatLeave_46 (lv_at hl 0 rfl) ?_
            refine lv_if_eq (tgt := 64) hx hb dX2_fewestThatLeave_48 (by decide) (fun c9 => absurd c9 (by decide)) (fun _ => ?_)
            refine lv_aload_n hx hb dX2_fewestThatLeave_51 rfl (lv_at hl 1 rfl) ?_
            refine lv_iload hx hb dX2_fewestThatLeave_52 (lv_at hl 5 rfl) ?_
            refine q_rV (As := [.int (nI k)]) (rest := []) ⟨hx, hb, hml, hown, hts⟩ (c_X2_leftBy l D cy h kA tA eA oA w fk ft fe fo hw hv k (by omega)) (cwV 1 hts gX2_fewestThatLeave_X2_leftBy rfl rfl rfl (by decide +kernel) ⟨Nat.le_of_ble_eq_true rfl, Nat.le_of_ble_eq_true rfl⟩) hP hK [0, 1, 2, 3, 4] rfl 0 rfl rfl rfl rfl hl.1 rfl (Nat.le_of_ble_eq_true rfl) dX2_fewestThatLeave_54 ⟨Nat.zero_le _, Nat.zero_le _⟩ (fun r4 hr4 => ?_)
            obtain rfl := hr4
            have hlb := ctLb_lt hv0 k (w 4)
            refine lv_iload_n hx hb dX2_fewestThatLeave_57 rfl (lv_at hl 3 rfl) ?_
            refine q_icmp_ne (tgt := 64) hx hb dX2_fewestThatLeave_58 (by decide) (by omega) (by omega) (fun c5 => ?_) (fun c5 => ?_)
            · refine lv_iinc (v := nI (k + 1)) (lv' := [(4, .int (nI (k + 1))), (5, .int (nI 1)), (0, .ref h), (1, .int (nI B1)), (2, .int (nI L)), (3, .int (fwC (fwF w B1 L k)))]) hx hb dX2_fewestThatLeave_64 hl (k := 5) rfl (q_inc k 1) (by decide) rfl (fun ls hl => ?_)
              refine lv_goto (tgt := 6) hx hb dX2_fewestThatLeave_67 (by decide) ?_
              exact ih6 (k + 1) (by omega) (by omega) ls (q_lset (lv_sub (l' := [(0, .ref h), (1, .int (nI B1)), (2, .int (nI L)), (3, .int (fwC (fwF w B1 L k))), (4, .int (nI (k + 1)))]) hl [2, 3, 4, 5, 0] rfl) (q_c1 (f := fun z3 => ([(0, .ref h), (1, .int (nI B1)), (2, .int (nI L)), (3, .int (z3)), (4, .int (nI (k + 1)))] : List (Nat × Value))) (show (fwC (fwF w B1 L k) : Int32) = fwC (fwF w B1 L (k + 1)) from (congrArg fwC (fwF_f3 c5)).symm)))
            · refine lv_iload hx hb dX2_fewestThatLeave_61 (lv_at hl 5 rfl) ?_
              refine lv_istore_n (lv' := [(3, .int (nI k)), (5, .int (nI 1)), (0, .ref h), (1, .int (nI B1)), (2, .int (nI L)), (4, .int (nI k))]) hx hb dX2_fewestThatLeave_63 rfl hl (by decide) rfl (fun ls hl => ?_)
              refine lv_iinc (v := nI (k + 1)) (lv' := [(4, .int (nI (k + 1))), (3, .int (nI k)), (5, .int (nI 1)), (0, .ref h), (1, .int (nI B1)), (2, .int (nI L))]) hx hb dX2_fewestThatLeave_64 hl (k := 5) rfl (q_inc k 1) (by decide) rfl (fun ls hl => ?_)
              refine lv_goto (tgt := 6) hx hb dX2_fewestThatLeave_67 (by decide) ?_
              exact ih6 (k + 1) (by omega) (by omega) ls (q_lset (lv_sub (l' := [(0, .ref h), (1, .int (nI B1)), (2, .int (nI L)), (3, .int (nI k)), (4, .int (nI (k + 1)))]) hl [3, 4, 5, 1, 0] rfl) (q_c1 (f := fun z3 => ([(0, .ref h), (1, .int (nI B1)), (2, .int (nI L)), (3, .int (z3)), (4, .int (nI (k + 1)))] : List (Nat × Value))) (show (nI k : Int32) = fwC (fwF w B1 L (k + 1)) from (fwC_n (by omega : k ≠ 64)).symm.trans (congrArg fwC (fwF_t c3 (fwC_1 c2) c5)).symm)))
        · have hb64 := fwC_ne c2
          refine lv_iload hx hb dX2_fewestThatLeave_18 (lv_at hl 4 rfl) ?_
          refine q_rS (As := [.int (nI k)]) (rest := []) ⟨hx, hb, hml, hown, hts⟩ (c_J6_bitCount_0f7a4 l D cy k (by omega)) (va_cwS 1 hts gX2_fewestThatLeave_J6_bitCount_0f7a4 rfl rfl rfl (by decide +kernel) ⟨Nat.le_of_ble_eq_true rfl, Nat.le_of_ble_eq_true rfl⟩) hP hK [] rfl rfl hl.1 rfl (Nat.le_of_ble_eq_true rfl) dX2_fewestThatLeave_20 ⟨Nat.zero_le _, Nat.zero_le _⟩ (fun r6 hr6 => ?_)
          obtain rfl := hr6
          refine lv_iload_n hx hb dX2_fewestThatLeave_23 rfl (lv_at hl 3 rfl) ?_
          refine q_top (y := nI (fwF w B1 L k)) (fwC_n hb64) ?_
          refine q_rS (As := [.int (nI (fwF w B1 L k))]) (rest := [.int (nI (bc k))]) ⟨hx, hb, hml, hown, hts⟩ (c_J6_bitCount_0f7a4 l D cy (fwF w B1 L k) (by omega)) (va_cwS 1 hts gX2_fewestThatLeave_J6_bitCount_0f7a4 rfl rfl rfl (by decide +kernel) ⟨Nat.le_of_ble_eq_true rfl, Nat.le_of_ble_eq_true rfl⟩) hP hK [] rfl rfl hl.1 rfl (Nat.le_of_ble_eq_true rfl) dX2_fewestThatLeave_24 ⟨Nat.zero_le _, Nat.zero_le _⟩ (fun r7 hr7 => ?_)
          obtain rfl := hr7
          have hbc1 := bc_lt k (by omega)
          have hbc2 := bc_lt (fwF w B1 L k) (by omega)
          refine q_icmp_ge (tgt := 34) hx hb dX2_fewestThatLeave_27 (by decide) (by omega) (by omega) (fun c8 => ?_) (fun c8 => ?_)
          · refine lv_iconst (v := nI 0) hx hb dX2_fewestThatLeave_34 (by decide) ?_
            refine lv_istore (lv' := [(5, .int (nI 0)), (0, .ref h), (1, .int (nI B1)), (2, .int (nI L)), (3, .int (fwC (fwF w B1 L k))), (4, .int (nI k))]) hx hb dX2_fewestThatLeave_35 hl (by decide) rfl (fun ls hl => ?_)
            refine lv_iload hx hb dX2_fewestThatLeave_37 (lv_at hl 5 rfl) ?_
            refine lv_iload_n hx hb dX2_fewestThatLeave_39 rfl (lv_at hl 2 rfl) ?_
            refine lv_iconst (v := (-1)) hx hb dX2_fewestThatLeave_40 (by decide) ?_
            refine lv_ixor hx hb dX2_fewestThatLeave_41 ?_
            refine lv_iand hx hb dX2_fewestThatLeave_42 ?_
            refine q_top (y := nI (k &&& (63 ^^^ B1))) (nand6 (by omega) hW) ?_
            have hkw : k &&& (63 ^^^ B1) < 64 := Nat.lt_of_le_of_lt Nat.and_le_left (by omega)
            refine q_if_ne (tgt := 64) hx hb dX2_fewestThatLeave_43 (by decide) (by omega) (fun c9 => ?_) (fun c9 => ?_)
            · refine lv_iinc (v := nI (k + 1)) (lv' := [(4, .int (nI (k + 1))), (5, .int (nI 0)), (0, .ref h), (1, .int (nI B1)), (2, .int (nI L)), (3, .int (fwC (fwF w B1 L k)))]) hx hb dX2_fewestThatLeave_64 hl (k := 5) rfl (q_inc k 1) (by decide) rfl (fun ls hl => ?_)
              refine lv_goto (tgt := 6) hx hb dX2_fewestThatLeave_67 (by decide) ?_
              exact ih6 (k + 1) (by omega) (by omega) ls (q_lset (lv_sub (l' := [(0, .ref h), (1, .int (nI B1)), (2, .int (nI L)), (3, .int (fwC (fwF w B1 L k))), (4, .int (nI (k + 1)))]) hl [2, 3, 4, 5, 0] rfl) (q_c1 (f := fun z3 => ([(0, .ref h), (1, .int (nI B1)), (2, .int (nI L)), (3, .int (z3)), (4, .int (nI (k + 1)))] : List (Nat × Value))) (show (fwC (fwF w B1 L k) : Int32) = fwC (fwF w B1 L (k + 1)) from (congrArg fwC (fwF_f1 c9)).symm)))
            · refine lv_iload hx hb dX2_fewestThatLeave_46 (lv_at hl 0 rfl) ?_
              refine lv_if_eq (tgt := 64) hx hb dX2_fewestThatLeave_48 (by decide) (fun _ => ?_) (fun c9 => absurd (by decide) c9)
              refine lv_iinc (v := nI (k + 1)) (lv' := [(4, .int (nI (k + 1))), (5, .int (nI 0)), (0, .ref h), (1, .int (nI B1)), (2, .int (nI L)), (3, .int (fwC (fwF w B1 L k)))]) hx hb dX2_fewestThatLeave_64 hl (k := 5) rfl (q_inc k 1) (by decide) rfl (fun ls hl => ?_)
              refine lv_goto (tgt := 6) hx hb dX2_fewestThatLeave_67 (by decide) ?_
              exact ih6 (k + 1) (by omega) (by omega) ls (q_lset (lv_sub (l' := [(0, .ref h), (1, .int (nI B1)), (2, .int (nI L)), (3, .int (fwC (fwF w B1 L k))), (4, .int (nI (k + 1)))]) hl [2, 3, 4, 5, 0] rfl) (q_c1 (f := fun z3 => ([(0, .ref h), (1, .int (nI B1)), (2, .int (nI L)), (3, .int (z3)), (4, .int (nI (k + 1)))] : List (Nat × Value))) (show (fwC (fwF w B1 L k) : Int32) = fwC (fwF w B1 L (k + 1)) from (congrArg fwC (fwF_f2 (fwC_2 hb64 c8))).symm)))
          · refine lv_iconst (v := nI 1) hx hb dX2_fewestThatLeave_30 (by decide) ?_
            refine lv_goto (tgt := 35) hx hb dX2_fewestThatLeave_31 (by decide) ?_
            refine lv_istore (lv' := [(5, .int (nI 1)), (0, .ref h), (1, .int (nI B1)), (2, .int (nI L)), (3, .int (fwC (fwF w B1 L k))), (4, .int (nI k))]) hx hb dX2_fewestThatLeave_35 hl (by decide) rfl (fun ls hl => ?_)
            refine lv_iload hx hb dX2_fewestThatLeave_37 (lv_at hl 5 rfl) ?_
            refine lv_iload_n hx hb dX2_fewestThatLeave_39 rfl (lv_at hl 2 rfl) ?_
            refine lv_iconst (v := (-1)) hx hb dX2_fewestThatLeave_40 (by decide) ?_
            refine lv_ixor hx hb dX2_fewestThatLeave_41 ?_
            refine lv_iand hx hb dX2_fewestThatLeave_42 ?_
            refine q_top (y := nI (k &&& (63 ^^^ B1))) (nand6 (by omega) hW) ?_
            have hkw : k &&& (63 ^^^ B1) < 64 := Nat.lt_of_le_of_lt Nat.and_le_left (by omega)
            refine q_if_ne (tgt := 64) hx hb dX2_fewestThatLeave_43 (by decide) (by omega) (fun c10 => ?_) (fun c10 => ?_)
            · refine lv_iinc (v := nI (k + 1)) (lv' := [(4, .int (nI (k + 1))), (5, .int (nI 1)), (0, .ref h), (1, .int (nI B1)), (2, .int (nI L)), (3, .int (fwC (fwF w B1 L k)))]) hx hb dX2_fewestThatLeave_64 hl (k := 5) rfl (q_inc k 1) (by decide) rfl (fun ls hl => ?_)
              refine lv_goto (tgt := 6) hx hb dX2_fewestThatLeave_67 (by decide) ?_
              exact ih6 (k + 1) (by omega) (by omega) ls (q_lset (lv_sub (l' := [(0, .ref h), (1, .int (nI B1)), (2, .int (nI L)), (3, .int (fwC (fwF w B1 L k))), (4, .int (nI (k + 1)))]) hl [2, 3, 4, 5, 0] rfl) (q_c1 (f := fun z3 => ([(0, .ref h), (1, .int (nI B1)), (2, .int (nI L)), (3, .int (z3)), (4, .int (nI (k + 1)))] : List (Nat × Value))) (show (fwC (fwF w B1 L k) : Int32) = fwC (fwF w B1 L (k + 1)) from (congrArg fwC (fwF_f1 c10)).symm)))
            · refine lv_iload hx hb dX2_fewestThatLeave_46 (lv_at hl 0 rfl) ?_
              refine lv_if_eq (tgt := 64) hx hb dX2_fewestThatLeave_48 (by decide) (fun c9 => absurd c9 (by decide)) (fun _ => ?_)
              refine lv_aload_n hx hb dX2_fewestThatLeave_51 rfl (lv_at hl 1 rfl) ?_
              refine lv_iload hx hb dX2_fewestThatLeave_52 (lv_at hl 5 rfl) ?_
              refine q_rV (As := [.int (nI k)]) (rest := []) ⟨hx, hb, hml, hown, hts⟩ (c_X2_leftBy l D cy h kA tA eA oA w fk ft fe fo hw hv k (by omega)) (cwV 1 hts gX2_fewestThatLeave_X2_leftBy rfl rfl rfl (by decide +kernel) ⟨Nat.le_of_ble_eq_true rfl, Nat.le_of_ble_eq_true rfl⟩) hP hK [0, 1, 2, 3, 4] rfl 0 rfl rfl rfl rfl hl.1 rfl (Nat.le_of_ble_eq_true rfl) dX2_fewestThatLeave_54 ⟨Nat.zero_le _, Nat.zero_le _⟩ (fun r11 hr11 => ?_)
              obtain rfl := hr11
              have hlb := ctLb_lt hv0 k (w 4)
              refine lv_iload_n hx hb dX2_fewestThatLeave_57 rfl (lv_at hl 3 rfl) ?_
              refine q_icmp_ne (tgt := 64) hx hb dX2_fewestThatLeave_58 (by decide) (by omega) (by omega) (fun c12 => ?_) (fun c12 => ?_)
              · refine lv_iinc (v := nI (k + 1)) (lv' := [(4, .int (nI (k + 1))), (5, .int (nI 1)), (0, .ref h), (1, .int (nI B1)), (2, .int (nI L)), (3, .int (fwC (fwF w B1 L k)))]) hx hb dX2_fewestThatLeave_64 hl (k := 5) rfl (q_inc k 1) (by decide) rfl (fun ls hl => ?_)
                refine lv_goto (tgt := 6) hx hb dX2_fewestThatLeave_67 (by decide) ?_
                exact ih6 (k + 1) (by omega) (by omega) ls (q_lset (lv_sub (l' := [(0, .ref h), (1, .int (nI B1)), (2, .int (nI L)), (3, .int (fwC (fwF w B1 L k))), (4, .int (nI (k + 1)))]) hl [2, 3, 4, 5, 0] rfl) (q_c1 (f := fun z3 => ([(0, .ref h), (1, .int (nI B1)), (2, .int (nI L)), (3, .int (z3)), (4, .int (nI (k + 1)))] : List (Nat × Value))) (show (fwC (fwF w B1 L k) : Int32) = fwC (fwF w B1 L (k + 1)) from (congrArg fwC (fwF_f3 c12)).symm)))
              · refine lv_iload hx hb dX2_fewestThatLeave_61 (lv_at hl 5 rfl) ?_
                refine lv_istore_n (lv' := [(3, .int (nI k)), (5, .int (nI 1)), (0, .ref h), (1, .int (nI B1)), (2, .int (nI L)), (4, .int (nI k))]) hx hb dX2_fewestThatLeave_63 rfl hl (by decide) rfl (fun ls hl => ?_)
                refine lv_iinc (v := nI (k + 1)) (lv' := [(4, .int (nI (k + 1))), (3, .int (nI k)), (5, .int (nI 1)), (0, .ref h), (1, .int (nI B1)), (2, .int (nI L))]) hx hb dX2_fewestThatLeave_64 hl (k := 5) rfl (q_inc k 1) (by decide) rfl (fun ls hl => ?_)
                refine lv_goto (tgt := 6) hx hb dX2_fewestThatLeave_67 (by decide) ?_
                exact ih6 (k + 1) (by omega) (by omega) ls (q_lset (lv_sub (l' := [(0, .ref h), (1, .int (nI B1)), (2, .int (nI L)), (3, .int (nI k)), (4, .int (nI (k + 1)))]) hl [3, 4, 5, 1, 0] rfl) (q_c1 (f := fun z3 => ([(0, .ref h), (1, .int (nI B1)), (2, .int (nI L)), (3, .int (z3)), (4, .int (nI (k + 1)))] : List (Nat × Value))) (show (nI k : Int32) = fwC (fwF w B1 L (k + 1)) from (fwC_n (by omega : k ≠ 64)).symm.trans (congrArg fwC (fwF_t c10 (Or.inr c8) c12)).symm)))
  exact L6_7 ((B1 + 1) + 1) 0 (by omega) (by omega) ls (q_lset (lv_sub (l' := [(0, .ref h), (1, .int (nI B1)), (2, .int (nI L)), (3, .int ((-1000000))), (4, .int (nI 0))]) hl [2, 3, 4, 1, 0] rfl) (q_c1 (f := fun z3 => ([(0, .ref h), (1, .int (nI B1)), (2, .int (nI L)), (3, .int (z3)), (4, .int (nI 0))] : List (Nat × Value))) (show ((-1000000) : Int32) = fwC (fwF w B1 L 0) from rfl)))
theorem mX2_tenthsSure_0 : Cond.initialized RX6 ∈ wsX2_tenthsSure := by decide +kernel
theorem mX2_tenthsSure_1 : Cond.static yX6_onlyOne ∈ wsX2_tenthsSure := by decide +kernel
theorem mX2_tenthsSure_2 : Cond.constant RX2 71 (-1000000) ∈ wsX2_tenthsSure := by decide +kernel
theorem mX2_tenthsSure_3 : Cond.static yX6_power ∈ wsX2_tenthsSure := by decide +kernel
set_option maxHeartbeats 4000000 in
set_option maxRecDepth 100000 in
theorem c_X2_tenthsSure (l : Launch) (D : va_G) (cy : Nat → ClassId) (h kA tA eA oA : Nat) (w : Nat → Nat) (fk ft fe fo : Nat → Int32) (hw : ctIs w fk ft fe fo) (hv : ctOk w) (B1 c : Nat) (hW : B1 < 64) (hc : c ≤ 10) : q_Rd l yX2_tenthsSure wsX2_tenthsSure 5 D cy [(h, .inr (2, [.int (nI (w 0)), .int (nI (w 1)), .int (nI (w 2)), .int (nI (w 4)), .int (nI (w 3)), .ref kA, .ref tA, .ref eA, .ref oA])), (kA, .inl (cy 0, 6, .inl fk)), (tA, .inl (cy 0, 6, .inl ft)), (eA, .inl (cy 0, 6, .inl fe)), (oA, .inl (cy 0, 6, .inl fo))] [.ref h, .int (nI B1), .int (nI c)] (fun r => r = nI (tsF w B1 c (B1 + 1))) := by
  refine q_rd_of (cc := cX2_tenthsSure) (maxL := 6) (ret := (some .int)) (by decide) rfl (Nat.le_of_ble_eq_true rfl) ?_
  intro pg en s mi args below meth cd hC hP hK ls hl
  obtain ⟨hx, hb, hr, hml, hown, hts, hlocks⟩ := hC
  have hl : lv_has ls 6 [(0, .ref h), (1, .int (nI B1)), (2, .int (nI c))] := hl
  obtain ⟨hv0, hv1, hv2, hv3, hv4, hvc⟩ := id hv
  have hbW := bc_lt B1 (by omega)
  refine lv_iconst (v := nI 0) hx hb dX2_tenthsSure_0 (by decide) ?_
  refine lv_istore_n (lv' := [(3, .int (nI 0)), (0, .ref h), (1, .int (nI B1)), (2, .int (nI c))]) hx hb dX2_tenthsSure_1 rfl hl (by decide) rfl (fun ls hl => ?_)
  refine lv_iconst (v := nI 0) hx hb dX2_tenthsSure_2 (by decide) ?_
  refine lv_istore (lv' := [(4, .int (nI 0)), (3, .int (nI 0)), (0, .ref h), (1, .int (nI B1)), (2, .int (nI c))]) hx hb dX2_tenthsSure_3 hl (by decide) rfl (fun ls hl => ?_)
  have L5_8 : ∀ (fu k : Nat), k ≤ (B1 + 1) → (B1 + 1) < k + fu → ∀ ls : Array Slot, lv_has ls 6 [(0, .ref h), (1, .int (nI B1)), (2, .int (nI c)), (3, .int (nI (tsF w B1 c k))), (4, .int (nI k))] → W pg l en (q_rm 5) s mi args below meth cd s.heap [] 0 0 (MQ below (vp_Si (fun r => r = nI (tsF w B1 c (B1 + 1)))) args s 0 0 (fun _ => False)) (F0 mi 5 ls []) := by
    intro fu
    induction fu with
    | zero =>
      intro k h1 h2
      exact absurd h2 (by omega)
    | succ fu ih5 =>
      intro k h1_5 h2_5 ls hl
      refine lv_iload hx hb dX2_tenthsSure_5 (lv_at hl 4 rfl) ?_
      refine lv_iload_n hx hb dX2_tenthsSure_7 rfl (lv_at hl 1 rfl) ?_
      refine q_icmp_gt (tgt := 71) hx hb dX2_tenthsSure_8 (by decide) (by omega) (by omega) (fun c1 => ?_) (fun c1 => ?_)
      · refine lv_iload_n hx hb dX2_tenthsSure_71 rfl (lv_at hl 3 rfl) ?_
        exact q_iret (v := nI (tsF w B1 c k)) hx hb hr hlocks dX2_tenthsSure_72 (by rw [show k = B1 + 1 by omega])
      · refine lv_iload hx hb dX2_tenthsSure_11 (lv_at hl 4 rfl) ?_
        refine lv_iload_n hx hb dX2_tenthsSure_13 rfl (lv_at hl 1 rfl) ?_
        refine lv_iconst (v := (-1)) hx hb dX2_tenthsSure_14 (by decide) ?_
        refine lv_ixor hx hb dX2_tenthsSure_15 ?_
        refine lv_iand hx hb dX2_tenthsSure_16 ?_
        refine q_top (y := nI (k &&& (63 ^^^ B1))) (nand6 (by omega) hW) ?_
        have hkw : k &&& (63 ^^^ B1) < 64 := Nat.lt_of_le_of_lt Nat.and_le_left (by omega)
        refine q_if_ne (tgt := 65) hx hb dX2_tenthsSure_17 (by decide) (by omega) (fun c2 => ?_) (fun c2 => ?_)
        · refine lv_iinc (v := nI (k + 1)) (lv' := [(4, .int (nI (k + 1))), (0, .ref h), (1, .int (nI B1)), (2, .int (nI c)), (3, .int (nI (tsF w B1 c k)))]) hx hb dX2_tenthsSure_65 hl (k := 4) rfl (q_inc k 1) (by decide) rfl (fun ls hl => ?_)
          refine lv_goto (tgt := 5) hx hb dX2_tenthsSure_68 (by decide) ?_
          exact ih5 (k + 1) (by omega) (by omega) ls (q_lset (lv_sub (l' := [(0, .ref h), (1, .int (nI B1)), (2, .int (nI c)), (3, .int (nI (tsF w B1 c k))), (4, .int (nI (k + 1)))]) hl [1, 2, 3, 4, 0] rfl) (q_c1 (f := fun z3 => ([(0, .ref h), (1, .int (nI B1)), (2, .int (nI c)), (3, .int (z3)), (4, .int (nI (k + 1)))] : List (Nat × Value))) (show (nI (tsF w B1 c k) : Int32) = nI (tsF w B1 c (k + 1)) from (congrArg nI (tsF_f1 c2)).symm)))
        · refine lv_aload_n hx hb dX2_tenthsSure_20 rfl (lv_at hl 0 rfl) ?_
          refine lv_iload hx hb dX2_tenthsSure_21 (lv_at hl 4 rfl) ?_
          refine q_rV (As := [.int (nI k)]) (rest := []) ⟨hx, hb, hml, hown, hts⟩ (c_X2_leftBy l D cy h kA tA eA oA w fk ft fe fo hw hv k (by omega)) (cwV 1 hts gX2_tenthsSure_X2_leftBy rfl rfl rfl (by decide +kernel) ⟨Nat.le_of_ble_eq_true rfl, Nat.le_of_ble_eq_true rfl⟩) hP hK [0, 1, 2, 3, 4] rfl 0 rfl rfl rfl rfl hl.1 rfl (Nat.le_of_ble_eq_true rfl) dX2_tenthsSure_23 ⟨Nat.zero_le _, Nat.zero_le _⟩ (fun r3 hr3 => ?_)
          obtain rfl := hr3
          have hlb := ctLb_lt hv0 k (w 4)
          refine q_rN (As := [.int (nI (ctLb w k (w 4)))]) (rest := []) ⟨hx, hb, hml, hown, hts⟩ (c_X6_onlyOne l D cy (ctLb w k (w 4)) (by omega)) ⟨va_cnB (host := "ClueLeave") 1 hts gX2_tenthsSure_X6_onlyOne_n77 rfl rfl rfl (hK.2 _ (by decide +kernel)) (hts _ mX2_tenthsSure_0) (by decide +kernel) ⟨Nat.le_of_ble_eq_true rfl, Nat.le_of_ble_eq_true rfl⟩, hts _ mX2_tenthsSure_1, trivial⟩ hP hK [] rfl rfl hl.1 rfl (Nat.le_of_ble_eq_true rfl) dX2_tenthsSure_26 ⟨Nat.zero_le _, Nat.zero_le _⟩ (fun r4 hr4 => ?_)
          obtain rfl := hr4
          refine lv_ldc (v := (-1000000)) hx hb hown (hts _ mX2_tenthsSure_2) dX2_tenthsSure_29 ?_
          refine lv_icmp_eq (tgt := 65) hx hb dX2_tenthsSure_31 (by decide) (fun c5 => ?_) (fun c5 => ?_)
          · refine lv_iinc (v := nI (k + 1)) (lv' := [(4, .int (nI (k + 1))), (0, .ref h), (1, .int (nI B1)), (2, .int (nI c)), (3, .int (nI (tsF w B1 c k)))]) hx hb dX2_tenthsSure_65 hl (k := 4) rfl (q_inc k 1) (by decide) rfl (fun ls hl => ?_)
            refine lv_goto (tgt := 5) hx hb dX2_tenthsSure_68 (by decide) ?_
            exact ih5 (k + 1) (by omega) (by omega) ls (q_lset (lv_sub (l' := [(0, .ref h), (1, .int (nI B1)), (2, .int (nI c)), (3, .int (nI (tsF w B1 c k))), (4, .int (nI (k + 1)))]) hl [1, 2, 3, 4, 0] rfl) (q_c1 (f := fun z3 => ([(0, .ref h), (1, .int (nI B1)), (2, .int (nI c)), (3, .int (z3)), (4, .int (nI (k + 1)))] : List (Nat × Value))) (show (nI (tsF w B1 c k) : Int32) = nI (tsF w B1 c (k + 1)) from (congrArg nI (tsF_f2 c5)).symm)))
          · refine lv_iload hx hb dX2_tenthsSure_34 (lv_at hl 4 rfl) ?_
            refine q_rS (As := [.int (nI k)]) (rest := []) ⟨hx, hb, hml, hown, hts⟩ (c_J6_bitCount_0f7a4 l D cy k (by omega)) (va_cwS 1 hts gX2_tenthsSure_J6_bitCount_0f7a4 rfl rfl rfl (by decide +kernel) ⟨Nat.le_of_ble_eq_true rfl, Nat.le_of_ble_eq_true rfl⟩) hP hK [] rfl rfl hl.1 rfl (Nat.le_of_ble_eq_true rfl) dX2_tenthsSure_36 ⟨Nat.zero_le _, Nat.zero_le _⟩ (fun r6 hr6 => ?_)
            obtain rfl := hr6
            refine lv_istore (lv' := [(5, .int (nI (bc k))), (0, .ref h), (1, .int (nI B1)), (2, .int (nI c)), (3, .int (nI (tsF w B1 c k))), (4, .int (nI k))]) hx hb dX2_tenthsSure_39 hl (by decide) rfl (fun ls hl => ?_)
            have hbs := bc_sub (by omega) hW c2
            have hbc1 := bc_lt k (by omega)
            refine lv_iload_n hx hb dX2_tenthsSure_41 rfl (lv_at hl 4 rfl) ?_
            refine lv_bipush (v := nI 10) hx hb dX2_tenthsSure_42 (by decide) ?_
            refine lv_iload_n hx hb dX2_tenthsSure_44 rfl (lv_at hl 3 rfl) ?_
            refine lv_isub hx hb dX2_tenthsSure_45 ?_
            refine q_top (y := nI (10 - c)) (pk_sub (by omega)) ?_
            refine lv_iload hx hb dX2_tenthsSure_46 (lv_at hl 0 rfl) ?_
            refine q_rN (As := [.int (nI (10 - c)), .int (nI (bc k))]) (rest := [.int (nI (tsF w B1 c k))]) ⟨hx, hb, hml, hown, hts⟩ (c_X6_power l D cy (10 - c) (bc k) (by omega)) ⟨va_cnB (host := "ClueLeave") 2 hts gX2_tenthsSure_X6_power_n80 rfl rfl rfl (hK.2 _ (by decide +kernel)) (hts _ mX2_tenthsSure_0) (by decide +kernel) ⟨Nat.le_of_ble_eq_true rfl, Nat.le_of_ble_eq_true rfl⟩, hts _ mX2_tenthsSure_3, trivial⟩ hP hK [] rfl rfl hl.1 rfl (Nat.le_of_ble_eq_true rfl) dX2_tenthsSure_48 ⟨Nat.zero_le _, Nat.zero_le _⟩ (fun r7 hr7 => ?_)
            obtain rfl := hr7
            refine lv_iload_n hx hb dX2_tenthsSure_51 rfl (lv_at hl 3 rfl) ?_
            refine lv_iload_n hx hb dX2_tenthsSure_52 rfl (lv_at hl 2 rfl) ?_
            refine q_rS (As := [.int (nI B1)]) (rest := [.int (nI c), .int (nI ((10 - c) ^ (bc k))), .int (nI (tsF w B1 c k))]) ⟨hx, hb, hml, hown, hts⟩ (c_J6_bitCount_0f7a4 l D cy B1 (by omega)) (va_cwS 1 hts gX2_tenthsSure_J6_bitCount_0f7a4 rfl rfl rfl (by decide +kernel) ⟨Nat.le_of_ble_eq_true rfl, Nat.le_of_ble_eq_true rfl⟩) hP hK [] rfl rfl hl.1 rfl (Nat.le_of_ble_eq_true rfl) dX2_tenthsSure_53 ⟨Nat.zero_le _, Nat.zero_le _⟩ (fun r8 hr8 => ?_)
            obtain rfl := hr8
            refine lv_iload hx hb dX2_tenthsSure_56 (lv_at hl 0 rfl) ?_
            refine lv_isub hx hb dX2_tenthsSure_58 ?_
            refine q_top (y := nI ((bc B1) - (bc k))) (pk_sub (by omega)) ?_
            refine q_rN (As := [.int (nI c), .int (nI ((bc B1) - (bc k)))]) (rest := [.int (nI ((10 - c) ^ (bc k))), .int (nI (tsF w B1 c k))]) ⟨hx, hb, hml, hown, hts⟩ (c_X6_power l D cy c ((bc B1) - (bc k)) (by omega)) ⟨va_cnB (host := "ClueLeave") 2 hts gX2_tenthsSure_X6_power_n80 rfl rfl rfl (hK.2 _ (by decide +kernel)) (hts _ mX2_tenthsSure_0) (by decide +kernel) ⟨Nat.le_of_ble_eq_true rfl, Nat.le_of_ble_eq_true rfl⟩, hts _ mX2_tenthsSure_3, trivial⟩ hP hK [] rfl rfl hl.1 rfl (Nat.le_of_ble_eq_true rfl) dX2_tenthsSure_59 ⟨Nat.zero_le _, Nat.zero_le _⟩ (fun r9 hr9 => ?_)
            obtain rfl := hr9
            refine lv_imul hx hb dX2_tenthsSure_62 ?_
            refine q_top (y := nI (((10 - c) ^ (bc k)) * (c ^ ((bc B1) - (bc k))))) (pk_mul _ _) ?_
            refine lv_iadd hx hb dX2_tenthsSure_63 ?_
            refine q_top (y := nI ((tsF w B1 c k) + (((10 - c) ^ (bc k)) * (c ^ ((bc B1) - (bc k)))))) (nI_add _ _) ?_
            refine lv_istore_n (lv' := [(3, .int (nI ((tsF w B1 c k) + (((10 - c) ^ (bc k)) * (c ^ ((bc B1) - (bc k))))))), (5, .int (nI (bc k))), (0, .ref h), (1, .int (nI B1)), (2, .int (nI c)), (4, .int (nI k))]) hx hb dX2_tenthsSure_64 rfl hl (by decide) rfl (fun ls hl => ?_)
            refine lv_iinc (v := nI (k + 1)) (lv' := [(4, .int (nI (k + 1))), (3, .int (nI ((tsF w B1 c k) + (((10 - c) ^ (bc k)) * (c ^ ((bc B1) - (bc k))))))), (5, .int (nI (bc k))), (0, .ref h), (1, .int (nI B1)), (2, .int (nI c))]) hx hb dX2_tenthsSure_65 hl (k := 5) rfl (q_inc k 1) (by decide) rfl (fun ls hl => ?_)
            refine lv_goto (tgt := 5) hx hb dX2_tenthsSure_68 (by decide) ?_
            exact ih5 (k + 1) (by omega) (by omega) ls (q_lset (lv_sub (l' := [(0, .ref h), (1, .int (nI B1)), (2, .int (nI c)), (3, .int (nI ((tsF w B1 c k) + (((10 - c) ^ (bc k)) * (c ^ ((bc B1) - (bc k))))))), (4, .int (nI (k + 1)))]) hl [3, 4, 5, 1, 0] rfl) (q_c1 (f := fun z3 => ([(0, .ref h), (1, .int (nI B1)), (2, .int (nI c)), (3, .int (z3)), (4, .int (nI (k + 1)))] : List (Nat × Value))) (show (nI ((tsF w B1 c k) + (((10 - c) ^ (bc k)) * (c ^ ((bc B1) - (bc k))))) : Int32) = nI (tsF w B1 c (k + 1)) from (congrArg nI (tsF_t c2 c5)).symm)))
  exact L5_8 ((B1 + 1) + 1) 0 (by omega) (by omega) ls (q_lset (lv_sub (l' := [(0, .ref h), (1, .int (nI B1)), (2, .int (nI c)), (3, .int (nI 0)), (4, .int (nI 0))]) hl [2, 3, 4, 1, 0] rfl) (q_c1 (f := fun z3 => ([(0, .ref h), (1, .int (nI B1)), (2, .int (nI c)), (3, .int (z3)), (4, .int (nI 0))] : List (Nat × Value))) (show (nI 0 : Int32) = nI (tsF w B1 c 0) from rfl)))
theorem mX6_tellSet_0 : Cond.constant RX6 185 (-1000000) ∈ wsX6_tellSet := by decide +kernel
set_option maxHeartbeats 4000000 in
set_option maxRecDepth 100000 in
theorem c_X6_tellSet (l : Launch) (D : va_G) (cy : Nat → ClassId) (b wh : Nat) (hb2 : b ≤ 64) (hwh : wh ≤ 1) : q_Rd l yX6_tellSet wsX6_tellSet 2 D cy [] [.int (fwC b), .int (nI wh)] (fun r => r = tlS b wh) := by
  refine q_rd_of (cc := cX6_tellSet) (maxL := 2) (ret := (some .int)) (by decide) rfl (Nat.le_of_ble_eq_true rfl) ?_
  intro pg en s mi args below meth cd hC hP hK ls hl
  obtain ⟨hx, hb, hr, hml, hown, hts, hlocks⟩ := hC
  have hl : lv_has ls 2 [(0, .int (fwC b)), (1, .int (nI wh))] := hl
  refine lv_iload_n hx hb dX6_tellSet_0 rfl (lv_at hl 0 rfl) ?_
  refine lv_ldc (v := (-1000000)) hx hb hown (hts _ mX6_tellSet_0) dX6_tellSet_1 ?_
  refine lv_icmp_ne (tgt := 9) hx hb dX6_tellSet_3 (by decide) (fun c1 => ?_) (fun c1 => ?_)
  · have hb64 := fwC_ne c1
    refine lv_iload_n hx hb dX6_tellSet_9 rfl (lv_at hl 1 rfl) ?_
    refine q_if_ne (tgt := 20) hx hb dX6_tellSet_10 (by decide) (by omega) (fun c2 => ?_) (fun c2 => ?_)
    · refine lv_iload_n hx hb dX6_tellSet_20 rfl (lv_at hl 0 rfl) ?_
      refine q_top (y := nI b) (fwC_n hb64) ?_
      exact q_iret (v := nI b) hx hb hr hlocks dX6_tellSet_21 ((tlS_2 hb64 (by omega)).symm)
    · refine lv_iload_n hx hb dX6_tellSet_13 rfl (lv_at hl 0 rfl) ?_
      refine q_top (y := nI b) (fwC_n hb64) ?_
      refine q_rS (As := [.int (nI b)]) (rest := []) ⟨hx, hb, hml, hown, hts⟩ (c_J6_bitCount_0f7a4 l D cy b (by omega)) (va_cwS 1 hts gX6_tellSet_J6_bitCount_0f7a4 rfl rfl rfl (by decide +kernel) ⟨Nat.le_of_ble_eq_true rfl, Nat.le_of_ble_eq_true rfl⟩) hP hK [] rfl rfl hl.1 rfl (Nat.le_of_ble_eq_true rfl) dX6_tellSet_14 ⟨Nat.zero_le _, Nat.zero_le _⟩ (fun r3 hr3 => ?_)
      obtain rfl := hr3
      refine lv_goto (tgt := 21) hx hb dX6_tellSet_17 (by decide) ?_
      exact q_iret (v := nI (bc b)) hx hb hr hlocks dX6_tellSet_21 ((tlS_1 hb64 (by omega)).symm)
  · refine lv_ldc (v := (-1000000)) hx hb hown (hts _ mX6_tellSet_0) dX6_tellSet_6 ?_
    exact q_iret (v := (-1000000)) hx hb hr hlocks dX6_tellSet_8 ((tlS_0 (fwC_64 c1 hb2)).symm)
set_option maxHeartbeats 4000000 in
set_option maxRecDepth 100000 in
theorem c_X6_greatestDivisor (l : Launch) (D : va_G) (cy : Nat → ClassId) (a b : Nat) (ha : a < 2 ^ 31) (hb2 : b < 2 ^ 31) : q_Rd l yX6_greatestDivisor wsX6_greatestDivisor 1 D cy [] [.int (nI a), .int (nI b)] (fun r => r = nI (Nat.gcd a b)) := by
  refine q_rd_of (cc := cX6_greatestDivisor) (maxL := 6) (ret := (some .int)) (by decide) rfl (Nat.le_of_ble_eq_true rfl) ?_
  intro pg en s mi args below meth cd hC hP hK ls hl
  obtain ⟨hx, hb, hr, hml, hown, hts, hlocks⟩ := hC
  have hl : lv_has ls 6 [(0, .int (nI a)), (1, .int (nI b))] := hl
  refine lv_iload_n hx hb dX6_greatestDivisor_0 rfl (lv_at hl 0 rfl) ?_
  refine lv_istore_n (lv' := [(2, .int (nI a)), (0, .int (nI a)), (1, .int (nI b))]) hx hb dX6_greatestDivisor_1 rfl hl (by decide) rfl (fun ls hl => ?_)
  refine lv_iload_n hx hb dX6_greatestDivisor_2 rfl (lv_at hl 2 rfl) ?_
  refine lv_istore_n (lv' := [(3, .int (nI b)), (2, .int (nI a)), (0, .int (nI a)), (1, .int (nI b))]) hx hb dX6_greatestDivisor_3 rfl hl (by decide) rfl (fun ls hl => ?_)
  refine lv_iconst (v := nI 0) hx hb dX6_greatestDivisor_4 (by decide) ?_
  refine lv_istore (lv' := [(4, .int (nI 0)), (3, .int (nI b)), (2, .int (nI a)), (0, .int (nI a)), (1, .int (nI b))]) hx hb dX6_greatestDivisor_5 hl (by decide) rfl (fun ls hl => ?_)
  have L7_8 : ∀ (fu i : Nat), i ≤ 100 → 100 < i + fu → ∀ (x : Nat), ∀ (y : Nat), gdI x y i → Nat.gcd x y = Nat.gcd a b → ∀ ls : Array Slot, lv_has ls 6 [(0, .int (nI a)), (1, .int (nI b)), (2, .int (nI x)), (3, .int (nI y)), (4, .int (nI i))] → W pg l en (q_rm 1) s mi args below meth cd s.heap [] 0 0 (MQ below (vp_Si (fun r => r = nI (Nat.gcd a b))) args s 0 0 (fun _ => False)) (F0 mi 7 ls []) := by
    intro fu
    induction fu with
    | zero =>
      intro i h1 h2
      exact absurd h2 (by omega)
    | succ fu ih7 =>
      intro i h1_7 h2_7 x y hf7_0 hf7_1 ls hl
      have hxl := hf7_0.1
      have hyl := hf7_0.2.1
      refine lv_iload hx hb dX6_greatestDivisor_7 (lv_at hl 4 rfl) ?_
      refine lv_bipush (v := nI 100) hx hb dX6_greatestDivisor_9 (by decide) ?_
      refine q_icmp_ge (tgt := 34) hx hb dX6_greatestDivisor_11 (by decide) (by omega) (by decide) (fun c1 => ?_) (fun c1 => ?_)
      · refine lv_iload_n hx hb dX6_greatestDivisor_34 rfl (lv_at hl 2 rfl) ?_
        exact q_iret (v := nI x) hx hb hr hlocks dX6_greatestDivisor_35 (congrArg nI (gd_0 hf7_1 (gdI_100 hf7_0 (by omega))))
      · refine lv_iload_n hx hb dX6_greatestDivisor_14 rfl (lv_at hl 3 rfl) ?_
        refine q_if_eq (tgt := 34) hx hb dX6_greatestDivisor_15 (by decide) (by omega) (fun c2 => ?_) (fun c2 => ?_)
        · refine lv_iload_n hx hb dX6_greatestDivisor_34 rfl (lv_at hl 2 rfl) ?_
          exact q_iret (v := nI x) hx hb hr hlocks dX6_greatestDivisor_35 (congrArg nI (gd_0 hf7_1 (by omega)))
        · refine lv_iload_n hx hb dX6_greatestDivisor_18 rfl (lv_at hl 2 rfl) ?_
          refine lv_iload_n hx hb dX6_greatestDivisor_19 rfl (lv_at hl 3 rfl) ?_
          refine lv_irem hx hb dX6_greatestDivisor_20 (q_ne0 (by omega) (by omega)) ?_
          refine q_top (y := nI (x % y)) (pk_rem (a := x) (d := y) (by omega) (by omega) (by omega)) ?_
          refine lv_istore (lv' := [(5, .int (nI (x % y))), (0, .int (nI a)), (1, .int (nI b)), (2, .int (nI x)), (3, .int (nI y)), (4, .int (nI i))]) hx hb dX6_greatestDivisor_21 hl (by decide) rfl (fun ls hl => ?_)
          refine lv_iload_n hx hb dX6_greatestDivisor_23 rfl (lv_at hl 4 rfl) ?_
          refine lv_istore_n (lv' := [(2, .int (nI y)), (5, .int (nI (x % y))), (0, .int (nI a)), (1, .int (nI b)), (3, .int (nI y)), (4, .int (nI i))]) hx hb dX6_greatestDivisor_24 rfl hl (by decide) rfl (fun ls hl => ?_)
          refine lv_iload hx hb dX6_greatestDivisor_25 (lv_at hl 1 rfl) ?_
          refine lv_istore_n (lv' := [(3, .int (nI (x % y))), (2, .int (nI y)), (5, .int (nI (x % y))), (0, .int (nI a)), (1, .int (nI b)), (4, .int (nI i))]) hx hb dX6_greatestDivisor_27 rfl hl (by decide) rfl (fun ls hl => ?_)
          refine lv_iinc (v := nI (i + 1)) (lv' := [(4, .int (nI (i + 1))), (3, .int (nI (x % y))), (2, .int (nI y)), (5, .int (nI (x % y))), (0, .int (nI a)), (1, .int (nI b))]) hx hb dX6_greatestDivisor_28 hl (k := 5) rfl (q_inc i 1) (by decide) rfl (fun ls hl => ?_)
          refine lv_goto (tgt := 7) hx hb dX6_greatestDivisor_31 (by decide) ?_
          exact ih7 (i + 1) (by omega) (by omega) y (x % y) (gdI_s hf7_0 (by omega)) (gd_s hf7_1) ls (lv_sub (l' := [(0, .int (nI a)), (1, .int (nI b)), (2, .int (nI y)), (3, .int (nI (x % y))), (4, .int (nI (i + 1)))]) hl [4, 5, 2, 1, 0] rfl)
  exact L7_8 (100 + 1) 0 (by omega) (by omega) a b (⟨ha, hb2, Or.inl rfl⟩) rfl ls (lv_sub (l' := [(0, .int (nI a)), (1, .int (nI b)), (2, .int (nI a)), (3, .int (nI b)), (4, .int (nI 0))]) hl [3, 4, 2, 1, 0] rfl)

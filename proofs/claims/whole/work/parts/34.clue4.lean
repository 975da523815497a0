theorem bc_6f : ∀ a, a < 64 → bc a ≤ 6 := by decide +kernel
theorem bc_6 (a : Nat) (h : a < 64) : bc a ≤ 6 := bc_6f a h
theorem q_p10 (n : Nat) (h : n ≤ 6) : 0 < 10 ^ n ∧ 10 ^ n ≤ 1000000 := by
  have : ∀ n, n < 7 → 0 < 10 ^ n ∧ 10 ^ n ≤ 1000000 := by decide
  exact this n (by omega)
theorem q_mx (g : Nat) : 1 ≤ max 1 g ∧ max 1 g ≤ 1 + g := ⟨Nat.le_max_left _ _, Nat.max_le.mpr ⟨by omega, by omega⟩⟩
theorem tsF_lt (w : Nat → Nat) (W c : Nat) : ∀ k, W < 64 → c ≤ 10 → k ≤ 64 → tsF w W c k ≤ k * 1000000
  | 0, _, _, _ => by simp [tsF]
  | k + 1, hW, hc, hk => by
    have ih := tsF_lt w W c k hW hc (by omega)
    rw [tsF]
    split
    · next q =>
      have h1 := bc_sub (by omega : k < 64) hW q.1
      have h2 := bc_6 W hW
      have h3 : (10 - c) ^ bc k * c ^ (bc W - bc k) ≤ 10 ^ bc k * 10 ^ (bc W - bc k) := Nat.mul_le_mul (Nat.pow_le_pow_left (by omega) _) (Nat.pow_le_pow_left hc _)
      rw [← Nat.pow_add, show bc k + (bc W - bc k) = bc W by omega] at h3
      have h4 := (q_p10 (bc W) h2).2
      generalize (10 - c) ^ bc k * c ^ (bc W - bc k) = X at h3 ⊢
      generalize 10 ^ bc W = Y at h3 h4
      have h6 : (k + 1) * 1000000 = k * 1000000 + 1000000 := Nat.succ_mul k 1000000
      omega
    · exact Nat.le_trans ih (Nat.mul_le_mul_right _ (Nat.le_succ k))
def oStrike (w : Nat → Nat) (d c y : Int32) : Int32 := if 0 < w 0 then if inW 99 d then if inW 10 c then if inW 1 y then
  nI ((if y.toNatClampNeg = 0 then tsF w (ctWks w (w 2 + d.toNatClampNeg) (w 4)) c.toNatClampNeg (ctWks w (w 2 + d.toNatClampNeg) (w 4) + 1) else 10 ^ bc (ctWks w (w 2 + d.toNatClampNeg) (w 4))) / max 1 (Nat.gcd (tsF w (ctWks w (w 2 + d.toNatClampNeg) (w 4)) c.toNatClampNeg (ctWks w (w 2 + d.toNatClampNeg) (w 4) + 1)) (10 ^ bc (ctWks w (w 2 + d.toNatClampNeg) (w 4)))))
  else -1000001 else -1000001 else -1000001 else -1000002
/-- is LEFT as told, on the first n days -/
def asN (w : Nat → Nat) (f : Nat → Int32) : Nat → Bool
  | 0 => true
  | d + 1 => asN w f d && decide (nI (ctLeft w (w 2 + d)) = f d)
theorem asN_s {w : Nat → Nat} {f : Nat → Int32} {d : Nat} (h : asN w f d = true) (h2 : nI (ctLeft w (w 2 + d)) = f d) : asN w f (d + 1) = true := by simp [asN, h, h2]
theorem asN_f {w : Nat → Nat} {f : Nat → Int32} {d : Nat} : ∀ {n : Nat}, d < n → ¬ nI (ctLeft w (w 2 + d)) = f d → ¬ asN w f n = true
  | 0, h, _ => by omega
  | n + 1, h, h2 => by
    rcases Nat.lt_or_ge d n with q | q
    · have := asN_f q h2
      simp [asN, this]
    · have e : d = n := by omega
      subst e
      simp [asN, h2]
theorem asN_c {w : Nat → Nat} {f g : Nat → Int32} : ∀ {n : Nat}, (∀ d, d < n → f d = g d) → asN w f n = asN w g n
  | 0, _ => rfl
  | n + 1, h => by rw [asN, asN, asN_c (fun d hd => h d (by omega)), h n (by omega)]
def ctBr (w : Nat → Nat) (c : Nat) : Nat → Nat := fun j => if j = 3 then w 3 ^^^ (1 * 2 ^ c) else w j
theorem ctIs_br {w : Nat → Nat} {c : Nat} {fk ft fe fo : Nat → Int32} (h : ctIs w fk ft fe fo) : ctIs (ctBr w c) fk ft fe fo := fun z hz => by
  have e : ∀ j, j ≠ 3 → ctBr w c j = w j := fun j hj => if_neg hj
  have := h z (by rw [← e 4 (by decide)]; exact hz)
  unfold ctK ctT ctE ctO at this ⊢
  rw [e _ (by omega), e _ (by omega), e _ (by omega), e _ (by omega)]
  exact this
theorem ctOk_br {w : Nat → Nat} {c : Nat} (h : ctOk w) (hc : c < 6) : ctOk (ctBr w c) := by
  obtain ⟨h0, h1, h2, h3, h4, hv⟩ := h
  have e : ∀ j, j ≠ 3 → ctBr w c j = w j := fun j hj => if_neg hj
  refine ⟨by rw [e _ (by decide)]; exact h0, by rw [e _ (by decide)]; exact h1, by rw [e _ (by decide)]; exact h2, ?_, by rw [e _ (by decide)]; exact h4, fun z hz => ?_⟩
  · show w 3 ^^^ (1 * 2 ^ c) < 64
    have h5 := (q_pw6 c hc).2
    exact Nat.xor_lt_two_pow (n := 6) h3 (by omega)
  · have := hv z (by rw [← e 4 (by decide)]; exact hz)
    unfold ctK ctT ctE ctO at this ⊢
    rw [e _ (by omega), e _ (by omega), e _ (by omega), e _ (by omega)]
    exact this
/-- BRIBES by the first c clues -/
def brN (w : Nat → Nat) (f : Nat → Int32) (n : Nat) : Nat → Nat
  | 0 => if asN w f n = true then 64 else 0
  | c + 1 => if asN (ctBr w c) f n = true then brN w f n c ||| 1 * 2 ^ c else brN w f n c
def oBribes (w ln sz : Nat → Nat) (it : Nat → Nat → Int32) (st x i n : Int32) : Int32 × Int32 :=
  if 0 < w 0 then if isR x then if nI 1 ≤ n ∧ n ≤ nI 16 then if ln x.toNatClampNeg = 3 then (-1000011, nI 1) else if rwB (sz x.toNatClampNeg) i n = true then (nI (brN w (fun d => it x.toNatClampNeg (i.toNatClampNeg + d)) n.toNatClampNeg (w 4)), nI 0)
  else (-1000012, nI 2) else (-1000001, st) else (-1000001, st) else (-1000002, st)
theorem nX6_strike_0 : ∀ w ∈ wsX60, w ∈ wsX6_strike := by decide +kernel
theorem mX6_strike_1 : Cond.fieldLink RX6 47 "ClueLeave" "city" "LClueLeave$City;" ∈ wsX6_strike := by decide +kernel
theorem nX6_strike_2 : ∀ w ∈ wsX20, w ∈ wsX6_strike := by decide +kernel
theorem mX6_strike_3 : Cond.fieldLink RX6 130 "ClueLeave$City" "day" "I" ∈ wsX6_strike := by decide +kernel
theorem mX6_strike_4 : Cond.methodLink RX6 228 Lib.Math.max.name ∈ wsX6_strike := by decide +kernel
theorem mX6_strike_5 : Cond.static Lib.Math.max.name ∈ wsX6_strike := by decide +kernel
theorem mX6_strike_6 : Cond.initialized "java/lang/Math" ∈ wsX6_strike := by decide +kernel
theorem mX6_strike_7 : Cond.code Lib.Math.max.name Lib.Math.max.code 2 (some .int) ∈ wsX6_strike := by decide +kernel
theorem mX6_strike_8 : Cond.constant RX6 66 (-1000001) ∈ wsX6_strike := by decide +kernel
theorem mX6_strike_9 : Cond.constant RX6 129 (-1000002) ∈ wsX6_strike := by decide +kernel
set_option maxHeartbeats 4000000 in
set_option maxRecDepth 100000 in
theorem c_X6_strike (l : Launch) (D : va_G) (cy : Nat → ClassId) (x0 r0 t0 q s0 k0 j0 im : Nat) (st : Int32) (h kA tA eA oA : Nat) (w : Nat → Nat) (fk ft fe fo : Nat → Int32) (hw : ctIs w fk ft fe fo) (hv : ctOk w) (d c y : Int32) : q_Rd l yX6_strike wsX6_strike 6 D cy [(x0, .inr (6, [.ref r0, .ref t0, .ref q, .ref s0, .ref k0, .ref h, .ref j0, .ref im, .int (st)])), (h, .inr (2, [.int (nI (w 0)), .int (nI (w 1)), .int (nI (w 2)), .int (nI (w 4)), .int (nI (w 3)), .ref kA, .ref tA, .ref eA, .ref oA])), (kA, .inl (cy 0, 6, .inl fk)), (tA, .inl (cy 0, 6, .inl ft)), (eA, .inl (cy 0, 6, .inl fe)), (oA, .inl (cy 0, 6, .inl fo))] [.ref x0, .int (d), .int (c), .int (y)] (fun r => r = oStrike w d c y) := by
  refine q_rd_of (cc := cX6_strike) (maxL := 8) (ret := (some .int)) (by decide) rfl (Nat.le_of_ble_eq_true rfl) ?_
  intro pg en s mi args below meth cd hC hP hK ls hl
  obtain ⟨hx, hb, hr, hml, hown, hts, hlocks⟩ := hC
  have hl : lv_has ls 8 [(0, .ref x0), (1, .int (d)), (2, .int (c)), (3, .int (y))] := hl
  obtain ⟨hv0, hv1, hv2, hv3, hv4, hvc⟩ := id hv
  refine lv_aload_n hx hb dX6_strike_0 rfl (lv_at hl 0 rfl) ?_
  refine va_get (D := D) (ci := 6) (v := .ref h) (C := RX6) (T := TX6) (N := 9) hx hb hts nX6_strike_0 hown hK.1 hP 0 rfl rfl 5 (by decide) (hts _ mX6_strike_1) (fun _ h9 => h9) rfl dX6_strike_1 ?_
  refine q_rV (As := []) (rest := []) ⟨hx, hb, hml, hown, hts⟩ (c_X2_stands l D cy h kA tA eA oA w fk ft fe fo hw hv) (cwV 0 hts gX6_strike_X2_stands rfl rfl rfl (by decide +kernel) ⟨Nat.le_of_ble_eq_true rfl, Nat.le_of_ble_eq_true rfl⟩) hP hK [1, 2, 3, 4, 5] rfl 1 rfl rfl rfl rfl hl.1 rfl (Nat.le_of_ble_eq_true rfl) dX6_strike_4 ⟨Nat.zero_le _, Nat.zero_le _⟩ (fun r1 hr1 => ?_)
  rcases hr1 with ⟨rfl, b2⟩ | ⟨rfl, b2⟩
  · have _ := b2
    refine lv_if_ne (tgt := 13) hx hb dX6_strike_7 (by decide) (fun _ => ?_) (fun c9 => absurd c9 (by decide))
    refine lv_iload_n hx hb dX6_strike_13 rfl (lv_at hl 1 rfl) ?_
    refine lv_iconst (v := nI 0) hx hb dX6_strike_14 (by decide) ?_
    refine lv_bipush (v := nI 99) hx hb dX6_strike_15 (by decide) ?_
    refine q_rS (As := [.int (d), .int (nI 0), .int (nI 99)]) (rest := []) ⟨hx, hb, hml, hown, hts⟩ (c_X6_isWithin l D cy d (nI 0) (nI 99)) (va_cwS 3 hts gX6_strike_X6_isWithin rfl rfl rfl (by decide +kernel) ⟨Nat.le_of_ble_eq_true rfl, Nat.le_of_ble_eq_true rfl⟩) hP hK [] rfl rfl hl.1 rfl (Nat.le_of_ble_eq_true rfl) dX6_strike_17 ⟨Nat.zero_le _, Nat.zero_le _⟩ (fun r3 hr3 => ?_)
    rcases hr3 with ⟨rfl, b4⟩ | ⟨rfl, b4⟩
    · have _ := b4
      refine lv_if_eq (tgt := 42) hx hb dX6_strike_20 (by decide) (fun c9 => absurd c9 (by decide)) (fun _ => ?_)
      obtain ⟨m, -, hm, rfl⟩ := q_rng b4 (by decide) (by decide)
      refine lv_iload_n hx hb dX6_strike_23 rfl (lv_at hl 2 rfl) ?_
      refine lv_iconst (v := nI 0) hx hb dX6_strike_24 (by decide) ?_
      refine lv_bipush (v := nI 10) hx hb dX6_strike_25 (by decide) ?_
      refine q_rS (As := [.int (c), .int (nI 0), .int (nI 10)]) (rest := []) ⟨hx, hb, hml, hown, hts⟩ (c_X6_isWithin l D cy c (nI 0) (nI 10)) (va_cwS 3 hts gX6_strike_X6_isWithin rfl rfl rfl (by decide +kernel) ⟨Nat.le_of_ble_eq_true rfl, Nat.le_of_ble_eq_true rfl⟩) hP hK [] rfl rfl hl.1 rfl (Nat.le_of_ble_eq_true rfl) dX6_strike_27 ⟨Nat.zero_le _, Nat.zero_le _⟩ (fun r5 hr5 => ?_)
      rcases hr5 with ⟨rfl, b6⟩ | ⟨rfl, b6⟩
      · have _ := b6
        refine lv_if_eq (tgt := 42) hx hb dX6_strike_30 (by decide) (fun c9 => absurd c9 (by decide)) (fun _ => ?_)
        obtain ⟨k, -, hk, rfl⟩ := q_rng b6 (by decide) (by decide)
        refine lv_iload_n hx hb dX6_strike_33 rfl (lv_at hl 3 rfl) ?_
        refine lv_iconst (v := nI 0) hx hb dX6_strike_34 (by decide) ?_
        refine lv_iconst (v := nI 1) hx hb dX6_strike_35 (by decide) ?_
        refine q_rS (As := [.int (y), .int (nI 0), .int (nI 1)]) (rest := []) ⟨hx, hb, hml, hown, hts⟩ (c_X6_isWithin l D cy y (nI 0) (nI 1)) (va_cwS 3 hts gX6_strike_X6_isWithin rfl rfl rfl (by decide +kernel) ⟨Nat.le_of_ble_eq_true rfl, Nat.le_of_ble_eq_true rfl⟩) hP hK [] rfl rfl hl.1 rfl (Nat.le_of_ble_eq_true rfl) dX6_strike_36 ⟨Nat.zero_le _, Nat.zero_le _⟩ (fun r7 hr7 => ?_)
        rcases hr7 with ⟨rfl, b8⟩ | ⟨rfl, b8⟩
        · have _ := b8
          refine lv_if_ne (tgt := 45) hx hb dX6_strike_39 (by decide) (fun _ => ?_) (fun c9 => absurd c9 (by decide))
          obtain ⟨u, -, hu, rfl⟩ := q_rng b8 (by decide) (by decide)
          have hwl := ctWks_lt w (w 2 + m) (w 4) hv4
          have htF := tsF_lt w (ctWks w (w 2 + m) (w 4)) k ((ctWks w (w 2 + m) (w 4)) + 1) (by omega) (by omega) (by omega)
          have hb6 := bc_6 (ctWks w (w 2 + m) (w 4)) (by omega)
          have hp10 := q_p10 (bc (ctWks w (w 2 + m) (w 4))) hb6
          refine lv_aload_n hx hb dX6_strike_45 rfl (lv_at hl 0 rfl) ?_
          refine va_get (D := D) (ci := 6) (v := .ref h) (C := RX6) (T := TX6) (N := 9) hx hb hts nX6_strike_0 hown hK.1 hP 0 rfl rfl 5 (by decide) (hts _ mX6_strike_1) (fun _ h9 => h9) rfl dX6_strike_46 ?_
          refine lv_aload_n hx hb dX6_strike_49 rfl (lv_at hl 0 rfl) ?_
          refine va_get (D := D) (ci := 6) (v := .ref h) (C := RX6) (T := TX6) (N := 9) hx hb hts nX6_strike_0 hown hK.1 hP 0 rfl rfl 5 (by decide) (hts _ mX6_strike_1) (fun _ h9 => h9) rfl dX6_strike_50 ?_
          refine va_get (D := D) (ci := 2) (v := .int (nI (w 2))) (C := RX2) (T := TX2) (N := 9) hx hb hts nX6_strike_2 hown hK.1 hP 1 rfl rfl 2 (by decide) (hts _ mX6_strike_3) (fun _ h9 => h9) rfl dX6_strike_53 ?_
          refine lv_iload_n hx hb dX6_strike_56 rfl (lv_at hl 1 rfl) ?_
          refine lv_iadd hx hb dX6_strike_57 ?_
          refine q_top (y := nI ((w 2) + m)) (nI_add _ _) ?_
          refine q_rV (As := [.int (nI ((w 2) + m))]) (rest := []) ⟨hx, hb, hml, hown, hts⟩ (c_X2_workersOn l D cy h kA tA eA oA w fk ft fe fo hw hv ((w 2) + m) (by omega)) (cwV 1 hts gX6_strike_X2_workersOn rfl rfl rfl (by decide +kernel) ⟨Nat.le_of_ble_eq_true rfl, Nat.le_of_ble_eq_true rfl⟩) hP hK [1, 2, 3, 4, 5] rfl 1 rfl rfl rfl rfl hl.1 rfl (Nat.le_of_ble_eq_true rfl) dX6_strike_58 ⟨Nat.zero_le _, Nat.zero_le _⟩ (fun r9 hr9 => ?_)
          obtain rfl := hr9
          refine lv_istore (lv' := [(4, .int (nI (ctWks w ((w 2) + m) (w 4)))), (0, .ref x0), (1, .int (nI m)), (2, .int (nI k)), (3, .int (nI u))]) hx hb dX6_strike_61 hl (by decide) rfl (fun ls hl => ?_)
          refine lv_aload_n hx hb dX6_strike_63 rfl (lv_at hl 1 rfl) ?_
          refine va_get (D := D) (ci := 6) (v := .ref h) (C := RX6) (T := TX6) (N := 9) hx hb hts nX6_strike_0 hown hK.1 hP 0 rfl rfl 5 (by decide) (hts _ mX6_strike_1) (fun _ h9 => h9) rfl dX6_strike_64 ?_
          refine lv_iload hx hb dX6_strike_67 (lv_at hl 0 rfl) ?_
          refine lv_iload_n hx hb dX6_strike_69 rfl (lv_at hl 3 rfl) ?_
          refine q_rV (As := [.int (nI (ctWks w ((w 2) + m) (w 4))), .int (nI k)]) (rest := []) ⟨hx, hb, hml, hown, hts⟩ (c_X2_tenthsSure l D cy h kA tA eA oA w fk ft fe fo hw hv (ctWks w ((w 2) + m) (w 4)) k (by omega) (by omega)) (cwV 2 hts gX6_strike_X2_tenthsSure rfl rfl rfl (by decide +kernel) ⟨Nat.le_of_ble_eq_true rfl, Nat.le_of_ble_eq_true rfl⟩) hP hK [1, 2, 3, 4, 5] rfl 1 rfl rfl rfl rfl hl.1 rfl (Nat.le_of_ble_eq_true rfl) dX6_strike_70 ⟨Nat.zero_le _, Nat.zero_le _⟩ (fun r10 hr10 => ?_)
          obtain rfl := hr10
          refine lv_istore (lv' := [(5, .int (nI (tsF w (ctWks w ((w 2) + m) (w 4)) k ((ctWks w ((w 2) + m) (w 4)) + 1)))), (4, .int (nI (ctWks w ((w 2) + m) (w 4)))), (0, .ref x0), (1, .int (nI m)), (2, .int (nI k)), (3, .int (nI u))]) hx hb dX6_strike_73 hl (by decide) rfl (fun ls hl => ?_)
          refine lv_bipush (v := nI 10) hx hb dX6_strike_75 (by decide) ?_
          refine lv_iload hx hb dX6_strike_77 (lv_at hl 1 rfl) ?_
          refine q_rS (As := [.int (nI (ctWks w ((w 2) + m) (w 4)))]) (rest := [.int (nI 10)]) ⟨hx, hb, hml, hown, hts⟩ (c_J6_bitCount_0f7a4 l D cy (ctWks w ((w 2) + m) (w 4)) (by omega)) (va_cwS 1 hts gX6_strike_J6_bitCount_0f7a4 rfl rfl rfl (by decide +kernel) ⟨Nat.le_of_ble_eq_true rfl, Nat.le_of_ble_eq_true rfl⟩) hP hK [] rfl rfl hl.1 rfl (Nat.le_of_ble_eq_true rfl) dX6_strike_79 ⟨Nat.zero_le _, Nat.zero_le _⟩ (fun r11 hr11 => ?_)
          obtain rfl := hr11
          refine q_rS (As := [.int (nI 10), .int (nI (bc (ctWks w ((w 2) + m) (w 4))))]) (rest := []) ⟨hx, hb, hml, hown, hts⟩ (c_X6_power l D cy 10 (bc (ctWks w ((w 2) + m) (w 4))) (by omega)) (va_cwS 2 hts gX6_strike_X6_power rfl rfl rfl (by decide +kernel) ⟨Nat.le_of_ble_eq_true rfl, Nat.le_of_ble_eq_true rfl⟩) hP hK [] rfl rfl hl.1 rfl (Nat.le_of_ble_eq_true rfl) dX6_strike_82 ⟨Nat.zero_le _, Nat.zero_le _⟩ (fun r12 hr12 => ?_)
          obtain rfl := hr12
          refine lv_istore (lv' := [(6, .int (nI (10 ^ (bc (ctWks w ((w 2) + m) (w 4)))))), (5, .int (nI (tsF w (ctWks w ((w 2) + m) (w 4)) k ((ctWks w ((w 2) + m) (w 4)) + 1)))), (4, .int (nI (ctWks w ((w 2) + m) (w 4)))), (0, .ref x0), (1, .int (nI m)), (2, .int (nI k)), (3, .int (nI u))]) hx hb dX6_strike_85 hl (by decide) rfl (fun ls hl => ?_)
          refine lv_iconst (v := nI 1) hx hb dX6_strike_87 (by decide) ?_
          refine lv_iload hx hb dX6_strike_88 (lv_at hl 1 rfl) ?_
          refine lv_iload hx hb dX6_strike_90 (lv_at hl 0 rfl) ?_
          refine q_rS (As := [.int (nI (tsF w (ctWks w ((w 2) + m) (w 4)) k ((ctWks w ((w 2) + m) (w 4)) + 1))), .int (nI (10 ^ (bc (ctWks w ((w 2) + m) (w 4)))))]) (rest := [.int (nI 1)]) ⟨hx, hb, hml, hown, hts⟩ (c_X6_greatestDivisor l D cy (tsF w (ctWks w ((w 2) + m) (w 4)) k ((ctWks w ((w 2) + m) (w 4)) + 1)) (10 ^ (bc (ctWks w ((w 2) + m) (w 4)))) (by omega) (by omega)) (va_cwS 2 hts gX6_strike_X6_greatestDivisor rfl rfl rfl (by decide +kernel) ⟨Nat.le_of_ble_eq_true rfl, Nat.le_of_ble_eq_true rfl⟩) hP hK [] rfl rfl hl.1 rfl (Nat.le_of_ble_eq_true rfl) dX6_strike_92 ⟨Nat.zero_le _, Nat.zero_le _⟩ (fun r13 hr13 => ?_)
          obtain rfl := hr13
          have hg1 := q_mx (Nat.gcd (tsF w (ctWks w (w 2 + m) (w 4)) k ((ctWks w (w 2 + m) (w 4)) + 1)) (10 ^ bc (ctWks w (w 2 + m) (w 4))))
          have hg2 := Nat.gcd_le_right (n := 10 ^ bc (ctWks w (w 2 + m) (w 4))) (tsF w (ctWks w (w 2 + m) (w 4)) k ((ctWks w (w 2 + m) (w 4)) + 1)) hp10.1
          refine va_mmax hx hb (hml.trans hl.1.symm) hown (hts _ mX6_strike_4) (hts _ mX6_strike_5) (hts _ mX6_strike_6) (hts _ mX6_strike_7) (Nat.le_of_ble_eq_true rfl) (Nat.le_of_ble_eq_true rfl) (Nat.zero_le _) (Nat.zero_le _) dX6_strike_95 ?_
          refine q_top (y := nI (max 1 (Nat.gcd (tsF w (ctWks w ((w 2) + m) (w 4)) k ((ctWks w ((w 2) + m) (w 4)) + 1)) (10 ^ (bc (ctWks w ((w 2) + m) (w 4))))))) (q_max (by decide) (by omega)) ?_
          refine lv_istore (lv' := [(7, .int (nI (max 1 (Nat.gcd (tsF w (ctWks w ((w 2) + m) (w 4)) k ((ctWks w ((w 2) + m) (w 4)) + 1)) (10 ^ (bc (ctWks w ((w 2) + m) (w 4)))))))), (6, .int (nI (10 ^ (bc (ctWks w ((w 2) + m) (w 4)))))), (5, .int (nI (tsF w (ctWks w ((w 2) + m) (w 4)) k ((ctWks w ((w 2) + m) (w 4)) + 1)))), (4, .int (nI (ctWks w ((w 2) + m) (w 4)))), (0, .ref x0), (1, .int (nI m)), (2, .int (nI k)), (3, .int (nI u))]) hx hb dX6_strike_98 hl (by decide) rfl (fun ls hl => ?_)
          refine lv_iload_n hx hb dX6_strike_100 rfl (lv_at hl 7 rfl) ?_
          refine q_if_ne (tgt := 109) hx hb dX6_strike_101 (by decide) (by omega) (fun c14 => ?_) (fun c14 => ?_)
          · refine lv_iload hx hb dX6_strike_109 (lv_at hl 1 rfl) ?_
            refine lv_iload hx hb dX6_strike_111 (lv_at hl 0 rfl) ?_
            refine lv_idiv hx hb dX6_strike_113 (q_ne0 (by omega) (by omega)) ?_
            refine q_top (y := nI ((10 ^ (bc (ctWks w ((w 2) + m) (w 4)))) / (max 1 (Nat.gcd (tsF w (ctWks w ((w 2) + m) (w 4)) k ((ctWks w ((w 2) + m) (w 4)) + 1)) (10 ^ (bc (ctWks w ((w 2) + m) (w 4)))))))) (pk_div (a := (10 ^ (bc (ctWks w ((w 2) + m) (w 4))))) (d := (max 1 (Nat.gcd (tsF w (ctWks w ((w 2) + m) (w 4)) k ((ctWks w ((w 2) + m) (w 4)) + 1)) (10 ^ (bc (ctWks w ((w 2) + m) (w 4))))))) (by omega) (by omega) (by omega)) ?_
            exact q_iret (v := nI ((10 ^ (bc (ctWks w ((w 2) + m) (w 4)))) / (max 1 (Nat.gcd (tsF w (ctWks w ((w 2) + m) (w 4)) k ((ctWks w ((w 2) + m) (w 4)) + 1)) (10 ^ (bc (ctWks w ((w 2) + m) (w 4)))))))) hx hb hr hlocks dX6_strike_114 ((by simp only [oStrike, q_cl (by omega : m < 2147483648), q_cl (by omega : k < 2147483648), q_cl (by omega : u < 2147483648), if_pos b2, if_pos b4, if_pos b6, if_pos b8, if_neg (by omega : ¬ u = 0)]))
          · refine lv_iload hx hb dX6_strike_104 (lv_at hl 2 rfl) ?_
            refine lv_goto (tgt := 111) hx hb dX6_strike_106 (by decide) ?_
            refine lv_iload hx hb dX6_strike_111 (lv_at hl 0 rfl) ?_
            refine lv_idiv hx hb dX6_strike_113 (q_ne0 (by omega) (by omega)) ?_
            refine q_top (y := nI ((tsF w (ctWks w ((w 2) + m) (w 4)) k ((ctWks w ((w 2) + m) (w 4)) + 1)) / (max 1 (Nat.gcd (tsF w (ctWks w ((w 2) + m) (w 4)) k ((ctWks w ((w 2) + m) (w 4)) + 1)) (10 ^ (bc (ctWks w ((w 2) + m) (w 4)))))))) (pk_div (a := (tsF w (ctWks w ((w 2) + m) (w 4)) k ((ctWks w ((w 2) + m) (w 4)) + 1))) (d := (max 1 (Nat.gcd (tsF w (ctWks w ((w 2) + m) (w 4)) k ((ctWks w ((w 2) + m) (w 4)) + 1)) (10 ^ (bc (ctWks w ((w 2) + m) (w 4))))))) (by omega) (by omega) (by omega)) ?_
            exact q_iret (v := nI ((tsF w (ctWks w ((w 2) + m) (w 4)) k ((ctWks w ((w 2) + m) (w 4)) + 1)) / (max 1 (Nat.gcd (tsF w (ctWks w ((w 2) + m) (w 4)) k ((ctWks w ((w 2) + m) (w 4)) + 1)) (10 ^ (bc (ctWks w ((w 2) + m) (w 4)))))))) hx hb hr hlocks dX6_strike_114 ((by simp only [oStrike, q_cl (by omega : m < 2147483648), q_cl (by omega : k < 2147483648), q_cl (by omega : u < 2147483648), if_pos b2, if_pos b4, if_pos b6, if_pos b8, if_pos (by omega : u = 0)]))
        · have _ := b8
          refine lv_if_ne (tgt := 45) hx hb dX6_strike_39 (by decide) (fun c9 => absurd (by decide) c9) (fun _ => ?_)
          refine lv_ldc (v := (-1000001)) hx hb hown (hts _ mX6_strike_8) dX6_strike_42 ?_
          exact q_iret (v := (-1000001)) hx hb hr hlocks dX6_strike_44 ((by simp only [oStrike, if_pos b2, if_pos b4, if_pos b6, if_neg b8]))
      · have _ := b6
        refine lv_if_eq (tgt := 42) hx hb dX6_strike_30 (by decide) (fun _ => ?_) (fun c9 => absurd (by decide) c9)
        refine lv_ldc (v := (-1000001)) hx hb hown (hts _ mX6_strike_8) dX6_strike_42 ?_
        exact q_iret (v := (-1000001)) hx hb hr hlocks dX6_strike_44 ((by simp only [oStrike, if_pos b2, if_pos b4, if_neg b6]))
    · have _ := b4
      refine lv_if_eq (tgt := 42) hx hb dX6_strike_20 (by decide) (fun _ => ?_) (fun c9 => absurd (by decide) c9)
      refine lv_ldc (v := (-1000001)) hx hb hown (hts _ mX6_strike_8) dX6_strike_42 ?_
      exact q_iret (v := (-1000001)) hx hb hr hlocks dX6_strike_44 ((by simp only [oStrike, if_pos b2, if_neg b4]))
  · have _ := b2
    refine lv_if_ne (tgt := 13) hx hb dX6_strike_7 (by decide) (fun c9 => absurd (by decide) c9) (fun _ => ?_)
    refine lv_ldc (v := (-1000002)) hx hb hown (hts _ mX6_strike_9) dX6_strike_10 ?_
    exact q_iret (v := (-1000002)) hx hb hr hlocks dX6_strike_12 ((by simp only [oStrike, if_neg b2]))
theorem nX6_isAsTold_0 : ∀ w ∈ wsX20, w ∈ wsX6_isAsTold := by decide +kernel
theorem mX6_isAsTold_1 : Cond.fieldLink RX6 130 "ClueLeave$City" "day" "I" ∈ wsX6_isAsTold := by decide +kernel
theorem nX6_isAsTold_2 : ∀ w ∈ wsX60, w ∈ wsX6_isAsTold := by decide +kernel
theorem mX6_isAsTold_3 : Cond.fieldLink RX6 10 "ClueLeave" "rows" "LClueLeave$Rows;" ∈ wsX6_isAsTold := by decide +kernel
set_option maxHeartbeats 4000000 in
set_option maxRecDepth 100000 in
theorem c_X6_isAsTold (l : Launch) (D : va_G) (cy : Nat → ClassId) (x0 t0 q s0 k0 h9 j0 im : Nat) (st : Int32) (r0 rl rz ri : Nat) (gI : Nat → Option Nat) (gR : Nat → Nat) (hgI : ∀ r, r < 8 → gI r = some (gR r)) (fl fz : Nat → Int32) (it : Nat → Nat → Int32) (ln sz : Nat → Nat) (hrw : rwIs ln sz fl fz) (h kA tA eA oA : Nat) (w : Nat → Nat) (fk ft fe fo : Nat → Int32) (hw : ctIs w fk ft fe fo) (hv : ctOk w) (k i n : Nat) (hk : k < 8) (hin : i + n ≤ 40) (hn : n ≤ 16) : q_Rd l yX6_isAsTold wsX6_isAsTold 6 D cy ([(x0, .inr (6, [.ref r0, .ref t0, .ref q, .ref s0, .ref k0, .ref h9, .ref j0, .ref im, .int (st)])), (h, .inr (2, [.int (nI (w 0)), .int (nI (w 1)), .int (nI (w 2)), .int (nI (w 4)), .int (nI (w 3)), .ref kA, .ref tA, .ref eA, .ref oA])), (kA, .inl (cy 0, 6, .inl fk)), (tA, .inl (cy 0, 6, .inl ft)), (eA, .inl (cy 0, 6, .inl fe)), (oA, .inl (cy 0, 6, .inl fo)), (r0, .inr (4, [.ref rl, .ref rz, .ref ri])), (rl, .inl (cy 0, 8, .inl fl)), (rz, .inl (cy 0, 8, .inl fz)), (ri, .inl (cy 3, 8, .inr (.inr (.inr (.inr gI)))))] ++ (famI cy 8 40 gR it ++ [])) [.ref x0, .ref h, .int (nI k), .int (nI i), .int (nI n)] (fun r => r = nI 1 ∧ asN w (fun d => it k (i + d)) n = true ∨ r = nI 0 ∧ ¬ asN w (fun d => it k (i + d)) n = true) := by
  refine q_rd_of (cc := cX6_isAsTold) (maxL := 6) (ret := (some .boolean)) (by decide) rfl (Nat.le_of_ble_eq_true rfl) ?_
  intro pg en s mi args below meth cd hC hP hK ls hl
  obtain ⟨hx, hb, hr, hml, hown, hts, hlocks⟩ := hC
  have hl : lv_has ls 6 [(0, .ref x0), (1, .ref h), (2, .int (nI k)), (3, .int (nI i)), (4, .int (nI n))] := hl
  obtain ⟨hv0, hv1, hv2, hv3, hv4, hvc⟩ := id hv
  refine lv_iconst (v := nI 0) hx hb dX6_isAsTold_0 (by decide) ?_
  refine lv_istore (lv' := [(5, .int (nI 0)), (0, .ref x0), (1, .ref h), (2, .int (nI k)), (3, .int (nI i)), (4, .int (nI n))]) hx hb dX6_isAsTold_1 hl (by decide) rfl (fun ls hl => ?_)
  have L3_5 : ∀ (fu d : Nat), d ≤ n → n < d + fu → asN w (fun d => it k (i + d)) d = true → ∀ ls : Array Slot, lv_has ls 6 [(0, .ref x0), (1, .ref h), (2, .int (nI k)), (3, .int (nI i)), (4, .int (nI n)), (5, .int (nI d))] → W pg l en (q_rm 6) s mi args below meth cd s.heap [] 0 0 (MQ below (vp_Si (fun r => r = nI 1 ∧ asN w (fun d => it k (i + d)) n = true ∨ r = nI 0 ∧ ¬ asN w (fun d => it k (i + d)) n = true)) args s 0 0 (fun _ => False)) (F0 mi 3 ls []) := by
    intro fu
    induction fu with
    | zero =>
      intro d h1 h2
      exact absurd h2 (by omega)
    | succ fu ih3 =>
      intro d h1_3 h2_3 hf3_0 ls hl
      refine lv_iload hx hb dX6_isAsTold_3 (lv_at hl 5 rfl) ?_
      refine lv_iload hx hb dX6_isAsTold_5 (lv_at hl 4 rfl) ?_
      refine q_icmp_ge (tgt := 44) hx hb dX6_isAsTold_7 (by decide) (by omega) (by omega) (fun c1 => ?_) (fun c1 => ?_)
      · refine lv_iconst (v := nI 1) hx hb dX6_isAsTold_44 (by decide) ?_
        exact q_zret (v := nI 1) hx hb hr hlocks dX6_isAsTold_45 (by decide) (Or.inl ⟨rfl, by rw [show n = d by omega]; exact hf3_0⟩)
      · refine lv_aload_n hx hb dX6_isAsTold_10 rfl (lv_at hl 1 rfl) ?_
        refine lv_aload_n hx hb dX6_isAsTold_11 rfl (lv_at hl 1 rfl) ?_
        refine va_get (D := D) (ci := 2) (v := .int (nI (w 2))) (C := RX2) (T := TX2) (N := 9) hx hb hts nX6_isAsTold_0 hown hK.1 hP 1 rfl rfl 2 (by decide) (hts _ mX6_isAsTold_1) (fun _ h9 => h9) rfl dX6_isAsTold_12 ?_
        refine lv_iload hx hb dX6_isAsTold_15 (lv_at hl 5 rfl) ?_
        refine lv_iadd hx hb dX6_isAsTold_17 ?_
        refine q_top (y := nI ((w 2) + d)) (nI_add _ _) ?_
        refine q_rV (As := [.int (nI ((w 2) + d))]) (rest := []) ⟨hx, hb, hml, hown, hts⟩ (c_X2_leftOn l D cy h kA tA eA oA w fk ft fe fo hw hv ((w 2) + d) (by omega)) (cwV 1 hts gX6_isAsTold_X2_leftOn rfl rfl rfl (by decide +kernel) ⟨Nat.le_of_ble_eq_true rfl, Nat.le_of_ble_eq_true rfl⟩) hP hK [1, 2, 3, 4, 5] rfl 1 rfl rfl rfl rfl hl.1 rfl (Nat.le_of_ble_eq_true rfl) dX6_isAsTold_18 ⟨Nat.zero_le _, Nat.zero_le _⟩ (fun r2 hr2 => ?_)
        obtain rfl := hr2
        refine lv_aload_n hx hb dX6_isAsTold_21 rfl (lv_at hl 0 rfl) ?_
        refine va_get (D := D) (ci := 6) (v := .ref r0) (C := RX6) (T := TX6) (N := 9) hx hb hts nX6_isAsTold_2 hown hK.1 hP 0 rfl rfl 0 (by decide) (hts _ mX6_isAsTold_3) (fun _ h9 => h9) rfl dX6_isAsTold_22 ?_
        refine lv_iload_n hx hb dX6_isAsTold_25 rfl (lv_at hl 2 rfl) ?_
        refine lv_iload_n hx hb dX6_isAsTold_26 rfl (lv_at hl 3 rfl) ?_
        refine lv_iload hx hb dX6_isAsTold_27 (lv_at hl 5 rfl) ?_
        refine lv_iadd hx hb dX6_isAsTold_29 ?_
        refine q_top (y := nI (i + d)) (nI_add _ _) ?_
        refine q_rV (As := [.int (nI k), .int (nI (i + d))]) (rest := [.int (nI (ctLeft w ((w 2) + d)))]) ⟨hx, hb, hml, hown, hts⟩ (c_X4_itemAt l D cy r0 rl rz ri gI gR hgI fl fz it ln sz hrw k (i + d) (by omega) (by omega)) (cwV 2 hts gX6_isAsTold_X4_itemAt rfl rfl rfl (by decide +kernel) ⟨Nat.le_of_ble_eq_true rfl, Nat.le_of_ble_eq_true rfl⟩) hP hK [6, 7, 8, 9, 10, 11, 12, 13, 14, 15, 16, 17] rfl 6 rfl rfl rfl rfl hl.1 rfl (Nat.le_of_ble_eq_true rfl) dX6_isAsTold_30 ⟨Nat.zero_le _, Nat.zero_le _⟩ (fun r3 hr3 => ?_)
        obtain rfl := hr3
        refine lv_icmp_eq (tgt := 38) hx hb dX6_isAsTold_33 (by decide) (fun c4 => ?_) (fun c4 => ?_)
        · refine lv_iinc (v := nI (d + 1)) (lv' := [(5, .int (nI (d + 1))), (0, .ref x0), (1, .ref h), (2, .int (nI k)), (3, .int (nI i)), (4, .int (nI n))]) hx hb dX6_isAsTold_38 hl (k := 5) rfl (q_inc d 1) (by decide) rfl (fun ls hl => ?_)
          refine lv_goto (tgt := 3) hx hb dX6_isAsTold_41 (by decide) ?_
          exact ih3 (d + 1) (by omega) (by omega) (asN_s hf3_0 c4) ls (lv_sub (l' := [(0, .ref x0), (1, .ref h), (2, .int (nI k)), (3, .int (nI i)), (4, .int (nI n)), (5, .int (nI (d + 1)))]) hl [1, 2, 3, 4, 5, 0] rfl)
        · refine lv_iconst (v := nI 0) hx hb dX6_isAsTold_36 (by decide) ?_
          exact q_zret (v := nI 0) hx hb hr hlocks dX6_isAsTold_37 (by decide) (Or.inr ⟨rfl, asN_f (by omega) c4⟩)
  exact L3_5 (n + 1) 0 (by omega) (by omega) rfl ls (lv_sub (l' := [(0, .ref x0), (1, .ref h), (2, .int (nI k)), (3, .int (nI i)), (4, .int (nI n)), (5, .int (nI 0))]) hl [1, 2, 3, 4, 5, 0] rfl)

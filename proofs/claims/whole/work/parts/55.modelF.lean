theorem bst_s {gc : Nat → Int32} {o : Nat → Nat} {v : Int32} {i : Nat} (h : ∀ c, c < i → gc c = nI (o c)) (hv : v = nI (o i) := by rfl) : ∀ c, c < i + 1 → upd gc i v c = nI (o c) := fun c hc => by
  by_cases e : c = i
  · subst e; rw [pk_us]; exact hv
  · rw [pk_un e]; exact h c (by omega)
theorem ro_m1 {k : Int32} (h : k = -1) (n : Nat) (hn : n ≤ 6 := by omega) : k < nI n ∧ ¬ 0 ≤ k := by
  subst h
  refine ⟨?_, by decide⟩
  have : ∀ n, n < 7 → (-1 : Int32) < nI n := by decide +kernel
  exact this n (by omega)
theorem ro_c (c : Nat) {n : Nat} (h : c < n) (hn : n ≤ 6) : nI c < nI n ∧ 0 ≤ nI c := ⟨(nI_ltI (by omega) (by omega)).mpr h, (nI_leI (a := 0) (by decide) (by omega)).mpr (Nat.zero_le _)⟩
theorem ro_ge {k : Int32} {n : Nat} (h : (-1) ≤ k ∧ k ≤ nI 5) (h1 : ¬ k = -1) (h2 : ¬ inC n k) : ¬ k < nI n := fun q => h2 ⟨by
  have a1 := Int32.le_iff_toInt_le.mp h.1
  rw [show (-1 : Int32).toInt = -1 by decide] at a1
  have a2 : k.toInt ≠ -1 := fun e => h1 (Int32.toInt_inj.mp (e.trans (by decide)))
  rw [Int32.le_iff_toInt_le, show (nI 0).toInt = 0 by decide]
  omega, q⟩
theorem nX7_strike_0 : ∀ w ∈ wsX70, w ∈ wsX7_strike := by decide +kernel
theorem mX7_strike_1 : Cond.fieldLink RX7 25 "ClueLeaveModel" "now" "[I" ∈ wsX7_strike := by decide +kernel
theorem mX7_strike_2 : Cond.constant RX7 64 (-1000001) ∈ wsX7_strike := by decide +kernel
theorem mX7_strike_3 : Cond.constant RX7 163 (-1000002) ∈ wsX7_strike := by decide +kernel
set_option maxHeartbeats 4000000 in
set_option maxRecDepth 100000 in
theorem c_X7_strike (l : Launch) (D : va_G) (cy : Nat → ClassId) (m0 ml mm mit ms mt nw dr tr pa ig kx be tc : Nat) (st fk fp av sv ov vv : Int32) (tn ac td : Nat) (f : Nat → Int32) (w : Nat → Nat) (hm : mwIs w f) (hv : ctOk w) (d c y : Int32) : q_Rd l yX7_strike wsX7_strike 5 D cy [(m0, .inr (7, [.ref ml, .ref mm, .ref mit, .ref ms, .int (st), .ref mt, .int (nI tn), .int (fk), .int (fp), .int (av), .int (sv), .int (ov), .int (vv), .ref nw, .ref dr, .ref tr, .ref pa, .int (nI ac), .ref ig, .ref kx, .ref be, .ref tc, .int (nI td)])), (nw, .inl (cy 0, 29, .inl f))] [.ref m0, .int (d), .int (c), .int (y)] (fun r => r = oStrike w d c y) := by
  refine q_rd_of (cc := cX7_strike) (maxL := 10) (ret := (some .int)) (by decide) rfl (Nat.le_of_ble_eq_true rfl) ?_
  intro pg en s mi args below meth cd hC hP hK ls hl
  obtain ⟨hx, hb, hr, hml, hown, hts, hlocks⟩ := hC
  have hl : lv_has ls 10 [(0, .ref m0), (1, .int (d)), (2, .int (c)), (3, .int (y))] := hl
  obtain ⟨hv0, hv1, hv2, hv3, hv4, hvc⟩ := id hv
  refine lv_aload_n hx hb dX7_strike_0 rfl (lv_at hl 0 rfl) ?_
  refine q_rV (As := []) (rest := []) ⟨hx, hb, hml, hown, hts⟩ (c_X7_isCity l D cy m0 ml mm mit ms mt nw dr tr pa ig kx be tc st fk fp av sv ov vv tn ac td f w hm hv) (cwV 0 hts gX7_strike_X7_isCity rfl rfl rfl (by decide +kernel) ⟨Nat.le_of_ble_eq_true rfl, Nat.le_of_ble_eq_true rfl⟩) hP hK [0, 1] rfl 0 rfl rfl rfl rfl hl.1 rfl (Nat.le_of_ble_eq_true rfl) dX7_strike_1 ⟨Nat.zero_le _, Nat.zero_le _⟩ (fun r1 hr1 => ?_)
  rcases hr1 with ⟨rfl, b2⟩ | ⟨rfl, b2⟩
  · have _ := b2
    refine lv_if_ne (tgt := 10) hx hb dX7_strike_4 (by decide) (fun _ => ?_) (fun c9 => absurd c9 (by decide))
    refine lv_iload_n hx hb dX7_strike_10 rfl (lv_at hl 1 rfl) ?_
    refine q_rS (As := [.int (d)]) (rest := []) ⟨hx, hb, hml, hown, hts⟩ (c_X7_isFar l D cy d) (va_cwS 1 hts gX7_strike_X7_isFar rfl rfl rfl (by decide +kernel) ⟨Nat.le_of_ble_eq_true rfl, Nat.le_of_ble_eq_true rfl⟩) hP hK [] rfl rfl hl.1 rfl (Nat.le_of_ble_eq_true rfl) dX7_strike_11 ⟨Nat.zero_le _, Nat.zero_le _⟩ (fun r3 hr3 => ?_)
    rcases hr3 with ⟨rfl, b4⟩ | ⟨rfl, b4⟩
    · have _ := b4
      refine lv_if_eq (tgt := 36) hx hb dX7_strike_14 (by decide) (fun c9 => absurd c9 (by decide)) (fun _ => ?_)
      obtain ⟨m, -, hx_m, rfl⟩ := q_rng b4 (by decide) (by decide)
      refine lv_iload_n hx hb dX7_strike_17 rfl (lv_at hl 2 rfl) ?_
      refine lv_iconst (v := nI 0) hx hb dX7_strike_18 (by decide) ?_
      refine lv_bipush (v := nI 10) hx hb dX7_strike_19 (by decide) ?_
      refine q_rS (As := [.int (c), .int (nI 0), .int (nI 10)]) (rest := []) ⟨hx, hb, hml, hown, hts⟩ (c_X7_in l D cy c (nI 0) (nI 10)) (va_cwS 3 hts gX7_strike_X7_in rfl rfl rfl (by decide +kernel) ⟨Nat.le_of_ble_eq_true rfl, Nat.le_of_ble_eq_true rfl⟩) hP hK [] rfl rfl hl.1 rfl (Nat.le_of_ble_eq_true rfl) dX7_strike_21 ⟨Nat.zero_le _, Nat.zero_le _⟩ (fun r5 hr5 => ?_)
      rcases hr5 with ⟨rfl, b6⟩ | ⟨rfl, b6⟩
      · have _ := b6
        refine lv_if_eq (tgt := 36) hx hb dX7_strike_24 (by decide) (fun c9 => absurd c9 (by decide)) (fun _ => ?_)
        obtain ⟨k, -, hx_k, rfl⟩ := q_rng b6 (by decide) (by decide)
        refine lv_iload_n hx hb dX7_strike_27 rfl (lv_at hl 3 rfl) ?_
        refine lv_iconst (v := nI 0) hx hb dX7_strike_28 (by decide) ?_
        refine lv_iconst (v := nI 1) hx hb dX7_strike_29 (by decide) ?_
        refine q_rS (As := [.int (y), .int (nI 0), .int (nI 1)]) (rest := []) ⟨hx, hb, hml, hown, hts⟩ (c_X7_in l D cy y (nI 0) (nI 1)) (va_cwS 3 hts gX7_strike_X7_in rfl rfl rfl (by decide +kernel) ⟨Nat.le_of_ble_eq_true rfl, Nat.le_of_ble_eq_true rfl⟩) hP hK [] rfl rfl hl.1 rfl (Nat.le_of_ble_eq_true rfl) dX7_strike_30 ⟨Nat.zero_le _, Nat.zero_le _⟩ (fun r7 hr7 => ?_)
        rcases hr7 with ⟨rfl, b8⟩ | ⟨rfl, b8⟩
        · have _ := b8
          refine lv_if_ne (tgt := 39) hx hb dX7_strike_33 (by decide) (fun _ => ?_) (fun c9 => absurd c9 (by decide))
          obtain ⟨u, -, hx_u, rfl⟩ := q_rng b8 (by decide) (by decide)
          have hwl := ctWks_lt w (w 2 + m) (w 4) hv4
          refine lv_aload_n hx hb dX7_strike_39 rfl (lv_at hl 0 rfl) ?_
          refine va_get (D := D) (ci := 7) (v := .ref nw) (C := RX7) (T := TX7) (N := 23) hx hb hts nX7_strike_0 hown hK.1 hP 0 rfl rfl 13 (by decide) (hts _ mX7_strike_1) (fun _ h9 => h9) rfl dX7_strike_40 ?_
          refine lv_aload_n hx hb dX7_strike_43 rfl (lv_at hl 0 rfl) ?_
          refine va_get (D := D) (ci := 7) (v := .ref nw) (C := RX7) (T := TX7) (N := 23) hx hb hts nX7_strike_0 hown hK.1 hP 0 rfl rfl 13 (by decide) (hts _ mX7_strike_1) (fun _ h9 => h9) rfl dX7_strike_44 ?_
          refine lv_iconst (v := nI 2) hx hb dX7_strike_47 (by decide) ?_
          refine q_iald (j := 2) (v := nI (w 2)) hx hb hK hP 1 rfl (by omega) (by decide) (hm _ (by omega)) dX7_strike_48 ?_
          refine lv_iload_n hx hb dX7_strike_49 rfl (lv_at hl 1 rfl) ?_
          refine lv_iadd hx hb dX7_strike_50 ?_
          refine q_top (y := nI ((w 2) + m)) (nI_add _ _) ?_
          refine q_rS (As := [.ref nw, .int (nI ((w 2) + m))]) (rest := []) ⟨hx, hb, hml, hown, hts⟩ (c_X7_workers l D cy nw f w hm hv ((w 2) + m) (by omega)) (va_cwS 2 hts gX7_strike_X7_workers rfl rfl rfl (by decide +kernel) ⟨Nat.le_of_ble_eq_true rfl, Nat.le_of_ble_eq_true rfl⟩) hP hK [1] rfl rfl hl.1 rfl (Nat.le_of_ble_eq_true rfl) dX7_strike_51 ⟨Nat.zero_le _, Nat.zero_le _⟩ (fun r9 hr9 => ?_)
          obtain rfl := hr9
          refine lv_istore (lv' := [(4, .int (nI (ctWks w ((w 2) + m) (w 4)))), (0, .ref m0), (1, .int (nI m)), (2, .int (nI k)), (3, .int (nI u))]) hx hb dX7_strike_54 hl (by decide) rfl (fun ls hl => ?_)
          refine lv_iconst (v := nI 0) hx hb dX7_strike_56 (by decide) ?_
          refine lv_istore (lv' := [(5, .int (nI 0)), (4, .int (nI (ctWks w ((w 2) + m) (w 4)))), (0, .ref m0), (1, .int (nI m)), (2, .int (nI k)), (3, .int (nI u))]) hx hb dX7_strike_57 hl (by decide) rfl (fun ls hl => ?_)
          refine lv_iconst (v := nI 1) hx hb dX7_strike_59 (by decide) ?_
          refine lv_istore (lv' := [(6, .int (nI 1)), (5, .int (nI 0)), (4, .int (nI (ctWks w ((w 2) + m) (w 4)))), (0, .ref m0), (1, .int (nI m)), (2, .int (nI k)), (3, .int (nI u))]) hx hb dX7_strike_60 hl (by decide) rfl (fun ls hl => ?_)
          refine lv_iconst (v := nI 0) hx hb dX7_strike_62 (by decide) ?_
          refine lv_istore (lv' := [(7, .int (nI 0)), (6, .int (nI 1)), (5, .int (nI 0)), (4, .int (nI (ctWks w ((w 2) + m) (w 4)))), (0, .ref m0), (1, .int (nI m)), (2, .int (nI k)), (3, .int (nI u))]) hx hb dX7_strike_63 hl (by decide) rfl (fun ls hl => ?_)
          have L65_49 : ∀ (fu k1 : Nat), k1 ≤ w 4 → w 4 < k1 + fu → ∀ ls : Array Slot, lv_has ls 10 [(0, .ref m0), (1, .int (nI m)), (2, .int (nI k)), (3, .int (nI u)), (4, .int (nI (ctWks w (w 2 + m) (w 4)))), (5, .int (nI 0)), (6, .int (nI (blN (ctWks w (w 2 + m) (w 4)) k1))), (7, .int (nI k1))] → W pg l en (q_rm 5) s mi args below meth cd s.heap [] 0 0 (MQ below (vp_Si (fun r => r = oStrike w (nI m) (nI k) (nI u))) args s 0 0 (fun _ => False)) (F0 mi 65 ls []) := by
            intro fu
            induction fu with
            | zero =>
              intro k1 h1 h2
              exact absurd h2 (by omega)
            | succ fu ih65 =>
              intro k1 h1_65 h2_65 ls hl
              refine lv_iload hx hb dX7_strike_65 (lv_at hl 7 rfl) ?_
              refine lv_aload_n hx hb dX7_strike_67 rfl (lv_at hl 0 rfl) ?_
              refine va_get (D := D) (ci := 7) (v := .ref nw) (C := RX7) (T := TX7) (N := 23) hx hb hts nX7_strike_0 hown hK.1 hP 0 rfl rfl 13 (by decide) (hts _ mX7_strike_1) (fun _ h9 => h9) rfl dX7_strike_68 ?_
              refine lv_iconst (v := nI 4) hx hb dX7_strike_71 (by decide) ?_
              refine q_iald (j := 4) (v := nI (w 4)) hx hb hK hP 1 rfl (by omega) (by decide) (hm _ (by omega)) dX7_strike_72 ?_
              refine q_icmp_ge (tgt := 103) hx hb dX7_strike_73 (by decide) (by omega) (by omega) (fun c10 => ?_) (fun c10 => ?_)
              · refine lv_iconst (v := nI 0) hx hb dX7_strike_103 (by decide) ?_
                refine lv_istore (lv' := [(7, .int (nI 0)), (0, .ref m0), (1, .int (nI m)), (2, .int (nI k)), (3, .int (nI u)), (4, .int (nI (ctWks w (w 2 + m) (w 4)))), (5, .int (nI 0)), (6, .int (nI (blN (ctWks w (w 2 + m) (w 4)) k1)))]) hx hb dX7_strike_104 hl (by decide) rfl (fun ls hl => ?_)
                have hwl2 := ctWks_2 w (w 2 + m) (w 4)
                have L106_66 : ∀ (fu g1 : Nat), g1 ≤ ((ctWks w (w 2 + m) (w 4)) + 1) → ((ctWks w (w 2 + m) (w 4)) + 1) < g1 + fu → ∀ ls : Array Slot, lv_has ls 10 [(0, .ref m0), (1, .int (nI m)), (2, .int (nI k)), (3, .int (nI u)), (4, .int (nI (ctWks w (w 2 + m) (w 4)))), (5, .int (nI (gsF w (ctWks w (w 2 + m) (w 4)) k g1))), (6, .int (nI (blN (ctWks w (w 2 + m) (w 4)) k1))), (7, .int (nI g1))] → W pg l en (q_rm 5) s mi args below meth cd s.heap [] 0 0 (MQ below (vp_Si (fun r => r = oStrike w (nI m) (nI k) (nI u))) args s 0 0 (fun _ => False)) (F0 mi 106 ls []) := by
                  intro fu
                  induction fu with
                  | zero =>
                    intro g1 h1 h2
                    exact absurd h2 (by omega)
                  | succ fu ih106 =>
                    intro g1 h1_106 h2_106 ls hl
                    refine lv_iload hx hb dX7_strike_106 (lv_at hl 7 rfl) ?_
                    refine lv_iload hx hb dX7_strike_108 (lv_at hl 4 rfl) ?_
                    refine q_icmp_gt (tgt := 221) hx hb dX7_strike_110 (by decide) (by omega) (by omega) (fun c11 => ?_) (fun c11 => ?_)
                    · have hg1 : g1 = (ctWks w (w 2 + m) (w 4)) + 1 := by omega
                      have hk1 : k1 = w 4 := by omega
                      have hl : lv_has ls 10 [(0, .ref m0), (1, .int (nI m)), (2, .int (nI k)), (3, .int (nI u)), (4, .int (nI (ctWks w (w 2 + m) (w 4)))), (5, .int (nI (tsF w (ctWks w (w 2 + m) (w 4)) k ((ctWks w (w 2 + m) (w 4)) + 1)))), (6, .int (nI (blN (ctWks w (w 2 + m) (w 4)) k1))), (7, .int (nI g1))] := q_lset hl (q_c1 (f := fun z9 => ([(0, .ref m0), (1, .int (nI m)), (2, .int (nI k)), (3, .int (nI u)), (4, .int (nI (ctWks w (w 2 + m) (w 4)))), (5, .int (z9)), (6, .int (nI (blN (ctWks w (w 2 + m) (w 4)) k1))), (7, .int (nI g1))] : List (Nat × Value))) (by rw [hg1, gsF_ts hv0 hv4 hwl2]))
                      have hl : lv_has ls 10 [(0, .ref m0), (1, .int (nI m)), (2, .int (nI k)), (3, .int (nI u)), (4, .int (nI (ctWks w (w 2 + m) (w 4)))), (5, .int (nI (tsF w (ctWks w (w 2 + m) (w 4)) k ((ctWks w (w 2 + m) (w 4)) + 1)))), (6, .int (nI (10 ^ bc (ctWks w (w 2 + m) (w 4))))), (7, .int (nI g1))] := q_lset hl (q_c1 (f := fun z9 => ([(0, .ref m0), (1, .int (nI m)), (2, .int (nI k)), (3, .int (nI u)), (4, .int (nI (ctWks w (w 2 + m) (w 4)))), (5, .int (nI (tsF w (ctWks w (w 2 + m) (w 4)) k ((ctWks w (w 2 + m) (w 4)) + 1)))), (6, .int (z9)), (7, .int (nI g1))] : List (Nat × Value))) (by rw [hk1, blN_fin _ (by omega) _ hwl2]))
                      have htF := tsF_lt w (ctWks w (w 2 + m) (w 4)) k ((ctWks w (w 2 + m) (w 4)) + 1) (by omega) (by omega) (by omega)
                      have hb6 := bc_6 (ctWks w (w 2 + m) (w 4)) (by omega)
                      have hp10 := q_p10 (bc (ctWks w (w 2 + m) (w 4))) hb6
                      refine lv_iload hx hb dX7_strike_221 (lv_at hl 5 rfl) ?_
                      refine lv_istore (lv' := [(7, .int (nI (tsF w (ctWks w (w 2 + m) (w 4)) k ((ctWks w (w 2 + m) (w 4)) + 1)))), (0, .ref m0), (1, .int (nI m)), (2, .int (nI k)), (3, .int (nI u)), (4, .int (nI (ctWks w (w 2 + m) (w 4)))), (5, .int (nI (tsF w (ctWks w (w 2 + m) (w 4)) k ((ctWks w (w 2 + m) (w 4)) + 1)))), (6, .int (nI (10 ^ bc (ctWks w (w 2 + m) (w 4)))))]) hx hb dX7_strike_223 hl (by decide) rfl (fun ls hl => ?_)
                      refine lv_iload hx hb dX7_strike_225 (lv_at hl 7 rfl) ?_
                      refine lv_istore (lv' := [(8, .int (nI (10 ^ bc (ctWks w (w 2 + m) (w 4))))), (7, .int (nI (tsF w (ctWks w (w 2 + m) (w 4)) k ((ctWks w (w 2 + m) (w 4)) + 1)))), (0, .ref m0), (1, .int (nI m)), (2, .int (nI k)), (3, .int (nI u)), (4, .int (nI (ctWks w (w 2 + m) (w 4)))), (5, .int (nI (tsF w (ctWks w (w 2 + m) (w 4)) k ((ctWks w (w 2 + m) (w 4)) + 1)))), (6, .int (nI (10 ^ bc (ctWks w (w 2 + m) (w 4)))))]) hx hb dX7_strike_227 hl (by decide) rfl (fun ls hl => ?_)
                      have L229_88 : ∀ (fu i1 : Nat), i1 ≤ 100 → 100 < i1 + fu → ∀ (x : Nat), ∀ (y : Nat), gdI x y i1 → Nat.gcd x y = Nat.gcd (tsF w (ctWks w (w 2 + m) (w 4)) k ((ctWks w (w 2 + m) (w 4)) + 1)) (10 ^ bc (ctWks w (w 2 + m) (w 4))) → ∀ ls : Array Slot, lv_has ls 10 [(0, .ref m0), (1, .int (nI m)), (2, .int (nI k)), (3, .int (nI u)), (5, .int (nI (tsF w (ctWks w (w 2 + m) (w 4)) k ((ctWks w (w 2 + m) (w 4)) + 1)))), (6, .int (nI (10 ^ bc (ctWks w (w 2 + m) (w 4))))), (7, .int (nI x)), (8, .int (nI y))] → W pg l en (q_rm 5) s mi args below meth cd s.heap [] 0 0 (MQ below (vp_Si (fun r => r = oStrike w (nI m) (nI k) (nI u))) args s 0 0 (fun _ => False)) (F0 mi 229 ls []) := by
                        intro fu
                        induction fu with
                        | zero =>
                          intro i1 h1 h2
                          exact absurd h2 (by omega)
                        | succ fu ih229 =>
                          intro i1 h1_229 h2_229 x y hf229_0 hf229_1 ls hl
                          have hxl := hf229_0.1; have hyl := hf229_0.2.1
                          refine lv_iload hx hb dX7_strike_229 (lv_at hl 7 rfl) ?_
                          refine q_if_eq (tgt := 252) hx hb dX7_strike_231 (by decide) (by omega) (fun c12 => ?_) (fun c12 => ?_)
                          · have hgx := gd_0 hf229_1 (by omega : y = 0)
                            have hgp : 0 < Nat.gcd (tsF w (ctWks w (w 2 + m) (w 4)) k ((ctWks w (w 2 + m) (w 4)) + 1)) (10 ^ bc (ctWks w (w 2 + m) (w 4))) := Nat.gcd_pos_of_pos_right _ hp10.1
                            have hl : lv_has ls 10 [(0, .ref m0), (1, .int (nI m)), (2, .int (nI k)), (3, .int (nI u)), (5, .int (nI (tsF w (ctWks w (w 2 + m) (w 4)) k ((ctWks w (w 2 + m) (w 4)) + 1)))), (6, .int (nI (10 ^ bc (ctWks w (w 2 + m) (w 4))))), (7, .int (nI (max 1 (Nat.gcd (tsF w (ctWks w (w 2 + m) (w 4)) k ((ctWks w (w 2 + m) (w 4)) + 1)) (10 ^ bc (ctWks w (w 2 + m) (w 4))))))), (8, .int (nI y))] := q_lset hl (q_c1 (f := fun z9 => ([(0, .ref m0), (1, .int (nI m)), (2, .int (nI k)), (3, .int (nI u)), (5, .int (nI (tsF w (ctWks w (w 2 + m) (w 4)) k ((ctWks w (w 2 + m) (w 4)) + 1)))), (6, .int (nI (10 ^ bc (ctWks w (w 2 + m) (w 4))))), (7, .int (z9)), (8, .int (nI y))] : List (Nat × Value))) (congrArg nI (hgx.trans (mx1 hgp))))
                            have hmx := q_mx (Nat.gcd (tsF w (ctWks w (w 2 + m) (w 4)) k ((ctWks w (w 2 + m) (w 4)) + 1)) (10 ^ bc (ctWks w (w 2 + m) (w 4))))
                            have hgr := Nat.gcd_le_right (n := 10 ^ bc (ctWks w (w 2 + m) (w 4))) (tsF w (ctWks w (w 2 + m) (w 4)) k ((ctWks w (w 2 + m) (w 4)) + 1)) hp10.1
                            refine lv_iload_n hx hb dX7_strike_252 rfl (lv_at hl 3 rfl) ?_
                            refine q_if_ne (tgt := 261) hx hb dX7_strike_253 (by decide) (by omega) (fun c13 => ?_) (fun c13 => ?_)
                            · refine lv_iload hx hb dX7_strike_261 (lv_at hl 5 rfl) ?_
                              refine lv_iload hx hb dX7_strike_263 (lv_at hl 6 rfl) ?_
                              refine lv_idiv hx hb dX7_strike_265 (q_ne0 (by omega) (by omega)) ?_
                              refine q_top (y := nI ((10 ^ bc (ctWks w (w 2 + m) (w 4))) / (max 1 (Nat.gcd (tsF w (ctWks w (w 2 + m) (w 4)) k ((ctWks w (w 2 + m) (w 4)) + 1)) (10 ^ bc (ctWks w (w 2 + m) (w 4))))))) (pk_div (a := (10 ^ bc (ctWks w (w 2 + m) (w 4)))) (d := (max 1 (Nat.gcd (tsF w (ctWks w (w 2 + m) (w 4)) k ((ctWks w (w 2 + m) (w 4)) + 1)) (10 ^ bc (ctWks w (w 2 + m) (w 4)))))) (by omega) (by omega) (by omega)) ?_
                              exact q_iret (v := nI ((10 ^ bc (ctWks w (w 2 + m) (w 4))) / (max 1 (Nat.gcd (tsF w (ctWks w (w 2 + m) (w 4)) k ((ctWks w (w 2 + m) (w 4)) + 1)) (10 ^ bc (ctWks w (w 2 + m) (w 4))))))) hx hb hr hlocks dX7_strike_266 ((by simp only [oStrike, q_cl (by omega : m < 2147483648), q_cl (by omega : k < 2147483648), q_cl (by omega : u < 2147483648), if_pos b2, if_pos b4, if_pos b6, if_pos b8, if_neg (by omega : ¬ u = 0)]))
                            · refine lv_iload hx hb dX7_strike_256 (lv_at hl 4 rfl) ?_
                              refine lv_goto (tgt := 263) hx hb dX7_strike_258 (by decide) ?_
                              refine lv_iload hx hb dX7_strike_263 (lv_at hl 6 rfl) ?_
                              refine lv_idiv hx hb dX7_strike_265 (q_ne0 (by omega) (by omega)) ?_
                              refine q_top (y := nI ((tsF w (ctWks w (w 2 + m) (w 4)) k ((ctWks w (w 2 + m) (w 4)) + 1)) / (max 1 (Nat.gcd (tsF w (ctWks w (w 2 + m) (w 4)) k ((ctWks w (w 2 + m) (w 4)) + 1)) (10 ^ bc (ctWks w (w 2 + m) (w 4))))))) (pk_div (a := (tsF w (ctWks w (w 2 + m) (w 4)) k ((ctWks w (w 2 + m) (w 4)) + 1))) (d := (max 1 (Nat.gcd (tsF w (ctWks w (w 2 + m) (w 4)) k ((ctWks w (w 2 + m) (w 4)) + 1)) (10 ^ bc (ctWks w (w 2 + m) (w 4)))))) (by omega) (by omega) (by omega)) ?_
                              exact q_iret (v := nI ((tsF w (ctWks w (w 2 + m) (w 4)) k ((ctWks w (w 2 + m) (w 4)) + 1)) / (max 1 (Nat.gcd (tsF w (ctWks w (w 2 + m) (w 4)) k ((ctWks w (w 2 + m) (w 4)) + 1)) (10 ^ bc (ctWks w (w 2 + m) (w 4))))))) hx hb hr hlocks dX7_strike_266 ((by simp only [oStrike, q_cl (by omega : m < 2147483648), q_cl (by omega : k < 2147483648), q_cl (by omega : u < 2147483648), if_pos b2, if_pos b4, if_pos b6, if_pos b8, if_pos (by omega : u = 0)]))
                          · have hi100 : i1 < 100 := Nat.lt_of_not_le (fun q => by have := gdI_100 hf229_0 q; omega)
                            refine lv_iload hx hb dX7_strike_234 (lv_at hl 6 rfl) ?_
                            refine lv_iload hx hb dX7_strike_236 (lv_at hl 7 rfl) ?_
                            refine lv_irem hx hb dX7_strike_238 (q_ne0 (by omega) (by omega)) ?_
                            refine q_top (y := nI (x % y)) (pk_rem (a := x) (d := y) (by omega) (by omega) (by omega)) ?_
                            refine lv_istore (lv' := [(9, .int (nI (x % y))), (0, .ref m0), (1, .int (nI m)), (2, .int (nI k)), (3, .int (nI u)), (5, .int (nI (tsF w (ctWks w (w 2 + m) (w 4)) k ((ctWks w (w 2 + m) (w 4)) + 1)))), (6, .int (nI (10 ^ bc (ctWks w (w 2 + m) (w 4))))), (7, .int (nI x)), (8, .int (nI y))]) hx hb dX7_strike_239 hl (by decide) rfl (fun ls hl => ?_)
                            refine lv_iload hx hb dX7_strike_241 (lv_at hl 8 rfl) ?_
                            refine lv_istore (lv' := [(7, .int (nI y)), (9, .int (nI (x % y))), (0, .ref m0), (1, .int (nI m)), (2, .int (nI k)), (3, .int (nI u)), (5, .int (nI (tsF w (ctWks w (w 2 + m) (w 4)) k ((ctWks w (w 2 + m) (w 4)) + 1)))), (6, .int (nI (10 ^ bc (ctWks w (w 2 + m) (w 4))))), (8, .int (nI y))]) hx hb dX7_strike_243 hl (by decide) rfl (fun ls hl => ?_)
                            refine lv_iload hx hb dX7_strike_245 (lv_at hl 1 rfl) ?_
                            refine lv_istore (lv' := [(8, .int (nI (x % y))), (7, .int (nI y)), (9, .int (nI (x % y))), (0, .ref m0), (1, .int (nI m)), (2, .int (nI k)), (3, .int (nI u)), (5, .int (nI (tsF w (ctWks w (w 2 + m) (w 4)) k ((ctWks w (w 2 + m) (w 4)) + 1)))), (6, .int (nI (10 ^ bc (ctWks w (w 2 + m) (w 4)))))]) hx hb dX7_strike_247 hl (by decide) rfl (fun ls hl => ?_)
                            refine lv_goto (tgt := 229) hx hb dX7_strike_249 (by decide) ?_
                            exact ih229 (i1 + 1) (by omega) (by omega) y (x % y) (gdI_s hf229_0 (by omega)) (gd_s hf229_1) ls (lv_sub (l' := [(0, .ref m0), (1, .int (nI m)), (2, .int (nI k)), (3, .int (nI u)), (5, .int (nI (tsF w (ctWks w (w 2 + m) (w 4)) k ((ctWks w (w 2 + m) (w 4)) + 1)))), (6, .int (nI (10 ^ bc (ctWks w (w 2 + m) (w 4))))), (7, .int (nI y)), (8, .int (nI (x % y)))]) hl [3, 4, 5, 6, 7, 8, 1, 0] rfl)
                      exact L229_88 (100 + 1) 0 (by omega) (by omega) (tsF w (ctWks w (w 2 + m) (w 4)) k ((ctWks w (w 2 + m) (w 4)) + 1)) (10 ^ bc (ctWks w (w 2 + m) (w 4))) (⟨by omega, by omega, Or.inl rfl⟩) rfl ls (lv_sub (l' := [(0, .ref m0), (1, .int (nI m)), (2, .int (nI k)), (3, .int (nI u)), (5, .int (nI (tsF w (ctWks w (w 2 + m) (w 4)) k ((ctWks w (w 2 + m) (w 4)) + 1)))), (6, .int (nI (10 ^ bc (ctWks w (w 2 + m) (w 4))))), (7, .int (nI (tsF w (ctWks w (w 2 + m) (w 4)) k ((ctWks w (w 2 + m) (w 4)) + 1)))), (8, .int (nI (10 ^ bc (ctWks w (w 2 + m) (w 4)))))]) hl [2, 3, 4, 5, 7, 8, 1, 0] rfl)
                    · refine lv_iload hx hb dX7_strike_113 (lv_at hl 7 rfl) ?_
                      refine lv_iload hx hb dX7_strike_115 (lv_at hl 4 rfl) ?_
                      refine lv_iconst (v := (-1)) hx hb dX7_strike_117 (by decide) ?_
                      refine lv_ixor hx hb dX7_strike_118 ?_
                      refine lv_iand hx hb dX7_strike_119 ?_
                      refine q_top (y := nI (g1 &&& (63 ^^^ (ctWks w (w 2 + m) (w 4))))) (nand6 (by omega) hwl) ?_
                      have hkw : g1 &&& (63 ^^^ (ctWks w (w 2 + m) (w 4))) < 64 := Nat.lt_of_le_of_lt Nat.and_le_left (by omega)
                      refine q_if_ne (tgt := 148) hx hb dX7_strike_120 (by decide) (by omega) (fun c14 => ?_) (fun c14 => ?_)
                      · refine lv_iconst (v := nI 0) hx hb dX7_strike_148 (by decide) ?_
                        refine lv_istore (lv' := [(8, .int (nI 0)), (0, .ref m0), (1, .int (nI m)), (2, .int (nI k)), (3, .int (nI u)), (4, .int (nI (ctWks w (w 2 + m) (w 4)))), (5, .int (nI (gsF w (ctWks w (w 2 + m) (w 4)) k g1))), (6, .int (nI (blN (ctWks w (w 2 + m) (w 4)) k1))), (7, .int (nI g1))]) hx hb dX7_strike_149 hl (by decide) rfl (fun ls hl => ?_)
                        refine lv_iconst (v := nI 0) hx hb dX7_strike_151 (by decide) ?_
                        refine lv_istore (lv' := [(9, .int (nI 0)), (8, .int (nI 0)), (0, .ref m0), (1, .int (nI m)), (2, .int (nI k)), (3, .int (nI u)), (4, .int (nI (ctWks w (w 2 + m) (w 4)))), (5, .int (nI (gsF w (ctWks w (w 2 + m) (w 4)) k g1))), (6, .int (nI (blN (ctWks w (w 2 + m) (w 4)) k1))), (7, .int (nI g1))]) hx hb dX7_strike_152 hl (by decide) rfl (fun ls hl => ?_)
                        have L154_142 : ∀ (fu k3 : Nat), k3 ≤ w 4 → w 4 < k3 + fu → ∀ ls : Array Slot, lv_has ls 10 [(0, .ref m0), (1, .int (nI m)), (2, .int (nI k)), (3, .int (nI u)), (4, .int (nI (ctWks w (w 2 + m) (w 4)))), (5, .int (nI (gsF w (ctWks w (w 2 + m) (w 4)) k g1))), (6, .int (nI (blN (ctWks w (w 2 + m) (w 4)) k1))), (7, .int (nI g1)), (8, .int (nI (wyN (ctWks w (w 2 + m) (w 4)) g1 k 0 k3))), (9, .int (nI k3))] → W pg l en (q_rm 5) s mi args below meth cd s.heap [] 0 0 (MQ below (vp_Si (fun r => r = oStrike w (nI m) (nI k) (nI u))) args s 0 0 (fun _ => False)) (F0 mi 154 ls []) := by
                          intro fu
                          induction fu with
                          | zero =>
                            intro k3 h1 h2
                            exact absurd h2 (by omega)
                          | succ fu ih154 =>
                            intro k3 h1_154 h2_154 ls hl
                            refine lv_iload hx hb dX7_strike_154 (lv_at hl 9 rfl) ?_
                            refine lv_aload_n hx hb dX7_strike_156 rfl (lv_at hl 0 rfl) ?_
                            refine va_get (D := D) (ci := 7) (v := .ref nw) (C := RX7) (T := TX7) (N := 23) hx hb hts nX7_strike_0 hown hK.1 hP 0 rfl rfl 13 (by decide) (hts _ mX7_strike_1) (fun _ h9 => h9) rfl dX7_strike_157 ?_
                            refine lv_iconst (v := nI 4) hx hb dX7_strike_160 (by decide) ?_
                            refine q_iald (j := 4) (v := nI (w 4)) hx hb hK hP 1 rfl (by omega) (by decide) (hm _ (by omega)) dX7_strike_161 ?_
                            refine q_icmp_ge (tgt := 208) hx hb dX7_strike_162 (by decide) (by omega) (by omega) (fun c15 => ?_) (fun c15 => ?_)
                            · refine lv_iload hx hb dX7_strike_208 (lv_at hl 5 rfl) ?_
                              refine lv_iload hx hb dX7_strike_210 (lv_at hl 8 rfl) ?_
                              refine q_top (y := nI (wyN (ctWks w (w 2 + m) (w 4)) g1 k 0 (w 4))) (by rw [show k3 = w 4 by omega]) ?_
                              refine lv_iadd hx hb dX7_strike_212 ?_
                              refine q_top (y := nI ((gsF w (ctWks w (w 2 + m) (w 4)) k g1) + (wyN (ctWks w (w 2 + m) (w 4)) g1 k 0 (w 4)))) (nI_add _ _) ?_
                              refine lv_istore (lv' := [(5, .int (nI ((gsF w (ctWks w (w 2 + m) (w 4)) k g1) + (wyN (ctWks w (w 2 + m) (w 4)) g1 k 0 (w 4))))), (0, .ref m0), (1, .int (nI m)), (2, .int (nI k)), (3, .int (nI u)), (4, .int (nI (ctWks w (w 2 + m) (w 4)))), (6, .int (nI (blN (ctWks w (w 2 + m) (w 4)) k1))), (7, .int (nI g1)), (8, .int (nI (wyN (ctWks w (w 2 + m) (w 4)) g1 k 0 k3))), (9, .int (nI k3))]) hx hb dX7_strike_213 hl (by decide) rfl (fun ls hl => ?_)
                              refine lv_iinc (v := nI (g1 + 1)) (lv' := [(7, .int (nI (g1 + 1))), (5, .int (nI ((gsF w (ctWks w (w 2 + m) (w 4)) k g1) + (wyN (ctWks w (w 2 + m) (w 4)) g1 k 0 (w 4))))), (0, .ref m0), (1, .int (nI m)), (2, .int (nI k)), (3, .int (nI u)), (4, .int (nI (ctWks w (w 2 + m) (w 4)))), (6, .int (nI (blN (ctWks w (w 2 + m) (w 4)) k1))), (8, .int (nI (wyN (ctWks w (w 2 + m) (w 4)) g1 k 0 k3))), (9, .int (nI k3))]) hx hb dX7_strike_215 hl (k := 7) rfl (q_inc g1 1) (by decide) rfl (fun ls hl => ?_)
                              refine lv_goto (tgt := 106) hx hb dX7_strike_218 (by decide) ?_
                              exact ih106 (g1 + 1) (by omega) (by omega) ls (q_lset (lv_sub (l' := [(0, .ref m0), (1, .int (nI m)), (2, .int (nI k)), (3, .int (nI u)), (4, .int (nI (ctWks w (w 2 + m) (w 4)))), (5, .int (nI ((gsF w (ctWks w (w 2 + m) (w 4)) k g1) + (wyN (ctWks w (w 2 + m) (w 4)) g1 k 0 (w 4))))), (6, .int (nI (blN (ctWks w (w 2 + m) (w 4)) k1))), (7, .int (nI (g1 + 1)))]) hl [2, 3, 4, 5, 6, 1, 7, 0] rfl) (q_c1 (f := fun z5 => ([(0, .ref m0), (1, .int (nI m)), (2, .int (nI k)), (3, .int (nI u)), (4, .int (nI (ctWks w (w 2 + m) (w 4)))), (5, .int (z5)), (6, .int (nI (blN (ctWks w (w 2 + m) (w 4)) k1))), (7, .int (nI (g1 + 1)))] : List (Nat × Value))) (show (nI ((gsF w (ctWks w (w 2 + m) (w 4)) k g1) + (wyN (ctWks w (w 2 + m) (w 4)) g1 k 0 (w 4))) : Int32) = nI (gsF w (ctWks w (w 2 + m) (w 4)) k (g1 + 1)) from (congrArg nI (gsF_n1 c14)).symm)))
                            · refine lv_iload hx hb dX7_strike_165 (lv_at hl 8 rfl) ?_
                              refine lv_iload hx hb dX7_strike_167 (lv_at hl 4 rfl) ?_
                              refine lv_iload hx hb dX7_strike_169 (lv_at hl 9 rfl) ?_
                              refine q_rS (As := [.int (nI (ctWks w (w 2 + m) (w 4))), .int (nI k3)]) (rest := [.int (nI (wyN (ctWks w (w 2 + m) (w 4)) g1 k 0 k3))]) ⟨hx, hb, hml, hown, hts⟩ (c_X7_has l D cy (ctWks w (w 2 + m) (w 4)) k3 (by omega) (by omega)) (va_cwS 2 hts gX7_strike_X7_has rfl rfl rfl (by decide +kernel) ⟨Nat.le_of_ble_eq_true rfl, Nat.le_of_ble_eq_true rfl⟩) hP hK [] rfl rfl hl.1 rfl (Nat.le_of_ble_eq_true rfl) dX7_strike_171 ⟨Nat.zero_le _, Nat.zero_le _⟩ (fun r16 hr16 => ?_)
                              rcases hr16 with ⟨rfl, b17⟩ | ⟨rfl, b17⟩
                              · have _ := b17
                                refine lv_if_ne (tgt := 181) hx hb dX7_strike_174 (by decide) (fun _ => ?_) (fun c9 => absurd c9 (by decide))
                                refine lv_iload hx hb dX7_strike_181 (lv_at hl 7 rfl) ?_
                                refine lv_iload hx hb dX7_strike_183 (lv_at hl 9 rfl) ?_
                                refine q_rS (As := [.int (nI g1), .int (nI k3)]) (rest := [.int (nI (wyN (ctWks w (w 2 + m) (w 4)) g1 k 0 k3))]) ⟨hx, hb, hml, hown, hts⟩ (c_X7_has l D cy g1 k3 (by omega) (by omega)) (va_cwS 2 hts gX7_strike_X7_has rfl rfl rfl (by decide +kernel) ⟨Nat.le_of_ble_eq_true rfl, Nat.le_of_ble_eq_true rfl⟩) hP hK [] rfl rfl hl.1 rfl (Nat.le_of_ble_eq_true rfl) dX7_strike_185 ⟨Nat.zero_le _, Nat.zero_le _⟩ (fun r18 hr18 => ?_)
                                rcases hr18 with ⟨rfl, b19⟩ | ⟨rfl, b19⟩
                                · have _ := b19
                                  refine lv_if_eq (tgt := 195) hx hb dX7_strike_188 (by decide) (fun c9 => absurd c9 (by decide)) (fun _ => ?_)
                                  refine lv_iload_n hx hb dX7_strike_191 rfl (lv_at hl 2 rfl) ?_
                                  refine lv_goto (tgt := 199) hx hb dX7_strike_192 (by decide) ?_
                                  refine lv_imul hx hb dX7_strike_199 ?_
                                  refine q_top (y := nI ((wyN (ctWks w (w 2 + m) (w 4)) g1 k 0 k3) * k)) (pk_mul _ _) ?_
                                  refine lv_istore (lv' := [(8, .int (nI ((wyN (ctWks w (w 2 + m) (w 4)) g1 k 0 k3) * k))), (0, .ref m0), (1, .int (nI m)), (2, .int (nI k)), (3, .int (nI u)), (4, .int (nI (ctWks w (w 2 + m) (w 4)))), (5, .int (nI (gsF w (ctWks w (w 2 + m) (w 4)) k g1))), (6, .int (nI (blN (ctWks w (w 2 + m) (w 4)) k1))), (7, .int (nI g1)), (9, .int (nI k3))]) hx hb dX7_strike_200 hl (by decide) rfl (fun ls hl => ?_)
                                  refine lv_iinc (v := nI (k3 + 1)) (lv' := [(9, .int (nI (k3 + 1))), (8, .int (nI ((wyN (ctWks w (w 2 + m) (w 4)) g1 k 0 k3) * k))), (0, .ref m0), (1, .int (nI m)), (2, .int (nI k)), (3, .int (nI u)), (4, .int (nI (ctWks w (w 2 + m) (w 4)))), (5, .int (nI (gsF w (ctWks w (w 2 + m) (w 4)) k g1))), (6, .int (nI (blN (ctWks w (w 2 + m) (w 4)) k1))), (7, .int (nI g1))]) hx hb dX7_strike_202 hl (k := 9) rfl (q_inc k3 1) (by decide) rfl (fun ls hl => ?_)
                                  refine lv_goto (tgt := 154) hx hb dX7_strike_205 (by decide) ?_
                                  exact ih154 (k3 + 1) (by omega) (by omega) ls (q_lset (lv_sub (l' := [(0, .ref m0), (1, .int (nI m)), (2, .int (nI k)), (3, .int (nI u)), (4, .int (nI (ctWks w (w 2 + m) (w 4)))), (5, .int (nI (gsF w (ctWks w (w 2 + m) (w 4)) k g1))), (6, .int (nI (blN (ctWks w (w 2 + m) (w 4)) k1))), (7, .int (nI g1)), (8, .int (nI ((wyN (ctWks w (w 2 + m) (w 4)) g1 k 0 k3) * k))), (9, .int (nI (k3 + 1)))]) hl [2, 3, 4, 5, 6, 7, 8, 9, 1, 0] rfl) (q_c1 (f := fun z8 => ([(0, .ref m0), (1, .int (nI m)), (2, .int (nI k)), (3, .int (nI u)), (4, .int (nI (ctWks w (w 2 + m) (w 4)))), (5, .int (nI (gsF w (ctWks w (w 2 + m) (w 4)) k g1))), (6, .int (nI (blN (ctWks w (w 2 + m) (w 4)) k1))), (7, .int (nI g1)), (8, .int (z8)), (9, .int (nI (k3 + 1)))] : List (Nat × Value))) (show (nI ((wyN (ctWks w (w 2 + m) (w 4)) g1 k 0 k3) * k) : Int32) = nI (wyN (ctWks w (w 2 + m) (w 4)) g1 k 0 (k3 + 1)) from (congrArg nI (wyN_c b17 b19)).symm)))
                                · have _ := b19
                                  refine lv_if_eq (tgt := 195) hx hb dX7_strike_188 (by decide) (fun _ => ?_) (fun c9 => absurd (by decide) c9)
                                  refine lv_bipush (v := nI 10) hx hb dX7_strike_195 (by decide) ?_
                                  refine lv_iload_n hx hb dX7_strike_197 rfl (lv_at hl 2 rfl) ?_
                                  refine lv_isub hx hb dX7_strike_198 ?_
                                  refine q_top (y := nI (10 - k)) (pk_sub (by omega)) ?_
                                  refine lv_imul hx hb dX7_strike_199 ?_
                                  refine q_top (y := nI ((wyN (ctWks w (w 2 + m) (w 4)) g1 k 0 k3) * (10 - k))) (pk_mul _ _) ?_
                                  refine lv_istore (lv' := [(8, .int (nI ((wyN (ctWks w (w 2 + m) (w 4)) g1 k 0 k3) * (10 - k)))), (0, .ref m0), (1, .int (nI m)), (2, .int (nI k)), (3, .int (nI u)), (4, .int (nI (ctWks w (w 2 + m) (w 4)))), (5, .int (nI (gsF w (ctWks w (w 2 + m) (w 4)) k g1))), (6, .int (nI (blN (ctWks w (w 2 + m) (w 4)) k1))), (7, .int (nI g1)), (9, .int (nI k3))]) hx hb dX7_strike_200 hl (by decide) rfl (fun ls hl => ?_)
                                  refine lv_iinc (v := nI (k3 + 1)) (lv' := [(9, .int (nI (k3 + 1))), (8, .int (nI ((wyN (ctWks w (w 2 + m) (w 4)) g1 k 0 k3) * (10 - k)))), (0, .ref m0), (1, .int (nI m)), (2, .int (nI k)), (3, .int (nI u)), (4, .int (nI (ctWks w (w 2 + m) (w 4)))), (5, .int (nI (gsF w (ctWks w (w 2 + m) (w 4)) k g1))), (6, .int (nI (blN (ctWks w (w 2 + m) (w 4)) k1))), (7, .int (nI g1))]) hx hb dX7_strike_202 hl (k := 9) rfl (q_inc k3 1) (by decide) rfl (fun ls hl => ?_)
                                  refine lv_goto (tgt := 154) hx hb dX7_strike_205 (by decide) ?_
                                  exact ih154 (k3 + 1) (by omega) (by omega) ls (q_lset (lv_sub (l' := [(0, .ref m0), (1, .int (nI m)), (2, .int (nI k)), (3, .int (nI u)), (4, .int (nI (ctWks w (w 2 + m) (w 4)))), (5, .int (nI (gsF w (ctWks w (w 2 + m) (w 4)) k g1))), (6, .int (nI (blN (ctWks w (w 2 + m) (w 4)) k1))), (7, .int (nI g1)), (8, .int (nI ((wyN (ctWks w (w 2 + m) (w 4)) g1 k 0 k3) * (10 - k)))), (9, .int (nI (k3 + 1)))]) hl [2, 3, 4, 5, 6, 7, 8, 9, 1, 0] rfl) (q_c1 (f := fun z8 => ([(0, .ref m0), (1, .int (nI m)), (2, .int (nI k)), (3, .int (nI u)), (4, .int (nI (ctWks w (w 2 + m) (w 4)))), (5, .int (nI (gsF w (ctWks w (w 2 + m) (w 4)) k g1))), (6, .int (nI (blN (ctWks w (w 2 + m) (w 4)) k1))), (7, .int (nI g1)), (8, .int (z8)), (9, .int (nI (k3 + 1)))] : List (Nat × Value))) (show (nI ((wyN (ctWks w (w 2 + m) (w 4)) g1 k 0 k3) * (10 - k)) : Int32) = nI (wyN (ctWks w (w 2 + m) (w 4)) g1 k 0 (k3 + 1)) from (congrArg nI (wyN_d b17 b19)).symm)))
                              · have _ := b17
                                refine lv_if_ne (tgt := 181) hx hb dX7_strike_174 (by decide) (fun c9 => absurd (by decide) c9) (fun _ => ?_)
                                refine lv_iconst (v := nI 1) hx hb dX7_strike_177 (by decide) ?_
                                refine lv_goto (tgt := 199) hx hb dX7_strike_178 (by decide) ?_
                                refine lv_imul hx hb dX7_strike_199 ?_
                                refine q_top (y := nI ((wyN (ctWks w (w 2 + m) (w 4)) g1 k 0 k3) * 1)) (pk_mul _ _) ?_
                                refine lv_istore (lv' := [(8, .int (nI ((wyN (ctWks w (w 2 + m) (w 4)) g1 k 0 k3) * 1))), (0, .ref m0), (1, .int (nI m)), (2, .int (nI k)), (3, .int (nI u)), (4, .int (nI (ctWks w (w 2 + m) (w 4)))), (5, .int (nI (gsF w (ctWks w (w 2 + m) (w 4)) k g1))), (6, .int (nI (blN (ctWks w (w 2 + m) (w 4)) k1))), (7, .int (nI g1)), (9, .int (nI k3))]) hx hb dX7_strike_200 hl (by decide) rfl (fun ls hl => ?_)
                                refine lv_iinc (v := nI (k3 + 1)) (lv' := [(9, .int (nI (k3 + 1))), (8, .int (nI ((wyN (ctWks w (w 2 + m) (w 4)) g1 k 0 k3) * 1))), (0, .ref m0), (1, .int (nI m)), (2, .int (nI k)), (3, .int (nI u)), (4, .int (nI (ctWks w (w 2 + m) (w 4)))), (5, .int (nI (gsF w (ctWks w (w 2 + m) (w 4)) k g1))), (6, .int (nI (blN (ctWks w (w 2 + m) (w 4)) k1))), (7, .int (nI g1))]) hx hb dX7_strike_202 hl (k := 9) rfl (q_inc k3 1) (by decide) rfl (fun ls hl => ?_)
                                refine lv_goto (tgt := 154) hx hb dX7_strike_205 (by decide) ?_
                                exact ih154 (k3 + 1) (by omega) (by omega) ls (q_lset (lv_sub (l' := [(0, .ref m0), (1, .int (nI m)), (2, .int (nI k)), (3, .int (nI u)), (4, .int (nI (ctWks w (w 2 + m) (w 4)))), (5, .int (nI (gsF w (ctWks w (w 2 + m) (w 4)) k g1))), (6, .int (nI (blN (ctWks w (w 2 + m) (w 4)) k1))), (7, .int (nI g1)), (8, .int (nI ((wyN (ctWks w (w 2 + m) (w 4)) g1 k 0 k3) * 1))), (9, .int (nI (k3 + 1)))]) hl [2, 3, 4, 5, 6, 7, 8, 9, 1, 0] rfl) (q_c1 (f := fun z8 => ([(0, .ref m0), (1, .int (nI m)), (2, .int (nI k)), (3, .int (nI u)), (4, .int (nI (ctWks w (w 2 + m) (w 4)))), (5, .int (nI (gsF w (ctWks w (w 2 + m) (w 4)) k g1))), (6, .int (nI (blN (ctWks w (w 2 + m) (w 4)) k1))), (7, .int (nI g1)), (8, .int (z8)), (9, .int (nI (k3 + 1)))] : List (Nat × Value))) (show (nI ((wyN (ctWks w (w 2 + m) (w 4)) g1 k 0 k3) * 1) : Int32) = nI (wyN (ctWks w (w 2 + m) (w 4)) g1 k 0 (k3 + 1)) from (congrArg nI (wyN_1 b17)).symm)))
                        exact L154_142 ((w 4) + 1) 0 (by omega) (by omega) ls (q_lset (lv_sub (l' := [(0, .ref m0), (1, .int (nI m)), (2, .int (nI k)), (3, .int (nI u)), (4, .int (nI (ctWks w (w 2 + m) (w 4)))), (5, .int (nI (gsF w (ctWks w (w 2 + m) (w 4)) k g1))), (6, .int (nI (blN (ctWks w (w 2 + m) (w 4)) k1))), (7, .int (nI g1)), (8, .int (nI 0)), (9, .int (nI 0))]) hl [2, 3, 4, 5, 6, 7, 8, 9, 1, 0] rfl) (q_c1 (f := fun z8 => ([(0, .ref m0), (1, .int (nI m)), (2, .int (nI k)), (3, .int (nI u)), (4, .int (nI (ctWks w (w 2 + m) (w 4)))), (5, .int (nI (gsF w (ctWks w (w 2 + m) (w 4)) k g1))), (6, .int (nI (blN (ctWks w (w 2 + m) (w 4)) k1))), (7, .int (nI g1)), (8, .int (z8)), (9, .int (nI 0))] : List (Nat × Value))) (show (nI 0 : Int32) = nI (wyN (ctWks w (w 2 + m) (w 4)) g1 k 0 0) from rfl)))
                      · refine lv_aload_n hx hb dX7_strike_123 rfl (lv_at hl 0 rfl) ?_
                        refine va_get (D := D) (ci := 7) (v := .ref nw) (C := RX7) (T := TX7) (N := 23) hx hb hts nX7_strike_0 hown hK.1 hP 0 rfl rfl 13 (by decide) (hts _ mX7_strike_1) (fun _ h9 => h9) rfl dX7_strike_124 ?_
                        refine lv_iload hx hb dX7_strike_127 (lv_at hl 4 rfl) ?_
                        refine lv_iload hx hb dX7_strike_129 (lv_at hl 7 rfl) ?_
                        refine lv_iconst (v := (-1)) hx hb dX7_strike_131 (by decide) ?_
                        refine lv_ixor hx hb dX7_strike_132 ?_
                        refine lv_iand hx hb dX7_strike_133 ?_
                        refine q_top (y := nI ((ctWks w (w 2 + m) (w 4)) &&& (63 ^^^ g1))) (nand6 hwl (by omega)) ?_
                        have hkw2 : (ctWks w (w 2 + m) (w 4)) &&& (63 ^^^ g1) < 64 := Nat.lt_of_le_of_lt Nat.and_le_left (by omega)
                        refine q_rS (As := [.ref nw, .int (nI ((ctWks w (w 2 + m) (w 4)) &&& (63 ^^^ g1)))]) (rest := []) ⟨hx, hb, hml, hown, hts⟩ (c_X7_leftBy l D cy nw f w hm hv ((ctWks w (w 2 + m) (w 4)) &&& (63 ^^^ g1)) (by omega)) (va_cwS 2 hts gX7_strike_X7_leftBy rfl rfl rfl (by decide +kernel) ⟨Nat.le_of_ble_eq_true rfl, Nat.le_of_ble_eq_true rfl⟩) hP hK [1] rfl rfl hl.1 rfl (Nat.le_of_ble_eq_true rfl) dX7_strike_134 ⟨Nat.zero_le _, Nat.zero_le _⟩ (fun r20 hr20 => ?_)
                        obtain rfl := hr20
                        have hlb := ctLb_lt hv0 ((ctWks w (w 2 + m) (w 4)) &&& (63 ^^^ g1)) (w 4)
                        refine q_rS (As := [.int (nI (ctLb w ((ctWks w (w 2 + m) (w 4)) &&& (63 ^^^ g1)) (w 4)))]) (rest := []) ⟨hx, hb, hml, hown, hts⟩ (c_X7_ones l D cy (ctLb w ((ctWks w (w 2 + m) (w 4)) &&& (63 ^^^ g1)) (w 4)) (by omega)) (va_cwS 1 hts gX7_strike_X7_ones rfl rfl rfl (by decide +kernel) ⟨Nat.le_of_ble_eq_true rfl, Nat.le_of_ble_eq_true rfl⟩) hP hK [] rfl rfl hl.1 rfl (Nat.le_of_ble_eq_true rfl) dX7_strike_137 ⟨Nat.zero_le _, Nat.zero_le _⟩ (fun r21 hr21 => ?_)
                        obtain rfl := hr21
                        have hbl := bc_lt (ctLb w ((ctWks w (w 2 + m) (w 4)) &&& (63 ^^^ g1)) (w 4)) (by omega)
                        refine lv_iconst (v := nI 1) hx hb dX7_strike_140 (by decide) ?_
                        refine q_icmp_ne (tgt := 148) hx hb dX7_strike_141 (by decide) (by omega) (by decide) (fun c22 => ?_) (fun c22 => ?_)
                        · refine lv_iconst (v := nI 0) hx hb dX7_strike_148 (by decide) ?_
                          refine lv_istore (lv' := [(8, .int (nI 0)), (0, .ref m0), (1, .int (nI m)), (2, .int (nI k)), (3, .int (nI u)), (4, .int (nI (ctWks w (w 2 + m) (w 4)))), (5, .int (nI (gsF w (ctWks w (w 2 + m) (w 4)) k g1))), (6, .int (nI (blN (ctWks w (w 2 + m) (w 4)) k1))), (7, .int (nI g1))]) hx hb dX7_strike_149 hl (by decide) rfl (fun ls hl => ?_)
                          refine lv_iconst (v := nI 0) hx hb dX7_strike_151 (by decide) ?_
                          refine lv_istore (lv' := [(9, .int (nI 0)), (8, .int (nI 0)), (0, .ref m0), (1, .int (nI m)), (2, .int (nI k)), (3, .int (nI u)), (4, .int (nI (ctWks w (w 2 + m) (w 4)))), (5, .int (nI (gsF w (ctWks w (w 2 + m) (w 4)) k g1))), (6, .int (nI (blN (ctWks w (w 2 + m) (w 4)) k1))), (7, .int (nI g1))]) hx hb dX7_strike_152 hl (by decide) rfl (fun ls hl => ?_)
                          have L154_230 : ∀ (fu k3 : Nat), k3 ≤ w 4 → w 4 < k3 + fu → ∀ ls : Array Slot, lv_has ls 10 [(0, .ref m0), (1, .int (nI m)), (2, .int (nI k)), (3, .int (nI u)), (4, .int (nI (ctWks w (w 2 + m) (w 4)))), (5, .int (nI (gsF w (ctWks w (w 2 + m) (w 4)) k g1))), (6, .int (nI (blN (ctWks w (w 2 + m) (w 4)) k1))), (7, .int (nI g1)), (8, .int (nI (wyN (ctWks w (w 2 + m) (w 4)) g1 k 0 k3))), (9, .int (nI k3))] → W pg l en (q_rm 5) s mi args below meth cd s.heap [] 0 0 (MQ below (vp_Si (fun r => r = oStrike w (nI m) (nI k) (nI u))) args s 0 0 (fun _ => False)) (F0 mi 154 ls []) := by
                            intro fu
                            induction fu with
                            | zero =>
                              intro k3 h1 h2
                              exact absurd h2 (by omega)
                            | succ fu ih154 =>
                              intro k3 h1_154 h2_154 ls hl
                              refine lv_iload hx hb dX7_strike_154 (lv_at hl 9 rfl) ?_
                              refine lv_aload_n hx hb dX7_strike_156 rfl (lv_at hl 0 rfl) ?_
                              refine va_get (D := D) (ci := 7) (v := .ref nw) (C := RX7) (T := TX7) (N := 23) hx hb hts nX7_strike_0 hown hK.1 hP 0 rfl rfl 13 (by decide) (hts _ mX7_strike_1) (fun _ h9 => h9) rfl dX7_strike_157 ?_
                              refine lv_iconst (v := nI 4) hx hb dX7_strike_160 (by decide) ?_
                              refine q_iald (j := 4) (v := nI (w 4)) hx hb hK hP 1 rfl (by omega) (by decide) (hm _ (by omega)) dX7_strike_161 ?_
                              refine q_icmp_ge (tgt := 208) hx hb dX7_strike_162 (by decide) (by omega) (by omega) (fun c23 => ?_) (fun c23 => ?_)
                              · refine lv_iload hx hb dX7_strike_208 (lv_at hl 5 rfl) ?_
                                refine lv_iload hx hb dX7_strike_210 (lv_at hl 8 rfl) ?_
                                refine q_top (y := nI (wyN (ctWks w (w 2 + m) (w 4)) g1 k 0 (w 4))) (by rw [show k3 = w 4 by omega]) ?_
                                refine lv_iadd hx hb dX7_strike_212 ?_
                                refine q_top (y := nI ((gsF w (ctWks w (w 2 + m) (w 4)) k g1) + (wyN (ctWks w (w 2 + m) (w 4)) g1 k 0 (w 4)))) (nI_add _ _) ?_
                                refine lv_istore (lv' := [(5, .int (nI ((gsF w (ctWks w (w 2 + m) (w 4)) k g1) + (wyN (ctWks w (w 2 + m) (w 4)) g1 k 0 (w 4))))), (0, .ref m0), (1, .int (nI m)), (2, .int (nI k)), (3, .int (nI u)), (4, .int (nI (ctWks w (w 2 + m) (w 4)))), (6, .int (nI (blN (ctWks w (w 2 + m) (w 4)) k1))), (7, .int (nI g1)), (8, .int (nI (wyN (ctWks w (w 2 + m) (w 4)) g1 k 0 k3))), (9, .int (nI k3))]) hx hb dX7_strike_213 hl (by decide) rfl (fun ls hl => ?_)
                                refine lv_iinc (v := nI (g1 + 1)) (lv' := [(7, .int (nI (g1 + 1))), (5, .int (nI ((gsF w (ctWks w (w 2 + m) (w 4)) k g1) + (wyN (ctWks w (w 2 + m) (w 4)) g1 k 0 (w 4))))), (0, .ref m0), (1, .int (nI m)), (2, .int (nI k)), (3, .int (nI u)), (4, .int (nI (ctWks w (w 2 + m) (w 4)))), (6, .int (nI (blN (ctWks w (w 2 + m) (w 4)) k1))), (8, .int (nI (wyN (ctWks w (w 2 + m) (w 4)) g1 k 0 k3))), (9, .int (nI k3))]) hx hb dX7_strike_215 hl (k := 7) rfl (q_inc g1 1) (by decide) rfl (fun ls hl => ?_)
                                refine lv_goto (tgt := 106) hx hb dX7_strike_218 (by decide) ?_
                                exact ih106 (g1 + 1) (by omega) (by omega) ls (q_lset (lv_sub (l' := [(0, .ref m0), (1, .int (nI m)), (2, .int (nI k)), (3, .int (nI u)), (4, .int (nI (ctWks w (w 2 + m) (w 4)))), (5, .int (nI ((gsF w (ctWks w (w 2 + m) (w 4)) k g1) + (wyN (ctWks w (w 2 + m) (w 4)) g1 k 0 (w 4))))), (6, .int (nI (blN (ctWks w (w 2 + m) (w 4)) k1))), (7, .int (nI (g1 + 1)))]) hl [2, 3, 4, 5, 6, 1, 7, 0] rfl) (q_c1 (f := fun z5 => ([(0, .ref m0), (1, .int (nI m)), (2, .int (nI k)), (3, .int (nI u)), (4, .int (nI (ctWks w (w 2 + m) (w 4)))), (5, .int (z5)), (6, .int (nI (blN (ctWks w (w 2 + m) (w 4)) k1))), (7, .int (nI (g1 + 1)))] : List (Nat × Value))) (show (nI ((gsF w (ctWks w (w 2 + m) (w 4)) k g1) + (wyN (ctWks w (w 2 + m) (w 4)) g1 k 0 (w 4))) : Int32) = nI (gsF w (ctWks w (w 2 + m) (w 4)) k (g1 + 1)) from (congrArg nI (gsF_n2 c22)).symm)))
                              · refine lv_iload hx hb dX7_strike_165 (lv_at hl 8 rfl) ?_
                                refine lv_iload hx hb dX7_strike_167 (lv_at hl 4 rfl) ?_
                                refine lv_iload hx hb dX7_strike_169 (lv_at hl 9 rfl) ?_
                                refine q_rS (As := [.int (nI (ctWks w (w 2 + m) (w 4))), .int (nI k3)]) (rest := [.int (nI (wyN (ctWks w (w 2 + m) (w 4)) g1 k 0 k3))]) ⟨hx, hb, hml, hown, hts⟩ (c_X7_has l D cy (ctWks w (w 2 + m) (w 4)) k3 (by omega) (by omega)) (va_cwS 2 hts gX7_strike_X7_has rfl rfl rfl (by decide +kernel) ⟨Nat.le_of_ble_eq_true rfl, Nat.le_of_ble_eq_true rfl⟩) hP hK [] rfl rfl hl.1 rfl (Nat.le_of_ble_eq_true rfl) dX7_strike_171 ⟨Nat.zero_le _, Nat.zero_le _⟩ (fun r24 hr24 => ?_)
                                rcases hr24 with ⟨rfl, b25⟩ | ⟨rfl, b25⟩
                                · have _ := b25
                                  refine lv_if_ne (tgt := 181) hx hb dX7_strike_174 (by decide) (fun _ => ?_) (fun c9 => absurd c9 (by decide))
                                  refine lv_iload hx hb dX7_strike_181 (lv_at hl 7 rfl) ?_
                                  refine lv_iload hx hb dX7_strike_183 (lv_at hl 9 rfl) ?_
                                  refine q_rS (As := [.int (nI g1), .int (nI k3)]) (rest := [.int (nI (wyN (ctWks w (w 2 + m) (w 4)) g1 k 0 k3))]) ⟨hx, hb, hml, hown, hts⟩ (c_X7_has l D cy g1 k3 (by omega) (by omega)) (va_cwS 2 hts gX7_strike_X7_has rfl rfl rfl (by decide +kernel) ⟨Nat.le_of_ble_eq_true rfl, Nat.le_of_ble_eq_true rfl⟩) hP hK [] rfl rfl hl.1 rfl (Nat.le_of_ble_eq_true rfl) dX7_strike_185 ⟨Nat.zero_le _, Nat.zero_le _⟩ (fun r26 hr26 => ?_)
                                  rcases hr26 with ⟨rfl, b27⟩ | ⟨rfl, b27⟩
                                  · have _ := b27
                                    refine lv_if_eq (tgt := 195) hx hb dX7_strike_188 (by decide) (fun c9 => absurd c9 (by decide)) (fun _ => ?_)
                                    refine lv_iload_n hx hb dX7_strike_191 rfl (lv_at hl 2 rfl) ?_
                                    refine lv_goto (tgt := 199) hx hb dX7_strike_192 (by decide) ?_
                                    refine lv_imul hx hb dX7_strike_199 ?_
                                    refine q_top (y := nI ((wyN (ctWks w (w 2 + m) (w 4)) g1 k 0 k3) * k)) (pk_mul _ _) ?_
                                    refine lv_istore (lv' := [(8, .int (nI ((wyN (ctWks w (w 2 + m) (w 4)) g1 k 0 k3) * k))), (0, .ref m0), (1, .int (nI m)), (2, .int (nI k)), (3, .int (nI u)), (4, .int (nI (ctWks w (w 2 + m) (w 4)))), (5, .int (nI (gsF w (ctWks w (w 2 + m) (w 4)) k g1))), (6, .int (nI (blN (ctWks w (w 2 + m) (w 4)) k1))), (7, .int (nI g1)), (9, .int (nI k3))]) hx hb dX7_strike_200 hl (by decide) rfl (fun ls hl => ?_)
                                    refine lv_iinc (v := nI (k3 + 1)) (lv' := [(9, .int (nI (k3 + 1))), (8, .int (nI ((wyN (ctWks w (w 2 + m) (w 4)) g1 k 0 k3) * k))), (0, .ref m0), (1, .int (nI m)), (2, .int (nI k)), (3, .int (nI u)), (4, .int (nI (ctWks w (w 2 + m) (w 4)))), (5, .int (nI (gsF w (ctWks w (w 2 + m) (w 4)) k g1))), (6, .int (nI (blN (ctWks w (w 2 + m) (w 4)) k1))), (7, .int (nI g1))]) hx hb dX7_strike_202 hl (k := 9) rfl (q_inc k3 1) (by decide) rfl (fun ls hl => ?_)
                                    refine lv_goto (tgt := 154) hx hb dX7_strike_205 (by decide) ?_
                                    exact ih154 (k3 + 1) (by omega) (by omega) ls (q_lset (lv_sub (l' := [(0, .ref m0), (1, .int (nI m)), (2, .int (nI k)), (3, .int (nI u)), (4, .int (nI (ctWks w (w 2 + m) (w 4)))), (5, .int (nI (gsF w (ctWks w (w 2 + m) (w 4)) k g1))), (6, .int (nI (blN (ctWks w (w 2 + m) (w 4)) k1))), (7, .int (nI g1)), (8, .int (nI ((wyN (ctWks w (w 2 + m) (w 4)) g1 k 0 k3) * k))), (9, .int (nI (k3 + 1)))]) hl [2, 3, 4, 5, 6, 7, 8, 9, 1, 0] rfl) (q_c1 (f := fun z8 => ([(0, .ref m0), (1, .int (nI m)), (2, .int (nI k)), (3, .int (nI u)), (4, .int (nI (ctWks w (w 2 + m) (w 4)))), (5, .int (nI (gsF w (ctWks w (w 2 + m) (w 4)) k g1))), (6, .int (nI (blN (ctWks w (w 2 + m) (w 4)) k1))), (7, .int (nI g1)), (8, .int (z8)), (9, .int (nI (k3 + 1)))] : List (Nat × Value))) (show (nI ((wyN (ctWks w (w 2 + m) (w 4)) g1 k 0 k3) * k) : Int32) = nI (wyN (ctWks w (w 2 + m) (w 4)) g1 k 0 (k3 + 1)) from (congrArg nI (wyN_c b25 b27)).symm)))
                                  · have _ := b27
                                    refine lv_if_eq (tgt := 195) hx hb dX7_strike_188 (by decide) (fun _ => ?_) (fun c9 => absurd (by decide) c9)
                                    refine lv_bipush (v := nI 10) hx hb dX7_strike_195 (by decide) ?_
                                    refine lv_iload_n hx hb dX7_strike_197 rfl (lv_at hl 2 rfl) ?_
                                    refine lv_isub hx hb dX7_strike_198 ?_
                                    refine q_top (y := nI (10 - k)) (pk_sub (by omega)) ?_
                                    refine lv_imul hx hb dX7_strike_199 ?_
                                    refine q_top (y := nI ((wyN (ctWks w (w 2 + m) (w 4)) g1 k 0 k3) * (10 - k))) (pk_mul _ _) ?_
                                    refine lv_istore (lv' := [(8, .int (nI ((wyN (ctWks w (w 2 + m) (w 4)) g1 k 0 k3) * (10 - k)))), (0, .ref m0), (1, .int (nI m)), (2, .int (nI k)), (3, .int (nI u)), (4, .int (nI (ctWks w (w 2 + m) (w 4)))), (5, .int (nI (gsF w (ctWks w (w 2 + m) (w 4)) k g1))), (6, .int (nI (blN (ctWks w (w 2 + m) (w 4)) k1))), (7, .int (nI g1)), (9, .int (nI k3))]) hx hb dX7_strike_200 hl (by decide) rfl (fun ls hl => ?_)
                                    refine lv_iinc (v := nI (k3 + 1)) (lv' := [(9, .int (nI (k3 + 1))), (8, .int (nI ((wyN (ctWks w (w 2 + m) (w 4)) g1 k 0 k3) * (10 - k)))), (0, .ref m0), (1, .int (nI m)), (2, .int (nI k)), (3, .int (nI u)), (4, .int (nI (ctWks w (w 2 + m) (w 4)))), (5, .int (nI (gsF w (ctWks w (w 2 + m) (w 4)) k g1))), (6, .int (nI (blN (ctWks w (w 2 + m) (w 4)) k1))), (7, .int (nI g1))]) hx hb dX7_strike_202 hl (k := 9) rfl (q_inc k3 1) (by decide) rfl (fun ls hl => ?_)
                                    refine lv_goto (tgt := 154) hx hb dX7_strike_205 (by decide) ?_
                                    exact ih154 (k3 + 1) (by omega) (by omega) ls (q_lset (lv_sub (l' := [(0, .ref m0), (1, .int (nI m)), (2, .int (nI k)), (3, .int (nI u)), (4, .int (nI (ctWks w (w 2 + m) (w 4)))), (5, .int (nI (gsF w (ctWks w (w 2 + m) (w 4)) k g1))), (6, .int (nI (blN (ctWks w (w 2 + m) (w 4)) k1))), (7, .int (nI g1)), (8, .int (nI ((wyN (ctWks w (w 2 + m) (w 4)) g1 k 0 k3) * (10 - k)))), (9, .int (nI (k3 + 1)))]) hl [2, 3, 4, 5, 6, 7, 8, 9, 1, 0] rfl) (q_c1 (f := fun z8 => ([(0, .ref m0), (1, .int (nI m)), (2, .int (nI k)), (3, .int (nI u)), (4, .int (nI (ctWks w (w 2 + m) (w 4)))), (5, .int (nI (gsF w (ctWks w (w 2 + m) (w 4)) k g1))), (6, .int (nI (blN (ctWks w (w 2 + m) (w 4)) k1))), (7, .int (nI g1)), (8, .int (z8)), (9, .int (nI (k3 + 1)))] : List (Nat × Value))) (show (nI ((wyN (ctWks w (w 2 + m) (w 4)) g1 k 0 k3) * (10 - k)) : Int32) = nI (wyN (ctWks w (w 2 + m) (w 4)) g1 k 0 (k3 + 1)) from (congrArg nI (wyN_d b25 b27)).symm)))
                                · have _ := b25
                                  refine lv_if_ne (tgt := 181) hx hb dX7_strike_174 (by decide) (fun c9 => absurd (by decide) c9) (fun _ => ?_)
                                  refine lv_iconst (v := nI 1) hx hb dX7_strike_177 (by decide) ?_
                                  refine lv_goto (tgt := 199) hx hb dX7_strike_178 (by decide) ?_
                                  refine lv_imul hx hb dX7_strike_199 ?_
                                  refine q_top (y := nI ((wyN (ctWks w (w 2 + m) (w 4)) g1 k 0 k3) * 1)) (pk_mul _ _) ?_
                                  refine lv_istore (lv' := [(8, .int (nI ((wyN (ctWks w (w 2 + m) (w 4)) g1 k 0 k3) * 1))), (0, .ref m0), (1, .int (nI m)), (2, .int (nI k)), (3, .int (nI u)), (4, .int (nI (ctWks w (w 2 + m) (w 4)))), (5, .int (nI (gsF w (ctWks w (w 2 + m) (w 4)) k g1))), (6, .int (nI (blN (ctWks w (w 2 + m) (w 4)) k1))), (7, .int (nI g1)), (9, .int (nI k3))]) hx hb dX7_strike_200 hl (by decide) rfl (fun ls hl => ?_)
                                  refine lv_iinc (v := nI (k3 + 1)) (lv' := [(9, .int (nI (k3 + 1))), (8, .int (nI ((wyN (ctWks w (w 2 + m) (w 4)) g1 k 0 k3) * 1))), (0, .ref m0), (1, .int (nI m)), (2, .int (nI k)), (3, .int (nI u)), (4, .int (nI (ctWks w (w 2 + m) (w 4)))), (5, .int (nI (gsF w (ctWks w (w 2 + m) (w 4)) k g1))), (6, .int (nI (blN (ctWks w (w 2 + m) (w 4)) k1))), (7, .int (nI g1))]) hx hb dX7_strike_202 hl (k := 9) rfl (q_inc k3 1) (by decide) rfl (fun ls hl => ?_)
                                  refine lv_goto (tgt := 154) hx hb dX7_strike_205 (by decide) ?_
                                  exact ih154 (k3 + 1) (by omega) (by omega) ls (q_lset (lv_sub (l' := [(0, .ref m0), (1, .int (nI m)), (2, .int (nI k)), (3, .int (nI u)), (4, .int (nI (ctWks w (w 2 + m) (w 4)))), (5, .int (nI (gsF w (ctWks w (w 2 + m) (w 4)) k g1))), (6, .int (nI (blN (ctWks w (w 2 + m) (w 4)) k1))), (7, .int (nI g1)), (8, .int (nI ((wyN (ctWks w (w 2 + m) (w 4)) g1 k 0 k3) * 1))), (9, .int (nI (k3 + 1)))]) hl [2, 3, 4, 5, 6, 7, 8, 9, 1, 0] rfl) (q_c1 (f := fun z8 => ([(0, .ref m0), (1, .int (nI m)), (2, .int (nI k)), (3, .int (nI u)), (4, .int (nI (ctWks w (w 2 + m) (w 4)))), (5, .int (nI (gsF w (ctWks w (w 2 + m) (w 4)) k g1))), (6, .int (nI (blN (ctWks w (w 2 + m) (w 4)) k1))), (7, .int (nI g1)), (8, .int (z8)), (9, .int (nI (k3 + 1)))] : List (Nat × Value))) (show (nI ((wyN (ctWks w (w 2 + m) (w 4)) g1 k 0 k3) * 1) : Int32) = nI (wyN (ctWks w (w 2 + m) (w 4)) g1 k 0 (k3 + 1)) from (congrArg nI (wyN_1 b25)).symm)))
                          exact L154_230 ((w 4) + 1) 0 (by omega) (by omega) ls (q_lset (lv_sub (l' := [(0, .ref m0), (1, .int (nI m)), (2, .int (nI k)), (3, .int (nI u)), (4, .int (nI (ctWks w (w 2 + m) (w 4)))), (5, .int (nI (gsF w (ctWks w (w 2 + m) (w 4)) k g1))), (6, .int (nI (blN (ctWks w (w 2 + m) (w 4)) k1))), (7, .int (nI g1)), (8, .int (nI 0)), (9, .int (nI 0))]) hl [2, 3, 4, 5, 6, 7, 8, 9, 1, 0] rfl) (q_c1 (f := fun z8 => ([(0, .ref m0), (1, .int (nI m)), (2, .int (nI k)), (3, .int (nI u)), (4, .int (nI (ctWks w (w 2 + m) (w 4)))), (5, .int (nI (gsF w (ctWks w (w 2 + m) (w 4)) k g1))), (6, .int (nI (blN (ctWks w (w 2 + m) (w 4)) k1))), (7, .int (nI g1)), (8, .int (z8)), (9, .int (nI 0))] : List (Nat × Value))) (show (nI 0 : Int32) = nI (wyN (ctWks w (w 2 + m) (w 4)) g1 k 0 0) from rfl)))
                        · refine lv_iconst (v := nI 1) hx hb dX7_strike_144 (by decide) ?_
                          refine lv_goto (tgt := 149) hx hb dX7_strike_145 (by decide) ?_
                          refine lv_istore (lv' := [(8, .int (nI 1)), (0, .ref m0), (1, .int (nI m)), (2, .int (nI k)), (3, .int (nI u)), (4, .int (nI (ctWks w (w 2 + m) (w 4)))), (5, .int (nI (gsF w (ctWks w (w 2 + m) (w 4)) k g1))), (6, .int (nI (blN (ctWks w (w 2 + m) (w 4)) k1))), (7, .int (nI g1))]) hx hb dX7_strike_149 hl (by decide) rfl (fun ls hl => ?_)
                          refine lv_iconst (v := nI 0) hx hb dX7_strike_151 (by decide) ?_
                          refine lv_istore (lv' := [(9, .int (nI 0)), (8, .int (nI 1)), (0, .ref m0), (1, .int (nI m)), (2, .int (nI k)), (3, .int (nI u)), (4, .int (nI (ctWks w (w 2 + m) (w 4)))), (5, .int (nI (gsF w (ctWks w (w 2 + m) (w 4)) k g1))), (6, .int (nI (blN (ctWks w (w 2 + m) (w 4)) k1))), (7, .int (nI g1))]) hx hb dX7_strike_152 hl (by decide) rfl (fun ls hl => ?_)
                          have L154_302 : ∀ (fu k3 : Nat), k3 ≤ w 4 → w 4 < k3 + fu → ∀ ls : Array Slot, lv_has ls 10 [(0, .ref m0), (1, .int (nI m)), (2, .int (nI k)), (3, .int (nI u)), (4, .int (nI (ctWks w (w 2 + m) (w 4)))), (5, .int (nI (gsF w (ctWks w (w 2 + m) (w 4)) k g1))), (6, .int (nI (blN (ctWks w (w 2 + m) (w 4)) k1))), (7, .int (nI g1)), (8, .int (nI (wyN (ctWks w (w 2 + m) (w 4)) g1 k 1 k3))), (9, .int (nI k3))] → W pg l en (q_rm 5) s mi args below meth cd s.heap [] 0 0 (MQ below (vp_Si (fun r => r = oStrike w (nI m) (nI k) (nI u))) args s 0 0 (fun _ => False)) (F0 mi 154 ls []) := by
                            intro fu
                            induction fu with
                            | zero =>
                              intro k3 h1 h2
                              exact absurd h2 (by omega)
                            | succ fu ih154 =>
                              intro k3 h1_154 h2_154 ls hl
                              refine lv_iload hx hb dX7_strike_154 (lv_at hl 9 rfl) ?_
                              refine lv_aload_n hx hb dX7_strike_156 rfl (lv_at hl 0 rfl) ?_
                              refine va_get (D := D) (ci := 7) (v := .ref nw) (C := RX7) (T := TX7) (N := 23) hx hb hts nX7_strike_0 hown hK.1 hP 0 rfl rfl 13 (by decide) (hts _ mX7_strike_1) (fun _ h9 => h9) rfl dX7_strike_157 ?_
                              refine lv_iconst (v := nI 4) hx hb dX7_strike_160 (by decide) ?_
                              refine q_iald (j := 4) (v := nI (w 4)) hx hb hK hP 1 rfl (by omega) (by decide) (hm _ (by omega)) dX7_strike_161 ?_
                              refine q_icmp_ge (tgt := 208) hx hb dX7_strike_162 (by decide) (by omega) (by omega) (fun c28 => ?_) (fun c28 => ?_)
                              · refine lv_iload hx hb dX7_strike_208 (lv_at hl 5 rfl) ?_
                                refine lv_iload hx hb dX7_strike_210 (lv_at hl 8 rfl) ?_
                                refine q_top (y := nI (wyN (ctWks w (w 2 + m) (w 4)) g1 k 1 (w 4))) (by rw [show k3 = w 4 by omega]) ?_
                                refine lv_iadd hx hb dX7_strike_212 ?_
                                refine q_top (y := nI ((gsF w (ctWks w (w 2 + m) (w 4)) k g1) + (wyN (ctWks w (w 2 + m) (w 4)) g1 k 1 (w 4)))) (nI_add _ _) ?_
                                refine lv_istore (lv' := [(5, .int (nI ((gsF w (ctWks w (w 2 + m) (w 4)) k g1) + (wyN (ctWks w (w 2 + m) (w 4)) g1 k 1 (w 4))))), (0, .ref m0), (1, .int (nI m)), (2, .int (nI k)), (3, .int (nI u)), (4, .int (nI (ctWks w (w 2 + m) (w 4)))), (6, .int (nI (blN (ctWks w (w 2 + m) (w 4)) k1))), (7, .int (nI g1)), (8, .int (nI (wyN (ctWks w (w 2 + m) (w 4)) g1 k 1 k3))), (9, .int (nI k3))]) hx hb dX7_strike_213 hl (by decide) rfl (fun ls hl => ?_)
                                refine lv_iinc (v := nI (g1 + 1)) (lv' := [(7, .int (nI (g1 + 1))), (5, .int (nI ((gsF w (ctWks w (w 2 + m) (w 4)) k g1) + (wyN (ctWks w (w 2 + m) (w 4)) g1 k 1 (w 4))))), (0, .ref m0), (1, .int (nI m)), (2, .int (nI k)), (3, .int (nI u)), (4, .int (nI (ctWks w (w 2 + m) (w 4)))), (6, .int (nI (blN (ctWks w (w 2 + m) (w 4)) k1))), (8, .int (nI (wyN (ctWks w (w 2 + m) (w 4)) g1 k 1 k3))), (9, .int (nI k3))]) hx hb dX7_strike_215 hl (k := 7) rfl (q_inc g1 1) (by decide) rfl (fun ls hl => ?_)
                                refine lv_goto (tgt := 106) hx hb dX7_strike_218 (by decide) ?_
                                exact ih106 (g1 + 1) (by omega) (by omega) ls (q_lset (lv_sub (l' := [(0, .ref m0), (1, .int (nI m)), (2, .int (nI k)), (3, .int (nI u)), (4, .int (nI (ctWks w (w 2 + m) (w 4)))), (5, .int (nI ((gsF w (ctWks w (w 2 + m) (w 4)) k g1) + (wyN (ctWks w (w 2 + m) (w 4)) g1 k 1 (w 4))))), (6, .int (nI (blN (ctWks w (w 2 + m) (w 4)) k1))), (7, .int (nI (g1 + 1)))]) hl [2, 3, 4, 5, 6, 1, 7, 0] rfl) (q_c1 (f := fun z5 => ([(0, .ref m0), (1, .int (nI m)), (2, .int (nI k)), (3, .int (nI u)), (4, .int (nI (ctWks w (w 2 + m) (w 4)))), (5, .int (z5)), (6, .int (nI (blN (ctWks w (w 2 + m) (w 4)) k1))), (7, .int (nI (g1 + 1)))] : List (Nat × Value))) (show (nI ((gsF w (ctWks w (w 2 + m) (w 4)) k g1) + (wyN (ctWks w (w 2 + m) (w 4)) g1 k 1 (w 4))) : Int32) = nI (gsF w (ctWks w (w 2 + m) (w 4)) k (g1 + 1)) from (congrArg nI (gsF_y c14 c22)).symm)))
                              · refine lv_iload hx hb dX7_strike_165 (lv_at hl 8 rfl) ?_
                                refine lv_iload hx hb dX7_strike_167 (lv_at hl 4 rfl) ?_
                                refine lv_iload hx hb dX7_strike_169 (lv_at hl 9 rfl) ?_
                                refine q_rS (As := [.int (nI (ctWks w (w 2 + m) (w 4))), .int (nI k3)]) (rest := [.int (nI (wyN (ctWks w (w 2 + m) (w 4)) g1 k 1 k3))]) ⟨hx, hb, hml, hown, hts⟩ (c_X7_has l D cy (ctWks w (w 2 + m) (w 4)) k3 (by omega) (by omega)) (va_cwS 2 hts gX7_strike_X7_has rfl rfl rfl (by decide +kernel) ⟨Nat.le_of_ble_eq_true rfl, Nat.le_of_ble_eq_true rfl⟩) hP hK [] rfl rfl hl.1 rfl (Nat.le_of_ble_eq_true rfl) dX7_strike_171 ⟨Nat.zero_le _, Nat.zero_le _⟩ (fun r29 hr29 => ?_)
                                rcases hr29 with ⟨rfl, b30⟩ | ⟨rfl, b30⟩
                                · have _ := b30
                                  refine lv_if_ne (tgt := 181) hx hb dX7_strike_174 (by decide) (fun _ => ?_) (fun c9 => absurd c9 (by decide))
                                  refine lv_iload hx hb dX7_strike_181 (lv_at hl 7 rfl) ?_
                                  refine lv_iload hx hb dX7_strike_183 (lv_at hl 9 rfl) ?_
                                  refine q_rS (As := [.int (nI g1), .int (nI k3)]) (rest := [.int (nI (wyN (ctWks w (w 2 + m) (w 4)) g1 k 1 k3))]) ⟨hx, hb, hml, hown, hts⟩ (c_X7_has l D cy g1 k3 (by omega) (by omega)) (va_cwS 2 hts gX7_strike_X7_has rfl rfl rfl (by decide +kernel) ⟨Nat.le_of_ble_eq_true rfl, Nat.le_of_ble_eq_true rfl⟩) hP hK [] rfl rfl hl.1 rfl (Nat.le_of_ble_eq_true rfl) dX7_strike_185 ⟨Nat.zero_le _, Nat.zero_le _⟩ (fun r31 hr31 => ?_)
                                  rcases hr31 with ⟨rfl, b32⟩ | ⟨rfl, b32⟩
                                  · have _ := b32
                                    refine lv_if_eq (tgt := 195) hx hb dX7_strike_188 (by decide) (fun c9 => absurd c9 (by decide)) (fun _ => ?_)
                                    refine lv_iload_n hx hb dX7_strike_191 rfl (lv_at hl 2 rfl) ?_
                                    refine lv_goto (tgt := 199) hx hb dX7_strike_192 (by decide) ?_
                                    refine lv_imul hx hb dX7_strike_199 ?_
                                    refine q_top (y := nI ((wyN (ctWks w (w 2 + m) (w 4)) g1 k 1 k3) * k)) (pk_mul _ _) ?_
                                    refine lv_istore (lv' := [(8, .int (nI ((wyN (ctWks w (w 2 + m) (w 4)) g1 k 1 k3) * k))), (0, .ref m0), (1, .int (nI m)), (2, .int (nI k)), (3, .int (nI u)), (4, .int (nI (ctWks w (w 2 + m) (w 4)))), (5, .int (nI (gsF w (ctWks w (w 2 + m) (w 4)) k g1))), (6, .int (nI (blN (ctWks w (w 2 + m) (w 4)) k1))), (7, .int (nI g1)), (9, .int (nI k3))]) hx hb dX7_strike_200 hl (by decide) rfl (fun ls hl => ?_)
                                    refine lv_iinc (v := nI (k3 + 1)) (lv' := [(9, .int (nI (k3 + 1))), (8, .int (nI ((wyN (ctWks w (w 2 + m) (w 4)) g1 k 1 k3) * k))), (0, .ref m0), (1, .int (nI m)), (2, .int (nI k)), (3, .int (nI u)), (4, .int (nI (ctWks w (w 2 + m) (w 4)))), (5, .int (nI (gsF w (ctWks w (w 2 + m) (w 4)) k g1))), (6, .int (nI (blN (ctWks w (w 2 + m) (w 4)) k1))), (7, .int (nI g1))]) hx hb dX7_strike_202 hl (k := 9) rfl (q_inc k3 1) (by decide) rfl (fun ls hl => ?_)
                                    refine lv_goto (tgt := 154) hx hb dX7_strike_205 (by decide) ?_
                                    exact ih154 (k3 + 1) (by omega) (by omega) ls (q_lset (lv_sub (l' := [(0, .ref m0), (1, .int (nI m)), (2, .int (nI k)), (3, .int (nI u)), (4, .int (nI (ctWks w (w 2 + m) (w 4)))), (5, .int (nI (gsF w (ctWks w (w 2 + m) (w 4)) k g1))), (6, .int (nI (blN (ctWks w (w 2 + m) (w 4)) k1))), (7, .int (nI g1)), (8, .int (nI ((wyN (ctWks w (w 2 + m) (w 4)) g1 k 1 k3) * k))), (9, .int (nI (k3 + 1)))]) hl [2, 3, 4, 5, 6, 7, 8, 9, 1, 0] rfl) (q_c1 (f := fun z8 => ([(0, .ref m0), (1, .int (nI m)), (2, .int (nI k)), (3, .int (nI u)), (4, .int (nI (ctWks w (w 2 + m) (w 4)))), (5, .int (nI (gsF w (ctWks w (w 2 + m) (w 4)) k g1))), (6, .int (nI (blN (ctWks w (w 2 + m) (w 4)) k1))), (7, .int (nI g1)), (8, .int (z8)), (9, .int (nI (k3 + 1)))] : List (Nat × Value))) (show (nI ((wyN (ctWks w (w 2 + m) (w 4)) g1 k 1 k3) * k) : Int32) = nI (wyN (ctWks w (w 2 + m) (w 4)) g1 k 1 (k3 + 1)) from (congrArg nI (wyN_c b30 b32)).symm)))
                                  · have _ := b32
                                    refine lv_if_eq (tgt := 195) hx hb dX7_strike_188 (by decide) (fun _ => ?_) (fun c9 => absurd (by decide) c9)
                                    refine lv_bipush (v := nI 10) hx hb dX7_strike_195 (by decide) ?_
                                    refine lv_iload_n hx hb dX7_strike_197 rfl (lv_at hl 2 rfl) ?_
                                    refine lv_isub hx hb dX7_strike_198 ?_
                                    refine q_top (y := nI (10 - k)) (pk_sub (by omega)) ?_
                                    refine lv_imul hx hb dX7_strike_199 ?_
                                    refine q_top (y := nI ((wyN (ctWks w (w 2 + m) (w 4)) g1 k 1 k3) * (10 - k))) (pk_mul _ _) ?_
                                    refine lv_istore (lv' := [(8, .int (nI ((wyN (ctWks w (w 2 + m) (w 4)) g1 k 1 k3) * (10 - k)))), (0, .ref m0), (1, .int (nI m)), (2, .int (nI k)), (3, .int (nI u)), (4, .int (nI (ctWks w (w 2 + m) (w 4)))), (5, .int (nI (gsF w (ctWks w (w 2 + m) (w 4)) k g1))), (6, .int (nI (blN (ctWks w (w 2 + m) (w 4)) k1))), (7, .int (nI g1)), (9, .int (nI k3))]) hx hb dX7_strike_200 hl (by decide) rfl (fun ls hl => ?_)
                                    refine lv_iinc (v := nI (k3 + 1)) (lv' := [(9, .int (nI (k3 + 1))), (8, .int (nI ((wyN (ctWks w (w 2 + m) (w 4)) g1 k 1 k3) * (10 - k)))), (0, .ref m0), (1, .int (nI m)), (2, .int (nI k)), (3, .int (nI u)), (4, .int (nI (ctWks w (w 2 + m) (w 4)))), (5, .int (nI (gsF w (ctWks w (w 2 + m) (w 4)) k g1))), (6, .int (nI (blN (ctWks w (w 2 + m) (w 4)) k1))), (7, .int (nI g1))]) hx hb dX7_strike_202 hl (k := 9) rfl (q_inc k3 1) (by decide) rfl (fun ls hl => ?_)
                                    refine lv_goto (tgt := 154) hx hb dX7_strike_205 (by decide) ?_
                                    exact ih154 (k3 + 1) (by omega) (by omega) ls (q_lset (lv_sub (l' := [(0, .ref m0), (1, .int (nI m)), (2, .int (nI k)), (3, .int (nI u)), (4, .int (nI (ctWks w (w 2 + m) (w 4)))), (5, .int (nI (gsF w (ctWks w (w 2 + m) (w 4)) k g1))), (6, .int (nI (blN (ctWks w (w 2 + m) (w 4)) k1))), (7, .int (nI g1)), (8, .int (nI ((wyN (ctWks w (w 2 + m) (w 4)) g1 k 1 k3) * (10 - k)))), (9, .int (nI (k3 + 1)))]) hl [2, 3, 4, 5, 6, 7, 8, 9, 1, 0] rfl) (q_c1 (f := fun z8 => ([(0, .ref m0), (1, .int (nI m)), (2, .int (nI k)), (3, .int (nI u)), (4, .int (nI (ctWks w (w 2 + m) (w 4)))), (5, .int (nI (gsF w (ctWks w (w 2 + m) (w 4)) k g1))), (6, .int (nI (blN (ctWks w (w 2 + m) (w 4)) k1))), (7, .int (nI g1)), (8, .int (z8)), (9, .int (nI (k3 + 1)))] : List (Nat × Value))) (show (nI ((wyN (ctWks w (w 2 + m) (w 4)) g1 k 1 k3) * (10 - k)) : Int32) = nI (wyN (ctWks w (w 2 + m) (w 4)) g1 k 1 (k3 + 1)) from (congrArg nI (wyN_d b30 b32)).symm)))
                                · have _ := b30
                                  refine lv_if_ne (tgt := 181) hx hb dX7_strike_174 (by decide) (fun c9 => absurd (by decide) c9) (fun _ => ?_)
                                  refine lv_iconst (v := nI 1) hx hb dX7_strike_177 (by decide) ?_
                                  refine lv_goto (tgt := 199) hx hb dX7_strike_178 (by decide) ?_
                                  refine lv_imul hx hb dX7_strike_199 ?_
                                  refine q_top (y := nI ((wyN (ctWks w (w 2 + m) (w 4)) g1 k 1 k3) * 1)) (pk_mul _ _) ?_
                                  refine lv_istore (lv' := [(8, .int (nI ((wyN (ctWks w (w 2 + m) (w 4)) g1 k 1 k3) * 1))), (0, .ref m0), (1, .int (nI m)), (2, .int (nI k)), (3, .int (nI u)), (4, .int (nI (ctWks w (w 2 + m) (w 4)))), (5, .int (nI (gsF w (ctWks w (w 2 + m) (w 4)) k g1))), (6, .int (nI (blN (ctWks w (w 2 + m) (w 4)) k1))), (7, .int (nI g1)), (9, .int (nI k3))]) hx hb dX7_strike_200 hl (by decide) rfl (fun ls hl => ?_)
                                  refine lv_iinc (v := nI (k3 + 1)) (lv' := [(9, .int (nI (k3 + 1))), (8, .int (nI ((wyN (ctWks w (w 2 + m) (w 4)) g1 k 1 k3) * 1))), (0, .ref m0), (1, .int (nI m)), (2, .int (nI k)), (3, .int (nI u)), (4, .int (nI (ctWks w (w 2 + m) (w 4)))), (5, .int (nI (gsF w (ctWks w (w 2 + m) (w 4)) k g1))), (6, .int (nI (blN (ctWks w (w 2 + m) (w 4)) k1))), (7, .int (nI g1))]) hx hb dX7_strike_202 hl (k := 9) rfl (q_inc k3 1) (by decide) rfl (fun ls hl => ?_)
                                  refine lv_goto (tgt := 154) hx hb dX7_strike_205 (by decide) ?_
                                  exact ih154 (k3 + 1) (by omega) (by omega) ls (q_lset (lv_sub (l' := [(0, .ref m0), (1, .int (nI m)), (2, .int (nI k)), (3, .int (nI u)), (4, .int (nI (ctWks w (w 2 + m) (w 4)))), (5, .int (nI (gsF w (ctWks w (w 2 + m) (w 4)) k g1))), (6, .int (nI (blN (ctWks w (w 2 + m) (w 4)) k1))), (7, .int (nI g1)), (8, .int (nI ((wyN (ctWks w (w 2 + m) (w 4)) g1 k 1 k3) * 1))), (9, .int (nI (k3 + 1)))]) hl [2, 3, 4, 5, 6, 7, 8, 9, 1, 0] rfl) (q_c1 (f := fun z8 => ([(0, .ref m0), (1, .int (nI m)), (2, .int (nI k)), (3, .int (nI u)), (4, .int (nI (ctWks w (w 2 + m) (w 4)))), (5, .int (nI (gsF w (ctWks w (w 2 + m) (w 4)) k g1))), (6, .int (nI (blN (ctWks w (w 2 + m) (w 4)) k1))), (7, .int (nI g1)), (8, .int (z8)), (9, .int (nI (k3 + 1)))] : List (Nat × Value))) (show (nI ((wyN (ctWks w (w 2 + m) (w 4)) g1 k 1 k3) * 1) : Int32) = nI (wyN (ctWks w (w 2 + m) (w 4)) g1 k 1 (k3 + 1)) from (congrArg nI (wyN_1 b30)).symm)))
                          exact L154_302 ((w 4) + 1) 0 (by omega) (by omega) ls (q_lset (lv_sub (l' := [(0, .ref m0), (1, .int (nI m)), (2, .int (nI k)), (3, .int (nI u)), (4, .int (nI (ctWks w (w 2 + m) (w 4)))), (5, .int (nI (gsF w (ctWks w (w 2 + m) (w 4)) k g1))), (6, .int (nI (blN (ctWks w (w 2 + m) (w 4)) k1))), (7, .int (nI g1)), (8, .int (nI 1)), (9, .int (nI 0))]) hl [2, 3, 4, 5, 6, 7, 8, 9, 1, 0] rfl) (q_c1 (f := fun z8 => ([(0, .ref m0), (1, .int (nI m)), (2, .int (nI k)), (3, .int (nI u)), (4, .int (nI (ctWks w (w 2 + m) (w 4)))), (5, .int (nI (gsF w (ctWks w (w 2 + m) (w 4)) k g1))), (6, .int (nI (blN (ctWks w (w 2 + m) (w 4)) k1))), (7, .int (nI g1)), (8, .int (z8)), (9, .int (nI 0))] : List (Nat × Value))) (show (nI 1 : Int32) = nI (wyN (ctWks w (w 2 + m) (w 4)) g1 k 1 0) from rfl)))
                exact L106_66 (((ctWks w (w 2 + m) (w 4)) + 1) + 1) 0 (by omega) (by omega) ls (q_lset (lv_sub (l' := [(0, .ref m0), (1, .int (nI m)), (2, .int (nI k)), (3, .int (nI u)), (4, .int (nI (ctWks w (w 2 + m) (w 4)))), (5, .int (nI 0)), (6, .int (nI (blN (ctWks w (w 2 + m) (w 4)) k1))), (7, .int (nI 0))]) hl [1, 2, 3, 4, 5, 6, 7, 0] rfl) (q_c1 (f := fun z5 => ([(0, .ref m0), (1, .int (nI m)), (2, .int (nI k)), (3, .int (nI u)), (4, .int (nI (ctWks w (w 2 + m) (w 4)))), (5, .int (z5)), (6, .int (nI (blN (ctWks w (w 2 + m) (w 4)) k1))), (7, .int (nI 0))] : List (Nat × Value))) (show (nI 0 : Int32) = nI (gsF w (ctWks w (w 2 + m) (w 4)) k 0) from rfl)))
              · refine lv_iload hx hb dX7_strike_76 (lv_at hl 6 rfl) ?_
                refine lv_iload hx hb dX7_strike_78 (lv_at hl 4 rfl) ?_
                refine lv_iload hx hb dX7_strike_80 (lv_at hl 7 rfl) ?_
                refine q_rS (As := [.int (nI (ctWks w (w 2 + m) (w 4))), .int (nI k1)]) (rest := [.int (nI (blN (ctWks w (w 2 + m) (w 4)) k1))]) ⟨hx, hb, hml, hown, hts⟩ (c_X7_has l D cy (ctWks w (w 2 + m) (w 4)) k1 (by omega) (by omega)) (va_cwS 2 hts gX7_strike_X7_has rfl rfl rfl (by decide +kernel) ⟨Nat.le_of_ble_eq_true rfl, Nat.le_of_ble_eq_true rfl⟩) hP hK [] rfl rfl hl.1 rfl (Nat.le_of_ble_eq_true rfl) dX7_strike_82 ⟨Nat.zero_le _, Nat.zero_le _⟩ (fun r33 hr33 => ?_)
                rcases hr33 with ⟨rfl, b34⟩ | ⟨rfl, b34⟩
                · have _ := b34
                  refine lv_if_eq (tgt := 93) hx hb dX7_strike_85 (by decide) (fun c9 => absurd c9 (by decide)) (fun _ => ?_)
                  refine lv_bipush (v := nI 10) hx hb dX7_strike_88 (by decide) ?_
                  refine lv_goto (tgt := 94) hx hb dX7_strike_90 (by decide) ?_
                  refine lv_imul hx hb dX7_strike_94 ?_
                  refine q_top (y := nI ((blN (ctWks w (w 2 + m) (w 4)) k1) * 10)) (pk_mul _ _) ?_
                  refine lv_istore (lv' := [(6, .int (nI ((blN (ctWks w (w 2 + m) (w 4)) k1) * 10))), (0, .ref m0), (1, .int (nI m)), (2, .int (nI k)), (3, .int (nI u)), (4, .int (nI (ctWks w (w 2 + m) (w 4)))), (5, .int (nI 0)), (7, .int (nI k1))]) hx hb dX7_strike_95 hl (by decide) rfl (fun ls hl => ?_)
                  refine lv_iinc (v := nI (k1 + 1)) (lv' := [(7, .int (nI (k1 + 1))), (6, .int (nI ((blN (ctWks w (w 2 + m) (w 4)) k1) * 10))), (0, .ref m0), (1, .int (nI m)), (2, .int (nI k)), (3, .int (nI u)), (4, .int (nI (ctWks w (w 2 + m) (w 4)))), (5, .int (nI 0))]) hx hb dX7_strike_97 hl (k := 7) rfl (q_inc k1 1) (by decide) rfl (fun ls hl => ?_)
                  refine lv_goto (tgt := 65) hx hb dX7_strike_100 (by decide) ?_
                  exact ih65 (k1 + 1) (by omega) (by omega) ls (q_lset (lv_sub (l' := [(0, .ref m0), (1, .int (nI m)), (2, .int (nI k)), (3, .int (nI u)), (4, .int (nI (ctWks w (w 2 + m) (w 4)))), (5, .int (nI 0)), (6, .int (nI ((blN (ctWks w (w 2 + m) (w 4)) k1) * 10))), (7, .int (nI (k1 + 1)))]) hl [2, 3, 4, 5, 6, 7, 1, 0] rfl) (q_c1 (f := fun z6 => ([(0, .ref m0), (1, .int (nI m)), (2, .int (nI k)), (3, .int (nI u)), (4, .int (nI (ctWks w (w 2 + m) (w 4)))), (5, .int (nI 0)), (6, .int (z6)), (7, .int (nI (k1 + 1)))] : List (Nat × Value))) (show (nI ((blN (ctWks w (w 2 + m) (w 4)) k1) * 10) : Int32) = nI (blN (ctWks w (w 2 + m) (w 4)) (k1 + 1)) from (congrArg nI (blN_y b34)).symm)))
                · have _ := b34
                  refine lv_if_eq (tgt := 93) hx hb dX7_strike_85 (by decide) (fun _ => ?_) (fun c9 => absurd (by decide) c9)
                  refine lv_iconst (v := nI 1) hx hb dX7_strike_93 (by decide) ?_
                  refine lv_imul hx hb dX7_strike_94 ?_
                  refine q_top (y := nI ((blN (ctWks w (w 2 + m) (w 4)) k1) * 1)) (pk_mul _ _) ?_
                  refine lv_istore (lv' := [(6, .int (nI ((blN (ctWks w (w 2 + m) (w 4)) k1) * 1))), (0, .ref m0), (1, .int (nI m)), (2, .int (nI k)), (3, .int (nI u)), (4, .int (nI (ctWks w (w 2 + m) (w 4)))), (5, .int (nI 0)), (7, .int (nI k1))]) hx hb dX7_strike_95 hl (by decide) rfl (fun ls hl => ?_)
                  refine lv_iinc (v := nI (k1 + 1)) (lv' := [(7, .int (nI (k1 + 1))), (6, .int (nI ((blN (ctWks w (w 2 + m) (w 4)) k1) * 1))), (0, .ref m0), (1, .int (nI m)), (2, .int (nI k)), (3, .int (nI u)), (4, .int (nI (ctWks w (w 2 + m) (w 4)))), (5, .int (nI 0))]) hx hb dX7_strike_97 hl (k := 7) rfl (q_inc k1 1) (by decide) rfl (fun ls hl => ?_)
                  refine lv_goto (tgt := 65) hx hb dX7_strike_100 (by decide) ?_
                  exact ih65 (k1 + 1) (by omega) (by omega) ls (q_lset (lv_sub (l' := [(0, .ref m0), (1, .int (nI m)), (2, .int (nI k)), (3, .int (nI u)), (4, .int (nI (ctWks w (w 2 + m) (w 4)))), (5, .int (nI 0)), (6, .int (nI ((blN (ctWks w (w 2 + m) (w 4)) k1) * 1))), (7, .int (nI (k1 + 1)))]) hl [2, 3, 4, 5, 6, 7, 1, 0] rfl) (q_c1 (f := fun z6 => ([(0, .ref m0), (1, .int (nI m)), (2, .int (nI k)), (3, .int (nI u)), (4, .int (nI (ctWks w (w 2 + m) (w 4)))), (5, .int (nI 0)), (6, .int (z6)), (7, .int (nI (k1 + 1)))] : List (Nat × Value))) (show (nI ((blN (ctWks w (w 2 + m) (w 4)) k1) * 1) : Int32) = nI (blN (ctWks w (w 2 + m) (w 4)) (k1 + 1)) from (congrArg nI (blN_n b34)).symm)))
          exact L65_49 ((w 4) + 1) 0 (by omega) (by omega) ls (q_lset (lv_sub (l' := [(0, .ref m0), (1, .int (nI m)), (2, .int (nI k)), (3, .int (nI u)), (4, .int (nI (ctWks w ((w 2) + m) (w 4)))), (5, .int (nI 0)), (6, .int (nI 1)), (7, .int (nI 0))]) hl [4, 5, 6, 7, 3, 2, 1, 0] rfl) (q_c2 (f := fun z4 z6 => ([(0, .ref m0), (1, .int (nI m)), (2, .int (nI k)), (3, .int (nI u)), (4, .int (z4)), (5, .int (nI 0)), (6, .int (z6)), (7, .int (nI 0))] : List (Nat × Value))) (show (nI (ctWks w ((w 2) + m) (w 4)) : Int32) = nI (ctWks w (w 2 + m) (w 4)) from rfl) (show (nI 1 : Int32) = nI (blN (ctWks w (w 2 + m) (w 4)) 0) from rfl)))
        · have _ := b8
          refine lv_if_ne (tgt := 39) hx hb dX7_strike_33 (by decide) (fun c9 => absurd (by decide) c9) (fun _ => ?_)
          refine lv_ldc (v := (-1000001)) hx hb hown (hts _ mX7_strike_2) dX7_strike_36 ?_
          exact q_iret (v := (-1000001)) hx hb hr hlocks dX7_strike_38 ((by simp only [oStrike, if_pos b2, if_pos b4, if_pos b6, if_neg b8]))
      · have _ := b6
        refine lv_if_eq (tgt := 36) hx hb dX7_strike_24 (by decide) (fun _ => ?_) (fun c9 => absurd (by decide) c9)
        refine lv_ldc (v := (-1000001)) hx hb hown (hts _ mX7_strike_2) dX7_strike_36 ?_
        exact q_iret (v := (-1000001)) hx hb hr hlocks dX7_strike_38 ((by simp only [oStrike, if_pos b2, if_pos b4, if_neg b6]))
    · have _ := b4
      refine lv_if_eq (tgt := 36) hx hb dX7_strike_14 (by decide) (fun _ => ?_) (fun c9 => absurd (by decide) c9)
      refine lv_ldc (v := (-1000001)) hx hb hown (hts _ mX7_strike_2) dX7_strike_36 ?_
      exact q_iret (v := (-1000001)) hx hb hr hlocks dX7_strike_38 ((by simp only [oStrike, if_pos b2, if_neg b4]))
  · have _ := b2
    refine lv_if_ne (tgt := 10) hx hb dX7_strike_4 (by decide) (fun c9 => absurd (by decide) c9) (fun _ => ?_)
    refine lv_ldc (v := (-1000002)) hx hb hown (hts _ mX7_strike_3) dX7_strike_7 ?_
    exact q_iret (v := (-1000002)) hx hb hr hlocks dX7_strike_9 ((by simp only [oStrike, if_neg b2]))
theorem nX7_sureDays_0 : ∀ w ∈ wsX70, w ∈ wsX7_sureDays := by decide +kernel
theorem mX7_sureDays_1 : Cond.fieldLink RX7 31 "ClueLeaveModel" "tried" "[I" ∈ wsX7_sureDays := by decide +kernel
set_option maxHeartbeats 4000000 in
set_option maxRecDepth 100000 in
theorem c_X7_sureDays (l : Launch) (D : va_G) (cy : Nat → ClassId) (m0 ml mm mit ms mt nw dr tr pa ig kx be tc : Nat) (st fk fp av sv ov vv : Int32) (tn ac td : Nat) (gt : Nat → Int32) (w : Nat → Nat) (hmt : mwIs w gt) (hv : ctOk w) (n : Nat) (hn : n ≤ 14) : q_Rd l yX7_sureDays wsX7_sureDays 5 D cy [(m0, .inr (7, [.ref ml, .ref mm, .ref mit, .ref ms, .int (st), .ref mt, .int (nI tn), .int (fk), .int (fp), .int (av), .int (sv), .int (ov), .int (vv), .ref nw, .ref dr, .ref tr, .ref pa, .int (nI ac), .ref ig, .ref kx, .ref be, .ref tc, .int (nI td)])), (tr, .inl (cy 0, 29, .inl gt))] [.ref m0, .int (nI n)] (fun r => r = nI (sdN w n)) := by
  refine q_rd_of (cc := cX7_sureDays) (maxL := 4) (ret := (some .int)) (by decide) rfl (Nat.le_of_ble_eq_true rfl) ?_
  intro pg en s mi args below meth cd hC hP hK ls hl
  obtain ⟨hx, hb, hr, hml, hown, hts, hlocks⟩ := hC
  have hl : lv_has ls 4 [(0, .ref m0), (1, .int (nI n))] := hl
  obtain ⟨hv0, hv1, hv2, hv3, hv4, hvc⟩ := id hv
  refine lv_iconst (v := nI 0) hx hb dX7_sureDays_0 (by decide) ?_
  refine lv_istore_n (lv' := [(2, .int (nI 0)), (0, .ref m0), (1, .int (nI n))]) hx hb dX7_sureDays_1 rfl hl (by decide) rfl (fun ls hl => ?_)
  refine lv_iconst (v := nI 0) hx hb dX7_sureDays_2 (by decide) ?_
  refine lv_istore_n (lv' := [(3, .int (nI 0)), (2, .int (nI 0)), (0, .ref m0), (1, .int (nI n))]) hx hb dX7_sureDays_3 rfl hl (by decide) rfl (fun ls hl => ?_)
  have L4_7 : ∀ (fu d : Nat), d ≤ n → n < d + fu → ∀ ls : Array Slot, lv_has ls 4 [(0, .ref m0), (1, .int (nI n)), (2, .int (nI (sdN w d))), (3, .int (nI d))] → W pg l en (q_rm 5) s mi args below meth cd s.heap [] 0 0 (MQ below (vp_Si (fun r => r = nI (sdN w n))) args s 0 0 (fun _ => False)) (F0 mi 4 ls []) := by
    intro fu
    induction fu with
    | zero =>
      intro d h1 h2
      exact absurd h2 (by omega)
    | succ fu ih4 =>
      intro d h1_4 h2_4 ls hl
      refine lv_iload_n hx hb dX7_sureDays_4 rfl (lv_at hl 3 rfl) ?_
      refine lv_iload_n hx hb dX7_sureDays_5 rfl (lv_at hl 1 rfl) ?_
      refine q_icmp_ge (tgt := 45) hx hb dX7_sureDays_6 (by decide) (by omega) (by omega) (fun c1 => ?_) (fun c1 => ?_)
      · refine lv_iload_n hx hb dX7_sureDays_45 rfl (lv_at hl 2 rfl) ?_
        exact q_iret (v := nI (sdN w d)) hx hb hr hlocks dX7_sureDays_46 (by rw [show d = n by omega])
      · refine lv_iload_n hx hb dX7_sureDays_9 rfl (lv_at hl 2 rfl) ?_
        refine lv_aload_n hx hb dX7_sureDays_10 rfl (lv_at hl 0 rfl) ?_
        refine va_get (D := D) (ci := 7) (v := .ref tr) (C := RX7) (T := TX7) (N := 23) hx hb hts nX7_sureDays_0 hown hK.1 hP 0 rfl rfl 15 (by decide) (hts _ mX7_sureDays_1) (fun _ h9 => h9) rfl dX7_sureDays_11 ?_
        refine lv_aload_n hx hb dX7_sureDays_14 rfl (lv_at hl 0 rfl) ?_
        refine va_get (D := D) (ci := 7) (v := .ref tr) (C := RX7) (T := TX7) (N := 23) hx hb hts nX7_sureDays_0 hown hK.1 hP 0 rfl rfl 15 (by decide) (hts _ mX7_sureDays_1) (fun _ h9 => h9) rfl dX7_sureDays_15 ?_
        refine lv_iconst (v := nI 2) hx hb dX7_sureDays_18 (by decide) ?_
        refine q_iald (j := 2) (v := nI (w 2)) hx hb hK hP 1 rfl (by omega) (by decide) (hmt _ (by omega)) dX7_sureDays_19 ?_
        refine lv_iload_n hx hb dX7_sureDays_20 rfl (lv_at hl 3 rfl) ?_
        refine lv_iadd hx hb dX7_sureDays_21 ?_
        refine q_top (y := nI ((w 2) + d)) (nI_add _ _) ?_
        refine q_rS (As := [.ref tr, .int (nI ((w 2) + d))]) (rest := [.int (nI (sdN w d))]) ⟨hx, hb, hml, hown, hts⟩ (c_X7_leftOn l D cy tr gt w hmt hv ((w 2) + d) (by omega)) (va_cwS 2 hts gX7_sureDays_X7_leftOn rfl rfl rfl (by decide +kernel) ⟨Nat.le_of_ble_eq_true rfl, Nat.le_of_ble_eq_true rfl⟩) hP hK [1] rfl rfl hl.1 rfl (Nat.le_of_ble_eq_true rfl) dX7_sureDays_22 ⟨Nat.zero_le _, Nat.zero_le _⟩ (fun r2 hr2 => ?_)
        obtain rfl := hr2
        have hll := ctLeft_lt hv0 (w 2 + d)
        refine q_rS (As := [.int (nI (ctLeft w ((w 2) + d)))]) (rest := [.int (nI (sdN w d))]) ⟨hx, hb, hml, hown, hts⟩ (c_X7_ones l D cy (ctLeft w ((w 2) + d)) (by omega)) (va_cwS 1 hts gX7_sureDays_X7_ones rfl rfl rfl (by decide +kernel) ⟨Nat.le_of_ble_eq_true rfl, Nat.le_of_ble_eq_true rfl⟩) hP hK [] rfl rfl hl.1 rfl (Nat.le_of_ble_eq_true rfl) dX7_sureDays_25 ⟨Nat.zero_le _, Nat.zero_le _⟩ (fun r3 hr3 => ?_)
        obtain rfl := hr3
        have hbl := bc_lt (ctLeft w (w 2 + d)) (by omega)
        refine lv_iconst (v := nI 1) hx hb dX7_sureDays_28 (by decide) ?_
        refine q_icmp_ne (tgt := 36) hx hb dX7_sureDays_29 (by decide) (by omega) (by decide) (fun c4 => ?_) (fun c4 => ?_)
        · refine lv_iconst (v := nI 0) hx hb dX7_sureDays_36 (by decide) ?_
          refine lv_iadd hx hb dX7_sureDays_37 ?_
          refine q_top (y := nI ((sdN w d) + 0)) (nI_add _ _) ?_
          refine lv_istore_n (lv' := [(2, .int (nI ((sdN w d) + 0))), (0, .ref m0), (1, .int (nI n)), (3, .int (nI d))]) hx hb dX7_sureDays_38 rfl hl (by decide) rfl (fun ls hl => ?_)
          refine lv_iinc (v := nI (d + 1)) (lv' := [(3, .int (nI (d + 1))), (2, .int (nI ((sdN w d) + 0))), (0, .ref m0), (1, .int (nI n))]) hx hb dX7_sureDays_39 hl (k := 3) rfl (q_inc d 1) (by decide) rfl (fun ls hl => ?_)
          refine lv_goto (tgt := 4) hx hb dX7_sureDays_42 (by decide) ?_
          exact ih4 (d + 1) (by omega) (by omega) ls (q_lset (lv_sub (l' := [(0, .ref m0), (1, .int (nI n)), (2, .int (nI ((sdN w d) + 0))), (3, .int (nI (d + 1)))]) hl [2, 3, 1, 0] rfl) (q_c1 (f := fun z2 => ([(0, .ref m0), (1, .int (nI n)), (2, .int (z2)), (3, .int (nI (d + 1)))] : List (Nat × Value))) (show (nI ((sdN w d) + 0) : Int32) = nI (sdN w (d + 1)) from (congrArg nI (sdN_n c4)).symm)))
        · refine lv_iconst (v := nI 1) hx hb dX7_sureDays_32 (by decide) ?_
          refine lv_goto (tgt := 37) hx hb dX7_sureDays_33 (by decide) ?_
          refine lv_iadd hx hb dX7_sureDays_37 ?_
          refine q_top (y := nI ((sdN w d) + 1)) (nI_add _ _) ?_
          refine lv_istore_n (lv' := [(2, .int (nI ((sdN w d) + 1))), (0, .ref m0), (1, .int (nI n)), (3, .int (nI d))]) hx hb dX7_sureDays_38 rfl hl (by decide) rfl (fun ls hl => ?_)
          refine lv_iinc (v := nI (d + 1)) (lv' := [(3, .int (nI (d + 1))), (2, .int (nI ((sdN w d) + 1))), (0, .ref m0), (1, .int (nI n))]) hx hb dX7_sureDays_39 hl (k := 3) rfl (q_inc d 1) (by decide) rfl (fun ls hl => ?_)
          refine lv_goto (tgt := 4) hx hb dX7_sureDays_42 (by decide) ?_
          exact ih4 (d + 1) (by omega) (by omega) ls (q_lset (lv_sub (l' := [(0, .ref m0), (1, .int (nI n)), (2, .int (nI ((sdN w d) + 1))), (3, .int (nI (d + 1)))]) hl [2, 3, 1, 0] rfl) (q_c1 (f := fun z2 => ([(0, .ref m0), (1, .int (nI n)), (2, .int (z2)), (3, .int (nI (d + 1)))] : List (Nat × Value))) (show (nI ((sdN w d) + 1) : Int32) = nI (sdN w (d + 1)) from (congrArg nI (sdN_y c4)).symm)))
  exact L4_7 (n + 1) 0 (by omega) (by omega) ls (q_lset (lv_sub (l' := [(0, .ref m0), (1, .int (nI n)), (2, .int (nI 0)), (3, .int (nI 0))]) hl [2, 3, 1, 0] rfl) (q_c1 (f := fun z2 => ([(0, .ref m0), (1, .int (nI n)), (2, .int (z2)), (3, .int (nI 0))] : List (Nat × Value))) (show (nI 0 : Int32) = nI (sdN w 0) from rfl)))
theorem nX7_counts_0 : ∀ w ∈ wsX70, w ∈ wsX7_counts := by decide +kernel
theorem mX7_counts_1 : Cond.fieldLink RX7 31 "ClueLeaveModel" "tried" "[I" ∈ wsX7_counts := by decide +kernel
set_option maxHeartbeats 4000000 in
set_option maxRecDepth 100000 in
theorem c_X7_counts (l : Launch) (D : va_G) (cy : Nat → ClassId) (m0 ml mm mit ms mt nw dr tr pa ig kx be tc : Nat) (st fk fp av sv ov vv : Int32) (tn ac td : Nat) (gt : Nat → Int32) (w : Nat → Nat) (o : Nat → Nat) (hmt : mwIs (offC w (w 4) o) gt) (hv : ctOk w) (ho : ∀ c, c < w 4 → o c < ctE w c) : q_Wi l yX7_counts wsX7_counts 1 D cy [(m0, .inr (7, [.ref ml, .ref mm, .ref mit, .ref ms, .int (st), .ref mt, .int (nI tn), .int (fk), .int (fp), .int (av), .int (sv), .int (ov), .int (vv), .ref nw, .ref dr, .ref tr, .ref pa, .int (nI ac), .ref ig, .ref kx, .ref be, .ref tc, .int (nI td)])), (tr, .inl (cy 0, 29, .inl gt))] [.ref m0] (fun r u => (∃ (c : Nat) (o2 : Nat → Nat) (gt2 : Nat → Int32), otN (ctE w) (w 4) o = some (o2, c) ∧ mwIs (offC w (w 4) o2) gt2 ∧ r = nI 1 ∧ u = [(m0, .inr (7, [.ref ml, .ref mm, .ref mit, .ref ms, .int (st), .ref mt, .int (nI tn), .int (fk), .int (fp), .int (av), .int (sv), .int (ov), .int (vv), .ref nw, .ref dr, .ref tr, .ref pa, .int (nI ac), .ref ig, .ref kx, .ref be, .ref tc, .int (nI td)])), (tr, .inl (cy 0, 29, .inl gt2))]) ∨ (∃ gt2 : Nat → Int32, otN (ctE w) (w 4) o = none ∧ r = nI 0 ∧ u = [(m0, .inr (7, [.ref ml, .ref mm, .ref mit, .ref ms, .int (st), .ref mt, .int (nI tn), .int (fk), .int (fp), .int (av), .int (sv), .int (ov), .int (vv), .ref nw, .ref dr, .ref tr, .ref pa, .int (nI ac), .ref ig, .ref kx, .ref be, .ref tc, .int (nI td)])), (tr, .inl (cy 0, 29, .inl gt2))])) := by
  refine q_wi_of (cc := cX7_counts) (maxL := 3) (ret := (some .boolean)) (by decide) rfl (Nat.le_of_ble_eq_true rfl) ?_
  intro pg en s mi args below meth cd A hC hA hK H locs hP hD hS ls hl
  obtain ⟨hx, hb, hr, hml, hown, hts, hlocks⟩ := hC
  have hl : lv_has ls 3 [(0, .ref m0)] := hl
  obtain ⟨hv0, hv1, hv2, hv3, hv4, hvc⟩ := id hv
  refine lv_aload_n hx hb dX7_counts_0 rfl (lv_at hl 0 rfl) ?_
  refine va_get (D := D) (ci := 7) (v := .ref tr) (C := RX7) (T := TX7) (N := 23) hx hb hts nX7_counts_0 hown hK.1 hP 0 rfl rfl 15 (by decide) (hts _ mX7_counts_1) (fun _ h9 => h9) rfl dX7_counts_1 ?_
  refine lv_iconst (v := nI 4) hx hb dX7_counts_4 (by decide) ?_
  refine q_iald (j := 4) (v := nI ((offC w (w 4) o) 4)) hx hb hK hP 1 rfl (by omega) (by decide) (hmt _ (by omega)) dX7_counts_5 ?_
  refine q_top (y := nI (w 4)) (congrArg nI (offC_lo (by decide))) ?_
  refine lv_iconst (v := nI 1) hx hb dX7_counts_6 (by decide) ?_
  refine lv_isub hx hb dX7_counts_7 ?_
  refine lv_istore_n (lv' := [(1, .int ((nI (w 4)) - (nI 1))), (0, .ref m0)]) hx hb dX7_counts_8 rfl hl (by decide) rfl (fun ls hl => ?_)
  have L9_11 : ∀ (fu i : Nat), i ≤ w 4 → w 4 < i + fu → ∀ (o1 : Nat → Nat), ∀ (g1 : Nat → Int32), otN (ctE w) (w 4 - i) o1 = otN (ctE w) (w 4) o → mwIs (offC w (w 4) o1) g1 → (∀ c, c < w 4 → o1 c < ctE w c) → ∀ (H : Heap) (locs : List Loc), va_P D vwCl [(m0, .inr (7, [.ref ml, .ref mm, .ref mit, .ref ms, .int (st), .ref mt, .int (nI tn), .int (fk), .int (fp), .int (av), .int (sv), .int (ov), .int (vv), .ref nw, .ref dr, .ref tr, .ref pa, .int (nI ac), .ref ig, .ref kx, .ref be, .ref tc, .int (nI td)])), (tr, .inl (cy 0, 29, .inl g1))] H → va_D A [(m0, .inr (7, [.ref ml, .ref mm, .ref mit, .ref ms, .int (st), .ref mt, .int (nI tn), .int (fk), .int (fp), .int (av), .int (sv), .int (ov), .int (vv), .ref nw, .ref dr, .ref tr, .ref pa, .int (nI ac), .ref ig, .ref kx, .ref be, .ref tc, .int (nI td)])), (tr, .inl (cy 0, 29, .inl g1))] → va_S A s.heap H locs → ∀ ls : Array Slot, lv_has ls 3 [(0, .ref m0), (1, .int (nI (w 4 - i) - nI 1))] → W pg l en (q_rm 1) s mi args below meth cd H locs 0 0 (MQ below (va_Qi (fun r u => (∃ (c : Nat) (o2 : Nat → Nat) (gt2 : Nat → Int32), otN (ctE w) (w 4) o = some (o2, c) ∧ mwIs (offC w (w 4) o2) gt2 ∧ r = nI 1 ∧ u = [(m0, .inr (7, [.ref ml, .ref mm, .ref mit, .ref ms, .int (st), .ref mt, .int (nI tn), .int (fk), .int (fp), .int (av), .int (sv), .int (ov), .int (vv), .ref nw, .ref dr, .ref tr, .ref pa, .int (nI ac), .ref ig, .ref kx, .ref be, .ref tc, .int (nI td)])), (tr, .inl (cy 0, 29, .inl gt2))]) ∨ (∃ gt2 : Nat → Int32, otN (ctE w) (w 4) o = none ∧ r = nI 0 ∧ u = [(m0, .inr (7, [.ref ml, .ref mm, .ref mit, .ref ms, .int (st), .ref mt, .int (nI tn), .int (fk), .int (fp), .int (av), .int (sv), .int (ov), .int (vv), .ref nw, .ref dr, .ref tr, .ref pa, .int (nI ac), .ref ig, .ref kx, .ref be, .ref tc, .int (nI td)])), (tr, .inl (cy 0, 29, .inl gt2))])) (fun (u : va_W) t => va_P D vwCl u t.heap ∧ va_D A u) A) args s 0 0 A) (F0 mi 9 ls []) := by
    intro fu
    induction fu with
    | zero =>
      intro i h1 h2
      exact absurd h2 (by omega)
    | succ fu ih9 =>
      intro i h1_9 h2_9 o1 g1 hf9_0 hf9_1 hf9_2 H locs hP hD hS ls hl
      refine lv_iload_n hx hb dX7_counts_9 rfl (lv_at hl 1 rfl) ?_
      refine lv_if_lt (tgt := 67) hx hb dX7_counts_10 (by decide) (fun c1 => ?_) (fun c1 => ?_)
      · refine lv_iconst (v := nI 0) hx hb dX7_counts_67 (by decide) ?_
        have hP9 := hP
        have hD9 := hD
        exact q_wzret (v := nI 0) hx hb hr hlocks dX7_counts_68 (by decide) hP9 hD9 hS (Or.inr ⟨_, hf9_0.symm.trans (by rw [show w 4 - i = 0 from q_dn0 hv4 c1]; rfl), rfl, rfl⟩)
      · have hi4 : i < w 4 := q_dn hv4 h1_9 c1
        have hl : lv_has ls 3 [(0, .ref m0), (1, .int (nI (w 4 - i - 1)))] := q_lset hl (q_c1 (f := fun z9 => ([(0, .ref m0), (1, .int (z9))] : List (Nat × Value))) (pk_sub (by omega)))
        obtain ⟨hk1, hk5, ht1, ht2, he2, he4, ho1⟩ := hvc (w 4 - i - 1) (by omega); have hol := hf9_2 (w 4 - i - 1) (by omega)
        refine lv_iconst (v := nI 5) hx hb dX7_counts_13 (by decide) ?_
        refine lv_iconst (v := nI 4) hx hb dX7_counts_14 (by decide) ?_
        refine lv_iload_n hx hb dX7_counts_15 rfl (lv_at hl 1 rfl) ?_
        refine lv_imul hx hb dX7_counts_16 ?_
        refine q_top (y := nI (4 * (w 4 - i - 1))) (pk_mul _ _) ?_
        refine lv_iadd hx hb dX7_counts_17 ?_
        refine q_top (y := nI (5 + (4 * (w 4 - i - 1)))) (nI_add _ _) ?_
        refine lv_istore_n (lv' := [(2, .int (nI (5 + (4 * (w 4 - i - 1))))), (0, .ref m0), (1, .int (nI (w 4 - i - 1)))]) hx hb dX7_counts_18 rfl hl (by decide) rfl (fun ls hl => ?_)
        refine lv_aload_n hx hb dX7_counts_19 rfl (lv_at hl 1 rfl) ?_
        refine va_get (D := D) (ci := 7) (v := .ref tr) (C := RX7) (T := TX7) (N := 23) hx hb hts nX7_counts_0 hown hK.1 hP 0 rfl rfl 15 (by decide) (hts _ mX7_counts_1) (fun _ h9 => h9) rfl dX7_counts_20 ?_
        refine lv_iload_n hx hb dX7_counts_23 rfl (lv_at hl 0 rfl) ?_
        refine lv_iconst (v := nI 3) hx hb dX7_counts_24 (by decide) ?_
        refine lv_iadd hx hb dX7_counts_25 ?_
        refine q_top (y := nI ((5 + (4 * (w 4 - i - 1))) + 3)) (nI_add _ _) ?_
        refine lv_dup2_11 hx hb dX7_counts_26 rfl rfl ?_
        refine q_iald (j := ((5 + (4 * (w 4 - i - 1))) + 3)) (v := nI ((offC w (w 4) o1) ((5 + (4 * (w 4 - i - 1))) + 3))) hx hb hK hP 1 rfl (by omega) (by decide) (hf9_1 _ (by omega)) dX7_counts_27 ?_
        refine q_top (y := nI (o1 (w 4 - i - 1))) (congrArg nI (offC_o (by omega))) ?_
        refine lv_iconst (v := nI 1) hx hb dX7_counts_28 (by decide) ?_
        refine lv_iadd hx hb dX7_counts_29 ?_
        refine q_top (y := nI ((o1 (w 4 - i - 1)) + 1)) (nI_add _ _) ?_
        refine q_iast (j := ((5 + (4 * (w 4 - i - 1))) + 3)) hx hb hK hP hD hS 1 rfl (by omega) (by decide) dX7_counts_30 (fun H locs hP hD hS => ?_)
        have hP : va_P D vwCl [(m0, .inr (7, [.ref ml, .ref mm, .ref mit, .ref ms, .int (st), .ref mt, .int (nI tn), .int (fk), .int (fp), .int (av), .int (sv), .int (ov), .int (vv), .ref nw, .ref dr, .ref tr, .ref pa, .int (nI ac), .ref ig, .ref kx, .ref be, .ref tc, .int (nI td)])), (tr, .inl (cy 0, 29, .inl (upd g1 ((5 + (4 * (w 4 - i - 1))) + 3) (nI ((o1 (w 4 - i - 1)) + 1)))))] H := hP
        have hD : va_D A [(m0, .inr (7, [.ref ml, .ref mm, .ref mit, .ref ms, .int (st), .ref mt, .int (nI tn), .int (fk), .int (fp), .int (av), .int (sv), .int (ov), .int (vv), .ref nw, .ref dr, .ref tr, .ref pa, .int (nI ac), .ref ig, .ref kx, .ref be, .ref tc, .int (nI td)])), (tr, .inl (cy 0, 29, .inl (upd g1 ((5 + (4 * (w 4 - i - 1))) + 3) (nI ((o1 (w 4 - i - 1)) + 1)))))] := hD
        refine lv_aload_n hx hb dX7_counts_31 rfl (lv_at hl 1 rfl) ?_
        refine va_get (D := D) (ci := 7) (v := .ref tr) (C := RX7) (T := TX7) (N := 23) hx hb hts nX7_counts_0 hown hK.1 hP 0 rfl rfl 15 (by decide) (hts _ mX7_counts_1) (fun _ h9 => h9) rfl dX7_counts_32 ?_
        refine lv_iload_n hx hb dX7_counts_35 rfl (lv_at hl 0 rfl) ?_
        refine lv_iconst (v := nI 3) hx hb dX7_counts_36 (by decide) ?_
        refine lv_iadd hx hb dX7_counts_37 ?_
        refine q_top (y := nI ((5 + (4 * (w 4 - i - 1))) + 3)) (nI_add _ _) ?_
        refine q_iald (j := ((5 + (4 * (w 4 - i - 1))) + 3)) (v := (upd g1 ((5 + (4 * (w 4 - i - 1))) + 3) (nI ((o1 (w 4 - i - 1)) + 1))) ((5 + (4 * (w 4 - i - 1))) + 3)) hx hb hK hP 1 rfl (by omega) (by decide) (rfl) dX7_counts_38 ?_
        refine q_top (y := nI (o1 (w 4 - i - 1) + 1)) (by rw [pk_us]) ?_
        refine lv_aload_n hx hb dX7_counts_39 rfl (lv_at hl 1 rfl) ?_
        refine va_get (D := D) (ci := 7) (v := .ref tr) (C := RX7) (T := TX7) (N := 23) hx hb hts nX7_counts_0 hown hK.1 hP 0 rfl rfl 15 (by decide) (hts _ mX7_counts_1) (fun _ h9 => h9) rfl dX7_counts_40 ?_
        refine lv_iload_n hx hb dX7_counts_43 rfl (lv_at hl 0 rfl) ?_
        refine lv_iconst (v := nI 2) hx hb dX7_counts_44 (by decide) ?_
        refine lv_iadd hx hb dX7_counts_45 ?_
        refine q_top (y := nI ((5 + (4 * (w 4 - i - 1))) + 2)) (nI_add _ _) ?_
        refine q_iald (j := ((5 + (4 * (w 4 - i - 1))) + 2)) (v := (upd g1 ((5 + (4 * (w 4 - i - 1))) + 3) (nI ((o1 (w 4 - i - 1)) + 1))) ((5 + (4 * (w 4 - i - 1))) + 2)) hx hb hK hP 1 rfl (by omega) (by decide) (rfl) dX7_counts_46 ?_
        refine q_top (y := nI (ctE w (w 4 - i - 1))) (by rw [pk_un (by omega), hf9_1 _ (by omega), offC_e]) ?_
        refine q_icmp_ge (tgt := 52) hx hb dX7_counts_47 (by decide) (by omega) (by omega) (fun c2 => ?_) (fun c2 => ?_)
        · have hlt2 : ¬ o1 (w 4 - i - 1) + 1 < ctE w (w 4 - i - 1) := by omega
          refine lv_aload_n hx hb dX7_counts_52 rfl (lv_at hl 1 rfl) ?_
          refine va_get (D := D) (ci := 7) (v := .ref tr) (C := RX7) (T := TX7) (N := 23) hx hb hts nX7_counts_0 hown hK.1 hP 0 rfl rfl 15 (by decide) (hts _ mX7_counts_1) (fun _ h9 => h9) rfl dX7_counts_53 ?_
          refine lv_iload_n hx hb dX7_counts_56 rfl (lv_at hl 0 rfl) ?_
          refine lv_iconst (v := nI 3) hx hb dX7_counts_57 (by decide) ?_
          refine lv_iadd hx hb dX7_counts_58 ?_
          refine q_top (y := nI ((5 + (4 * (w 4 - i - 1))) + 3)) (nI_add _ _) ?_
          refine lv_iconst (v := nI 0) hx hb dX7_counts_59 (by decide) ?_
          refine q_iast (j := ((5 + (4 * (w 4 - i - 1))) + 3)) hx hb hK hP hD hS 1 rfl (by omega) (by decide) dX7_counts_60 (fun H locs hP hD hS => ?_)
          have hP : va_P D vwCl [(m0, .inr (7, [.ref ml, .ref mm, .ref mit, .ref ms, .int (st), .ref mt, .int (nI tn), .int (fk), .int (fp), .int (av), .int (sv), .int (ov), .int (vv), .ref nw, .ref dr, .ref tr, .ref pa, .int (nI ac), .ref ig, .ref kx, .ref be, .ref tc, .int (nI td)])), (tr, .inl (cy 0, 29, .inl (upd (upd g1 ((5 + (4 * (w 4 - i - 1))) + 3) (nI ((o1 (w 4 - i - 1)) + 1))) ((5 + (4 * (w 4 - i - 1))) + 3) (nI 0))))] H := hP
          have hD : va_D A [(m0, .inr (7, [.ref ml, .ref mm, .ref mit, .ref ms, .int (st), .ref mt, .int (nI tn), .int (fk), .int (fp), .int (av), .int (sv), .int (ov), .int (vv), .ref nw, .ref dr, .ref tr, .ref pa, .int (nI ac), .ref ig, .ref kx, .ref be, .ref tc, .int (nI td)])), (tr, .inl (cy 0, 29, .inl (upd (upd g1 ((5 + (4 * (w 4 - i - 1))) + 3) (nI ((o1 (w 4 - i - 1)) + 1))) ((5 + (4 * (w 4 - i - 1))) + 3) (nI 0))))] := hD
          refine lv_iinc (v := nI (w 4 - i - 1) - nI 1) (lv' := [(1, .int (nI (w 4 - i - 1) - nI 1)), (2, .int (nI (5 + (4 * (w 4 - i - 1))))), (0, .ref m0)]) hx hb dX7_counts_61 hl (k := 2) rfl (q_decR _ _) (by decide) rfl (fun ls hl => ?_)
          refine lv_goto (tgt := 9) hx hb dX7_counts_64 (by decide) ?_
          exact ih9 (i + 1) (by omega) (by omega) (fun z => if z = w 4 - i - 1 then 0 else o1 z) (upd (upd g1 ((5 + (4 * (w 4 - i - 1))) + 3) (nI ((o1 (w 4 - i - 1)) + 1))) ((5 + (4 * (w 4 - i - 1))) + 3) (nI 0)) ((otN_c (by omega) (by omega) hlt2).symm.trans hf9_0) (by rw [upd2]; exact mwIs_off hf9_1 (by omega)) (ot_0 hf9_2 (fun c hc => by have := hvc c hc; omega)) H locs hP hD hS ls (q_lset (lv_sub (l' := [(0, .ref m0), (1, .int (nI (w 4 - i - 1) - nI 1))]) hl [2, 0] rfl) (q_c1 (f := fun z1 => ([(0, .ref m0), (1, .int (z1))] : List (Nat × Value))) (show (nI (w 4 - i - 1) - nI 1 : Int32) = nI (w 4 - (i + 1)) - nI 1 from by rw [Nat.sub_sub])))
        · refine lv_iconst (v := nI 1) hx hb dX7_counts_50 (by decide) ?_
          have hP9 := hP
          have hD9 := hD
          exact q_wzret (v := nI 1) hx hb hr hlocks dX7_counts_51 (by decide) hP9 hD9 hS (Or.inl ⟨_, _, _, hf9_0.symm.trans (otN_s (by omega) (by omega)), mwIs_off hf9_1 (by omega), rfl, rfl⟩)
  exact L9_11 ((w 4) + 1) 0 (by omega) (by omega) o gt rfl hmt ho H locs hP hD hS ls (q_lset (lv_sub (l' := [(0, .ref m0), (1, .int ((nI (w 4)) - (nI 1)))]) hl [1, 0] rfl) (q_c1 (f := fun z1 => ([(0, .ref m0), (1, .int (z1))] : List (Nat × Value))) (show ((nI (w 4)) - (nI 1) : Int32) = nI (w 4 - 0) - nI 1 from rfl)))
theorem nX7_rota_0 : ∀ w ∈ wsX70, w ∈ wsX7_rota := by decide +kernel
theorem mX7_rota_1 : Cond.fieldLink RX7 25 "ClueLeaveModel" "now" "[I" ∈ wsX7_rota := by decide +kernel
theorem mX7_rota_2 : Cond.fieldLink RX7 31 "ClueLeaveModel" "tried" "[I" ∈ wsX7_rota := by decide +kernel
theorem mX7_rota_3 : Cond.constant RX7 50 (-1000000) ∈ wsX7_rota := by decide +kernel
theorem mX7_rota_4 : Cond.fieldLink RX7 44 "ClueLeaveModel" "best" "[I" ∈ wsX7_rota := by decide +kernel
theorem mX7_rota_5 : Cond.constant RX7 64 (-1000001) ∈ wsX7_rota := by decide +kernel
theorem mX7_rota_6 : Cond.constant RX7 163 (-1000002) ∈ wsX7_rota := by decide +kernel
set_option maxHeartbeats 4000000 in
set_option maxRecDepth 100000 in
theorem c_X7_rota (l : Launch) (D : va_G) (cy : Nat → ClassId) (m0 ml mm mit ms mt nw dr tr pa ig kx be tc : Nat) (st fk fp av sv ov vv : Int32) (tn ac td : Nat) (f : Nat → Int32) (w : Nat → Nat) (hm : mwIs w f) (hv : ctOk w) (gt fb : Nat → Int32) (n k : Int32) : q_Wi l yX7_rota wsX7_rota 6 D cy [(m0, .inr (7, [.ref ml, .ref mm, .ref mit, .ref ms, .int (st), .ref mt, .int (nI tn), .int (fk), .int (fp), .int (av), .int (sv), .int (ov), .int (vv), .ref nw, .ref dr, .ref tr, .ref pa, .int (nI ac), .ref ig, .ref kx, .ref be, .ref tc, .int (nI td)])), (nw, .inl (cy 0, 29, .inl f)), (tr, .inl (cy 0, 29, .inl gt)), (be, .inl (cy 0, 6, .inl fb))] [.ref m0, .int (n), .int (k)] (fun r u => ∃ gt2 fb2 : Nat → Int32, r = oRota w n k ∧ u = [(m0, .inr (7, [.ref ml, .ref mm, .ref mit, .ref ms, .int (st), .ref mt, .int (nI tn), .int (fk), .int (fp), .int (av), .int (sv), .int (ov), .int (vv), .ref nw, .ref dr, .ref tr, .ref pa, .int (nI ac), .ref ig, .ref kx, .ref be, .ref tc, .int (nI td)])), (nw, .inl (cy 0, 29, .inl f)), (tr, .inl (cy 0, 29, .inl gt2)), (be, .inl (cy 0, 6, .inl fb2))]) := by
  refine q_wi_of (cc := cX7_rota) (maxL := 7) (ret := (some .int)) (by decide) rfl (Nat.le_of_ble_eq_true rfl) ?_
  intro pg en s mi args below meth cd A hC hA hK H locs hP hD hS ls hl
  obtain ⟨hx, hb, hr, hml, hown, hts, hlocks⟩ := hC
  have hl : lv_has ls 7 [(0, .ref m0), (1, .int (n)), (2, .int (k))] := hl
  obtain ⟨hv0, hv1, hv2, hv3, hv4, hvc⟩ := id hv
  refine lv_aload_n hx hb dX7_rota_0 rfl (lv_at hl 0 rfl) ?_
  refine q_rV (As := []) (rest := []) ⟨hx, hb, hml, hown, hts⟩ (c_X7_isCity l D cy m0 ml mm mit ms mt nw dr tr pa ig kx be tc st fk fp av sv ov vv tn ac td f w hm hv) (cwV 0 hts gX7_rota_X7_isCity rfl rfl rfl (by decide +kernel) ⟨Nat.le_of_ble_eq_true rfl, Nat.le_of_ble_eq_true rfl⟩) hP hK [0, 1] rfl 0 rfl rfl rfl rfl hl.1 rfl (Nat.le_of_ble_eq_true rfl) dX7_rota_1 ⟨Nat.zero_le _, Nat.zero_le _⟩ (fun r1 hr1 => ?_)
  rcases hr1 with ⟨rfl, b2⟩ | ⟨rfl, b2⟩
  · have _ := b2
    refine lv_if_ne (tgt := 10) hx hb dX7_rota_4 (by decide) (fun _ => ?_) (fun c9 => absurd c9 (by decide))
    refine lv_iload_n hx hb dX7_rota_10 rfl (lv_at hl 1 rfl) ?_
    refine lv_iconst (v := nI 1) hx hb dX7_rota_11 (by decide) ?_
    refine lv_bipush (v := nI 14) hx hb dX7_rota_12 (by decide) ?_
    refine q_rS (As := [.int (n), .int (nI 1), .int (nI 14)]) (rest := []) ⟨hx, hb, hml, hown, hts⟩ (c_X7_in l D cy n (nI 1) (nI 14)) (va_cwS 3 hts gX7_rota_X7_in rfl rfl rfl (by decide +kernel) ⟨Nat.le_of_ble_eq_true rfl, Nat.le_of_ble_eq_true rfl⟩) hP hK [] rfl rfl hl.1 rfl (Nat.le_of_ble_eq_true rfl) dX7_rota_14 ⟨Nat.zero_le _, Nat.zero_le _⟩ (fun r3 hr3 => ?_)
    rcases hr3 with ⟨rfl, b4⟩ | ⟨rfl, b4⟩
    · have _ := b4
      refine lv_if_eq (tgt := 29) hx hb dX7_rota_17 (by decide) (fun c9 => absurd c9 (by decide)) (fun _ => ?_)
      obtain ⟨n1, hn1, hn, rfl⟩ := q_rng b4 (by decide) (by decide)
      refine lv_iload_n hx hb dX7_rota_20 rfl (lv_at hl 2 rfl) ?_
      refine lv_iconst (v := (-1)) hx hb dX7_rota_21 (by decide) ?_
      refine lv_iconst (v := nI 5) hx hb dX7_rota_22 (by decide) ?_
      refine q_rS (As := [.int (k), .int ((-1)), .int (nI 5)]) (rest := []) ⟨hx, hb, hml, hown, hts⟩ (c_X7_in l D cy k (-1) (nI 5)) (va_cwS 3 hts gX7_rota_X7_in rfl rfl rfl (by decide +kernel) ⟨Nat.le_of_ble_eq_true rfl, Nat.le_of_ble_eq_true rfl⟩) hP hK [] rfl rfl hl.1 rfl (Nat.le_of_ble_eq_true rfl) dX7_rota_23 ⟨Nat.zero_le _, Nat.zero_le _⟩ (fun r5 hr5 => ?_)
      rcases hr5 with ⟨rfl, b6⟩ | ⟨rfl, b6⟩
      · have _ := b6
        refine lv_if_ne (tgt := 32) hx hb dX7_rota_26 (by decide) (fun _ => ?_) (fun c9 => absurd c9 (by decide))
        have hk2 := b6
        refine lv_aload_n hx hb dX7_rota_32 rfl (lv_at hl 0 rfl) ?_
        refine va_get (D := D) (ci := 7) (v := .ref nw) (C := RX7) (T := TX7) (N := 23) hx hb hts nX7_rota_0 hown hK.1 hP 0 rfl rfl 13 (by decide) (hts _ mX7_rota_1) (fun _ h9 => h9) rfl dX7_rota_33 ?_
        refine lv_iconst (v := nI 0) hx hb dX7_rota_36 (by decide) ?_
        refine lv_aload_n hx hb dX7_rota_37 rfl (lv_at hl 0 rfl) ?_
        refine va_get (D := D) (ci := 7) (v := .ref tr) (C := RX7) (T := TX7) (N := 23) hx hb hts nX7_rota_0 hown hK.1 hP 0 rfl rfl 15 (by decide) (hts _ mX7_rota_2) (fun _ h9 => h9) rfl dX7_rota_38 ?_
        refine lv_iconst (v := nI 0) hx hb dX7_rota_41 (by decide) ?_
        refine q_wvS (As := [.ref nw, .int (nI 0), .ref tr, .int (nI 0)]) (rest := []) (wr := [(m0, .inr (7, [.ref ml, .ref mm, .ref mit, .ref ms, .int (st), .ref mt, .int (nI tn), .int (fk), .int (fp), .int (av), .int (sv), .int (ov), .int (vv), .ref nw, .ref dr, .ref tr, .ref pa, .int (nI ac), .ref ig, .ref kx, .ref be, .ref tc, .int (nI td)])), (be, .inl (cy 0, 6, .inl fb))]) ⟨hx, hb, hml, hown, hts⟩ (c_X7_copies l D cy nw tr 29 29 (by decide) (by decide) f gt 0 0 (by omega) (by omega)) (va_cwS 4 hts gX7_rota_X7_copies rfl rfl rfl (by decide +kernel) ⟨Nat.le_of_ble_eq_true rfl, Nat.le_of_ble_eq_true rfl⟩) hP hD hS hA hK [1, 2] [0, 3] rfl rfl (by decide) rfl (by decide) (by decide) rfl hl.1 rfl (Nat.le_of_ble_eq_true rfl) dX7_rota_42 ⟨Nat.zero_le _, Nat.zero_le _⟩ (fun u8 H locs hr7 hP hD hS => ?_)
        obtain rfl := hr7
        have hP : va_P D vwCl [(m0, .inr (7, [.ref ml, .ref mm, .ref mit, .ref ms, .int (st), .ref mt, .int (nI tn), .int (fk), .int (fp), .int (av), .int (sv), .int (ov), .int (vv), .ref nw, .ref dr, .ref tr, .ref pa, .int (nI ac), .ref ig, .ref kx, .ref be, .ref tc, .int (nI td)])), (be, .inl (cy 0, 6, .inl fb)), (nw, .inl (cy 0, 29, .inl f)), (tr, .inl (cy 0, 29, .inl (va_cpy f gt 0 0 29)))] H := hP
        have hD : va_D A [(m0, .inr (7, [.ref ml, .ref mm, .ref mit, .ref ms, .int (st), .ref mt, .int (nI tn), .int (fk), .int (fp), .int (av), .int (sv), .int (ov), .int (vv), .ref nw, .ref dr, .ref tr, .ref pa, .int (nI ac), .ref ig, .ref kx, .ref be, .ref tc, .int (nI td)])), (be, .inl (cy 0, 6, .inl fb)), (nw, .inl (cy 0, 29, .inl f)), (tr, .inl (cy 0, 29, .inl (va_cpy f gt 0 0 29)))] := hD
        refine lv_iconst (v := nI 0) hx hb dX7_rota_45 (by decide) ?_
        refine lv_istore_n (lv' := [(3, .int (nI 0)), (0, .ref m0), (1, .int (nI n1)), (2, .int (k))]) hx hb dX7_rota_46 rfl hl (by decide) rfl (fun ls hl => ?_)
        have L47_36 : ∀ (fu c1 : Nat), c1 ≤ w 4 → w 4 < c1 + fu → ∀ (ga : Nat → Int32), mwIs (offC w c1 (fun _ => 0)) ga → ∀ (H : Heap) (locs : List Loc), va_P D vwCl [(m0, .inr (7, [.ref ml, .ref mm, .ref mit, .ref ms, .int (st), .ref mt, .int (nI tn), .int (fk), .int (fp), .int (av), .int (sv), .int (ov), .int (vv), .ref nw, .ref dr, .ref tr, .ref pa, .int (nI ac), .ref ig, .ref kx, .ref be, .ref tc, .int (nI td)])), (nw, .inl (cy 0, 29, .inl f)), (tr, .inl (cy 0, 29, .inl ga)), (be, .inl (cy 0, 6, .inl fb))] H → va_D A [(m0, .inr (7, [.ref ml, .ref mm, .ref mit, .ref ms, .int (st), .ref mt, .int (nI tn), .int (fk), .int (fp), .int (av), .int (sv), .int (ov), .int (vv), .ref nw, .ref dr, .ref tr, .ref pa, .int (nI ac), .ref ig, .ref kx, .ref be, .ref tc, .int (nI td)])), (nw, .inl (cy 0, 29, .inl f)), (tr, .inl (cy 0, 29, .inl ga)), (be, .inl (cy 0, 6, .inl fb))] → va_S A s.heap H locs → ∀ ls : Array Slot, lv_has ls 7 [(0, .ref m0), (1, .int (nI n1)), (2, .int (k)), (3, .int (nI c1))] → W pg l en (q_rm 6) s mi args below meth cd H locs 0 0 (MQ below (va_Qi (fun r u => ∃ gt2 fb2 : Nat → Int32, r = oRota w (nI n1) k ∧ u = [(m0, .inr (7, [.ref ml, .ref mm, .ref mit, .ref ms, .int (st), .ref mt, .int (nI tn), .int (fk), .int (fp), .int (av), .int (sv), .int (ov), .int (vv), .ref nw, .ref dr, .ref tr, .ref pa, .int (nI ac), .ref ig, .ref kx, .ref be, .ref tc, .int (nI td)])), (nw, .inl (cy 0, 29, .inl f)), (tr, .inl (cy 0, 29, .inl gt2)), (be, .inl (cy 0, 6, .inl fb2))]) (fun (u : va_W) t => va_P D vwCl u t.heap ∧ va_D A u) A) args s 0 0 A) (F0 mi 47 ls []) := by
          intro fu
          induction fu with
          | zero =>
            intro c1 h1 h2
            exact absurd h2 (by omega)
          | succ fu ih47 =>
            intro c1 h1_47 h2_47 ga hf47_0 H locs hP hD hS ls hl
            refine lv_iload_n hx hb dX7_rota_47 rfl (lv_at hl 3 rfl) ?_
            refine lv_aload_n hx hb dX7_rota_48 rfl (lv_at hl 0 rfl) ?_
            refine va_get (D := D) (ci := 7) (v := .ref nw) (C := RX7) (T := TX7) (N := 23) hx hb hts nX7_rota_0 hown hK.1 hP 0 rfl rfl 13 (by decide) (hts _ mX7_rota_1) (fun _ h9 => h9) rfl dX7_rota_49 ?_
            refine lv_iconst (v := nI 4) hx hb dX7_rota_52 (by decide) ?_
            refine q_iald (j := 4) (v := nI (w 4)) hx hb hK hP 1 rfl (by omega) (by decide) (hm _ (by omega)) dX7_rota_53 ?_
            refine q_icmp_ge (tgt := 76) hx hb dX7_rota_54 (by decide) (by omega) (by omega) (fun c9 => ?_) (fun c9 => ?_)
            · refine lv_ldc (v := (-1000000)) hx hb hown (hts _ mX7_rota_3) dX7_rota_76 ?_
              refine lv_istore_n (lv' := [(3, .int ((-1000000))), (0, .ref m0), (1, .int (nI n1)), (2, .int (k))]) hx hb dX7_rota_78 rfl hl (by decide) rfl (fun ls hl => ?_)
              refine lv_iconst (v := nI 1) hx hb dX7_rota_79 (by decide) ?_
              refine lv_istore (lv' := [(4, .int (nI 1)), (3, .int ((-1000000))), (0, .ref m0), (1, .int (nI n1)), (2, .int (k))]) hx hb dX7_rota_80 hl (by decide) rfl (fun ls hl => ?_)
              refine lv_iload hx hb dX7_rota_82 (lv_at hl 0 rfl) ?_
              refine lv_if_eq (tgt := 162) hx hb dX7_rota_84 (by decide) (fun c9 => absurd c9 (by decide)) (fun _ => ?_)
              have hc4 : c1 = w 4 := by omega
              have L87_57 : ∀ (fu i : Nat), i ≤ 4096 → 4096 < i + fu → ∀ (o : Nat → Nat), ∀ (M1 : Nat), ∀ (b : Nat → Nat), ∀ (ga : Nat → Int32), ∀ (gb : Nat → Int32), mwIs (offC w (w 4) o) ga → (∀ c, c < w 4 → o c < ctE w c) → i ≤ rk o (w 4) → roGo w n1 (4096 - i) o M1 b = roGo w n1 4096 (fun _ => 0) 0 (fun _ => 0) → (0 < M1 → ∀ c, c < w 4 → gb c = nI (b c)) → M1 ≤ 15 → ∀ (H : Heap) (locs : List Loc), va_P D vwCl [(m0, .inr (7, [.ref ml, .ref mm, .ref mit, .ref ms, .int (st), .ref mt, .int (nI tn), .int (fk), .int (fp), .int (av), .int (sv), .int (ov), .int (vv), .ref nw, .ref dr, .ref tr, .ref pa, .int (nI ac), .ref ig, .ref kx, .ref be, .ref tc, .int (nI td)])), (nw, .inl (cy 0, 29, .inl f)), (tr, .inl (cy 0, 29, .inl ga)), (be, .inl (cy 0, 6, .inl gb))] H → va_D A [(m0, .inr (7, [.ref ml, .ref mm, .ref mit, .ref ms, .int (st), .ref mt, .int (nI tn), .int (fk), .int (fp), .int (av), .int (sv), .int (ov), .int (vv), .ref nw, .ref dr, .ref tr, .ref pa, .int (nI ac), .ref ig, .ref kx, .ref be, .ref tc, .int (nI td)])), (nw, .inl (cy 0, 29, .inl f)), (tr, .inl (cy 0, 29, .inl ga)), (be, .inl (cy 0, 6, .inl gb))] → va_S A s.heap H locs → ∀ ls : Array Slot, lv_has ls 7 [(0, .ref m0), (1, .int (nI n1)), (2, .int (k)), (3, .int (moM M1))] → W pg l en (q_rm 6) s mi args below meth cd H locs 0 0 (MQ below (va_Qi (fun r u => ∃ gt2 fb2 : Nat → Int32, r = oRota w (nI n1) k ∧ u = [(m0, .inr (7, [.ref ml, .ref mm, .ref mit, .ref ms, .int (st), .ref mt, .int (nI tn), .int (fk), .int (fp), .int (av), .int (sv), .int (ov), .int (vv), .ref nw, .ref dr, .ref tr, .ref pa, .int (nI ac), .ref ig, .ref kx, .ref be, .ref tc, .int (nI td)])), (nw, .inl (cy 0, 29, .inl f)), (tr, .inl (cy 0, 29, .inl gt2)), (be, .inl (cy 0, 6, .inl fb2))]) (fun (u : va_W) t => va_P D vwCl u t.heap ∧ va_D A u) A) args s 0 0 A) (F0 mi 87 ls []) := by
                intro fu
                induction fu with
                | zero =>
                  intro i h1 h2
                  exact absurd h2 (by omega)
                | succ fu ih87 =>
                  intro i h1_87 h2_87 o M1 b ga gb hf87_0 hf87_1 hf87_2 hf87_3 hf87_4 hf87_5 H locs hP hD hS ls hl
                  have hrk := rk_46 hv4 (fun c hc => by have := hvc c hc; have := hf87_1 c hc; omega : ∀ c, c < w 4 → o c < 4)
                  refine lv_aload_n hx hb dX7_rota_87 rfl (lv_at hl 0 rfl) ?_
                  refine lv_iload_n hx hb dX7_rota_88 rfl (lv_at hl 1 rfl) ?_
                  refine q_rV (As := [.int (nI n1)]) (rest := []) ⟨hx, hb, hml, hown, hts⟩ (c_X7_sureDays l D cy m0 ml mm mit ms mt nw dr tr pa ig kx be tc st fk fp av sv ov vv tn ac td ga (offC w (w 4) o) hf87_0 (ctOk_offC hv hf87_1) n1 (by omega)) (cwV 1 hts gX7_rota_X7_sureDays rfl rfl rfl (by decide +kernel) ⟨Nat.le_of_ble_eq_true rfl, Nat.le_of_ble_eq_true rfl⟩) hP hK [0, 2] rfl 0 rfl rfl rfl rfl hl.1 rfl (Nat.le_of_ble_eq_true rfl) dX7_rota_89 ⟨Nat.zero_le _, Nat.zero_le _⟩ (fun r10 hr10 => ?_)
                  obtain rfl := hr10
                  have hsl := sdN_le (offC w (w 4) o) n1
                  rw [← suN_e hv (by omega)] at hsl
                  refine q_top (y := nI (suN w n1 o)) (congrArg nI (suN_e hv (by omega)).symm) ?_
                  rcases Nat.lt_or_ge M1 (suN w n1 o + 1) with hAA | hBB
                  · refine lv_istore (lv' := [(5, .int (nI (suN w n1 o))), (0, .ref m0), (1, .int (nI n1)), (2, .int (k)), (3, .int (moM M1))]) hx hb dX7_rota_92 hl (by decide) rfl (fun ls hl => ?_)
                    refine lv_iconst (v := nI 0) hx hb dX7_rota_94 (by decide) ?_
                    refine lv_istore (lv' := [(6, .int (nI 0)), (5, .int (nI (suN w n1 o))), (0, .ref m0), (1, .int (nI n1)), (2, .int (k)), (3, .int (moM M1))]) hx hb dX7_rota_95 hl (by decide) rfl (fun ls hl => ?_)
                    have L97_77 : ∀ (fu c2 : Nat), c2 ≤ w 4 → w 4 < c2 + fu → ∀ (gc : Nat → Int32), (∀ c, c < c2 → gc c = nI (o c)) → ∀ (H : Heap) (locs : List Loc), va_P D vwCl [(m0, .inr (7, [.ref ml, .ref mm, .ref mit, .ref ms, .int (st), .ref mt, .int (nI tn), .int (fk), .int (fp), .int (av), .int (sv), .int (ov), .int (vv), .ref nw, .ref dr, .ref tr, .ref pa, .int (nI ac), .ref ig, .ref kx, .ref be, .ref tc, .int (nI td)])), (nw, .inl (cy 0, 29, .inl f)), (tr, .inl (cy 0, 29, .inl ga)), (be, .inl (cy 0, 6, .inl gc))] H → va_D A [(m0, .inr (7, [.ref ml, .ref mm, .ref mit, .ref ms, .int (st), .ref mt, .int (nI tn), .int (fk), .int (fp), .int (av), .int (sv), .int (ov), .int (vv), .ref nw, .ref dr, .ref tr, .ref pa, .int (nI ac), .ref ig, .ref kx, .ref be, .ref tc, .int (nI td)])), (nw, .inl (cy 0, 29, .inl f)), (tr, .inl (cy 0, 29, .inl ga)), (be, .inl (cy 0, 6, .inl gc))] → va_S A s.heap H locs → ∀ ls : Array Slot, lv_has ls 7 [(0, .ref m0), (1, .int (nI n1)), (2, .int (k)), (3, .int (moM M1)), (5, .int (nI (suN w n1 o))), (6, .int (nI c2))] → W pg l en (q_rm 6) s mi args below meth cd H locs 0 0 (MQ below (va_Qi (fun r u => ∃ gt2 fb2 : Nat → Int32, r = oRota w (nI n1) k ∧ u = [(m0, .inr (7, [.ref ml, .ref mm, .ref mit, .ref ms, .int (st), .ref mt, .int (nI tn), .int (fk), .int (fp), .int (av), .int (sv), .int (ov), .int (vv), .ref nw, .ref dr, .ref tr, .ref pa, .int (nI ac), .ref ig, .ref kx, .ref be, .ref tc, .int (nI td)])), (nw, .inl (cy 0, 29, .inl f)), (tr, .inl (cy 0, 29, .inl gt2)), (be, .inl (cy 0, 6, .inl fb2))]) (fun (u : va_W) t => va_P D vwCl u t.heap ∧ va_D A u) A) args s 0 0 A) (F0 mi 97 ls []) := by
                      intro fu
                      induction fu with
                      | zero =>
                        intro c2 h1 h2
                        exact absurd h2 (by omega)
                      | succ fu ih97 =>
                        intro c2 h1_97 h2_97 gc hf97_0 H locs hP hD hS ls hl
                        refine lv_iload hx hb dX7_rota_97 (lv_at hl 5 rfl) ?_
                        refine lv_aload_n hx hb dX7_rota_99 rfl (lv_at hl 0 rfl) ?_
                        refine va_get (D := D) (ci := 7) (v := .ref nw) (C := RX7) (T := TX7) (N := 23) hx hb hts nX7_rota_0 hown hK.1 hP 0 rfl rfl 13 (by decide) (hts _ mX7_rota_1) (fun _ h9 => h9) rfl dX7_rota_100 ?_
                        refine lv_iconst (v := nI 4) hx hb dX7_rota_103 (by decide) ?_
                        refine q_iald (j := 4) (v := nI (w 4)) hx hb hK hP 1 rfl (by omega) (by decide) (hm _ (by omega)) dX7_rota_104 ?_
                        refine q_icmp_ge (tgt := 140) hx hb dX7_rota_105 (by decide) (by omega) (by omega) (fun c11 => ?_) (fun c11 => ?_)
                        · have hc24 : c2 = w 4 := by omega
                          have hbst : 0 < suN w n1 o + 1 → ∀ c, c < w 4 → gc c = nI (o c) := fun _ c hc => hf97_0 c (by omega)
                          refine lv_iload hx hb dX7_rota_140 (lv_at hl 4 rfl) ?_
                          refine lv_iload_n hx hb dX7_rota_142 rfl (lv_at hl 3 rfl) ?_
                          refine lv_icmp_le (tgt := 151) hx hb dX7_rota_143 (by decide) (fun c12 => absurd c12 (by exact fun q => (moM_c hf87_5 (by omega)).mp q hAA)) (fun c12 => ?_)
                          refine lv_iload hx hb dX7_rota_146 (lv_at hl 4 rfl) ?_
                          refine lv_goto (tgt := 152) hx hb dX7_rota_148 (by decide) ?_
                          refine lv_istore_n (lv' := [(3, .int (nI (suN w n1 o))), (0, .ref m0), (1, .int (nI n1)), (2, .int (k)), (5, .int (nI (suN w n1 o))), (6, .int (nI c2))]) hx hb dX7_rota_152 rfl hl (by decide) rfl (fun ls hl => ?_)
                          have hl : lv_has ls 7 [(3, .int (moM (suN w n1 o + 1))), (0, .ref m0), (1, .int (nI n1)), (2, .int (k)), (5, .int (nI (suN w n1 o))), (6, .int (nI c2))] := q_lset hl (q_c1 (f := fun z9 => ([(3, .int (z9)), (0, .ref m0), (1, .int (nI n1)), (2, .int (k)), (5, .int (nI (suN w n1 o))), (6, .int (nI c2))] : List (Nat × Value))) (moM_s _))
                          refine lv_aload_n hx hb dX7_rota_153 rfl (lv_at hl 1 rfl) ?_
                          refine q_wiV (As := []) (rest := []) (wr := [(nw, .inl (cy 0, 29, .inl f)), (be, .inl (cy 0, 6, .inl gc))]) ⟨hx, hb, hml, hown, hts⟩ (c_X7_counts l D cy m0 ml mm mit ms mt nw dr tr pa ig kx be tc st fk fp av sv ov vv tn ac td ga w o hf87_0 hv hf87_1) (cwV 0 hts gX7_rota_X7_counts rfl rfl rfl (by decide +kernel) ⟨Nat.le_of_ble_eq_true rfl, Nat.le_of_ble_eq_true rfl⟩) hP hD hS hA hK [0, 2] [1, 3] rfl rfl (by decide) rfl (by decide) (by decide) 0 rfl rfl rfl rfl hl.1 rfl (Nat.le_of_ble_eq_true rfl) dX7_rota_154 ⟨Nat.zero_le _, Nat.zero_le _⟩ (fun r13 u14 H locs hr13 hP hD hS => ?_)
                          rcases hr13 with ⟨c9, o2, gt2, hot, hgt2, rfl, rfl⟩ | ⟨gt2, hot, rfl, rfl⟩
                          · have hP : va_P D vwCl [(nw, .inl (cy 0, 29, .inl f)), (be, .inl (cy 0, 6, .inl gc)), (m0, .inr (7, [.ref ml, .ref mm, .ref mit, .ref ms, .int (st), .ref mt, .int (nI tn), .int (fk), .int (fp), .int (av), .int (sv), .int (ov), .int (vv), .ref nw, .ref dr, .ref tr, .ref pa, .int (nI ac), .ref ig, .ref kx, .ref be, .ref tc, .int (nI td)])), (tr, .inl (cy 0, 29, .inl gt2))] H := hP
                            have hD : va_D A [(nw, .inl (cy 0, 29, .inl f)), (be, .inl (cy 0, 6, .inl gc)), (m0, .inr (7, [.ref ml, .ref mm, .ref mit, .ref ms, .int (st), .ref mt, .int (nI tn), .int (fk), .int (fp), .int (av), .int (sv), .int (ov), .int (vv), .ref nw, .ref dr, .ref tr, .ref pa, .int (nI ac), .ref ig, .ref kx, .ref be, .ref tc, .int (nI td)])), (tr, .inl (cy 0, 29, .inl gt2))] := hD
                            refine lv_istore (lv' := [(4, .int (nI 1)), (3, .int (moM (suN w n1 o + 1))), (0, .ref m0), (1, .int (nI n1)), (2, .int (k)), (5, .int (nI (suN w n1 o))), (6, .int (nI c2))]) hx hb dX7_rota_157 hl (by decide) rfl (fun ls hl => ?_)
                            refine lv_goto (tgt := 82) hx hb dX7_rota_159 (by decide) ?_
                            refine lv_iload hx hb dX7_rota_82 (lv_at hl 0 rfl) ?_
                            refine lv_if_eq (tgt := 162) hx hb dX7_rota_84 (by decide) (fun c9 => absurd c9 (by decide)) (fun _ => ?_)
                            have hP := hP.sub (ws' := [(m0, .inr (7, [.ref ml, .ref mm, .ref mit, .ref ms, .int (st), .ref mt, .int (nI tn), .int (fk), .int (fp), .int (av), .int (sv), .int (ov), .int (vv), .ref nw, .ref dr, .ref tr, .ref pa, .int (nI ac), .ref ig, .ref kx, .ref be, .ref tc, .int (nI td)])), (nw, .inl (cy 0, 29, .inl f)), (tr, .inl (cy 0, 29, .inl gt2)), (be, .inl (cy 0, 6, .inl gc))]) [2, 0, 3, 1] rfl
                            have hD := hD.sub (ws' := [(m0, .inr (7, [.ref ml, .ref mm, .ref mit, .ref ms, .int (st), .ref mt, .int (nI tn), .int (fk), .int (fp), .int (av), .int (sv), .int (ov), .int (vv), .ref nw, .ref dr, .ref tr, .ref pa, .int (nI ac), .ref ig, .ref kx, .ref be, .ref tc, .int (nI td)])), (nw, .inl (cy 0, 29, .inl f)), (tr, .inl (cy 0, 29, .inl gt2)), (be, .inl (cy 0, 6, .inl gc))]) [2, 0, 3, 1] (by decide) rfl
                            exact ih87 (i + 1) (by omega) (by omega) o2 (suN w n1 o + 1) o gt2 gc hgt2 (otN_lt _ _ _ _ hot hf87_1) (by have hr2 := otN_rk _ _ _ _ hot (fun c hc => by have := hvc c hc; have := hf87_1 c hc; omega); omega) ((roGo_s hot (roU_t hAA) (by omega)).symm.trans hf87_3) hbst (by omega) H locs hP hD hS ls (lv_sub (l' := [(0, .ref m0), (1, .int (nI n1)), (2, .int (k)), (3, .int (moM (suN w n1 o + 1)))]) hl [2, 3, 4, 1] rfl)
                          · have hP : va_P D vwCl [(nw, .inl (cy 0, 29, .inl f)), (be, .inl (cy 0, 6, .inl gc)), (m0, .inr (7, [.ref ml, .ref mm, .ref mit, .ref ms, .int (st), .ref mt, .int (nI tn), .int (fk), .int (fp), .int (av), .int (sv), .int (ov), .int (vv), .ref nw, .ref dr, .ref tr, .ref pa, .int (nI ac), .ref ig, .ref kx, .ref be, .ref tc, .int (nI td)])), (tr, .inl (cy 0, 29, .inl gt2))] H := hP
                            have hD : va_D A [(nw, .inl (cy 0, 29, .inl f)), (be, .inl (cy 0, 6, .inl gc)), (m0, .inr (7, [.ref ml, .ref mm, .ref mit, .ref ms, .int (st), .ref mt, .int (nI tn), .int (fk), .int (fp), .int (av), .int (sv), .int (ov), .int (vv), .ref nw, .ref dr, .ref tr, .ref pa, .int (nI ac), .ref ig, .ref kx, .ref be, .ref tc, .int (nI td)])), (tr, .inl (cy 0, 29, .inl gt2))] := hD
                            refine lv_istore (lv' := [(4, .int (nI 0)), (3, .int (moM (suN w n1 o + 1))), (0, .ref m0), (1, .int (nI n1)), (2, .int (k)), (5, .int (nI (suN w n1 o))), (6, .int (nI c2))]) hx hb dX7_rota_157 hl (by decide) rfl (fun ls hl => ?_)
                            refine lv_goto (tgt := 82) hx hb dX7_rota_159 (by decide) ?_
                            refine lv_iload hx hb dX7_rota_82 (lv_at hl 0 rfl) ?_
                            refine lv_if_eq (tgt := 162) hx hb dX7_rota_84 (by decide) (fun _ => ?_) (fun c9 => absurd (by decide) c9)
                            have hres := (roGo_n hot (roU_t hAA) (by omega)).symm.trans hf87_3
                            have hpos := roGo_pos hres
                            refine lv_iload_n hx hb dX7_rota_162 rfl (lv_at hl 4 rfl) ?_
                            refine lv_iconst (v := (-1)) hx hb dX7_rota_163 (by decide) ?_
                            refine lv_icmp_ne (tgt := 171) hx hb dX7_rota_164 (by decide) (fun c15 => ?_) (fun c15 => ?_)
                            · refine lv_aload_n hx hb dX7_rota_171 rfl (lv_at hl 2 rfl) ?_
                              refine lv_iload_n hx hb dX7_rota_172 rfl (lv_at hl 4 rfl) ?_
                              refine q_rV (As := [.int (k)]) (rest := []) ⟨hx, hb, hml, hown, hts⟩ (c_X7_isClue l D cy m0 ml mm mit ms mt nw dr tr pa ig kx be tc st fk fp av sv ov vv tn ac td f w hm hv k) (cwV 1 hts gX7_rota_X7_isClue rfl rfl rfl (by decide +kernel) ⟨Nat.le_of_ble_eq_true rfl, Nat.le_of_ble_eq_true rfl⟩) hP hK [2, 0] rfl 2 rfl rfl rfl rfl hl.1 rfl (Nat.le_of_ble_eq_true rfl) dX7_rota_173 ⟨Nat.zero_le _, Nat.zero_le _⟩ (fun r16 hr16 => ?_)
                              rcases hr16 with ⟨rfl, b17⟩ | ⟨rfl, b17⟩
                              · have _ := b17
                                refine lv_if_eq (tgt := 188) hx hb dX7_rota_176 (by decide) (fun c9 => absurd c9 (by decide)) (fun _ => ?_)
                                obtain ⟨c, hc, rfl⟩ := (inC_i (by omega)).mpr b17
                                refine lv_aload_n hx hb dX7_rota_179 rfl (lv_at hl 2 rfl) ?_
                                refine va_get (D := D) (ci := 7) (v := .ref be) (C := RX7) (T := TX7) (N := 23) hx hb hts nX7_rota_0 hown hK.1 hP 2 rfl rfl 20 (by decide) (hts _ mX7_rota_4) (fun _ h9 => h9) rfl dX7_rota_180 ?_
                                refine lv_iload_n hx hb dX7_rota_183 rfl (lv_at hl 4 rfl) ?_
                                refine q_iald (j := c) (v := gc c) hx hb hK hP 1 rfl (by omega) (by decide) (rfl) dX7_rota_184 ?_
                                refine lv_goto (tgt := 190) hx hb dX7_rota_185 (by decide) ?_
                                have hP9 := hP.sub (ws' := [(m0, .inr (7, [.ref ml, .ref mm, .ref mit, .ref ms, .int (st), .ref mt, .int (nI tn), .int (fk), .int (fp), .int (av), .int (sv), .int (ov), .int (vv), .ref nw, .ref dr, .ref tr, .ref pa, .int (nI ac), .ref ig, .ref kx, .ref be, .ref tc, .int (nI td)])), (nw, .inl (cy 0, 29, .inl f)), (tr, .inl (cy 0, 29, .inl gt2)), (be, .inl (cy 0, 6, .inl gc))]) [2, 0, 3, 1] rfl
                                have hD9 := hD.sub (ws' := [(m0, .inr (7, [.ref ml, .ref mm, .ref mit, .ref ms, .int (st), .ref mt, .int (nI tn), .int (fk), .int (fp), .int (av), .int (sv), .int (ov), .int (vv), .ref nw, .ref dr, .ref tr, .ref pa, .int (nI ac), .ref ig, .ref kx, .ref be, .ref tc, .int (nI td)])), (nw, .inl (cy 0, 29, .inl f)), (tr, .inl (cy 0, 29, .inl gt2)), (be, .inl (cy 0, 6, .inl gc))]) [2, 0, 3, 1] (by decide) rfl
                                exact q_wiret (v := gc c) hx hb hr hlocks dX7_rota_190 hP9 hD9 hS (⟨_, _, by simp only [oRota, if_pos b2, if_pos b4, if_pos b6, if_pos (ro_c c hc hv4).1, if_pos (ro_c c hc hv4).2, q_cl (by omega : n1 < 2147483648), q_cl (by omega : c < 2147483648), ← hres]; exact hbst hpos c hc, rfl⟩)
                              · have _ := b17
                                refine lv_if_eq (tgt := 188) hx hb dX7_rota_176 (by decide) (fun _ => ?_) (fun c9 => absurd (by decide) c9)
                                refine lv_ldc (v := (-1000000)) hx hb hown (hts _ mX7_rota_3) dX7_rota_188 ?_
                                have hP9 := hP.sub (ws' := [(m0, .inr (7, [.ref ml, .ref mm, .ref mit, .ref ms, .int (st), .ref mt, .int (nI tn), .int (fk), .int (fp), .int (av), .int (sv), .int (ov), .int (vv), .ref nw, .ref dr, .ref tr, .ref pa, .int (nI ac), .ref ig, .ref kx, .ref be, .ref tc, .int (nI td)])), (nw, .inl (cy 0, 29, .inl f)), (tr, .inl (cy 0, 29, .inl gt2)), (be, .inl (cy 0, 6, .inl gc))]) [2, 0, 3, 1] rfl
                                have hD9 := hD.sub (ws' := [(m0, .inr (7, [.ref ml, .ref mm, .ref mit, .ref ms, .int (st), .ref mt, .int (nI tn), .int (fk), .int (fp), .int (av), .int (sv), .int (ov), .int (vv), .ref nw, .ref dr, .ref tr, .ref pa, .int (nI ac), .ref ig, .ref kx, .ref be, .ref tc, .int (nI td)])), (nw, .inl (cy 0, 29, .inl f)), (tr, .inl (cy 0, 29, .inl gt2)), (be, .inl (cy 0, 6, .inl gc))]) [2, 0, 3, 1] (by decide) rfl
                                exact q_wiret (v := (-1000000)) hx hb hr hlocks dX7_rota_190 hP9 hD9 hS (⟨_, _, by simp only [oRota, if_pos b2, if_pos b4, if_pos b6, if_neg (ro_ge hk2 c15 b17)], rfl⟩)
                            · refine lv_iload_n hx hb dX7_rota_167 rfl (lv_at hl 1 rfl) ?_
                              refine lv_goto (tgt := 190) hx hb dX7_rota_168 (by decide) ?_
                              have hP9 := hP.sub (ws' := [(m0, .inr (7, [.ref ml, .ref mm, .ref mit, .ref ms, .int (st), .ref mt, .int (nI tn), .int (fk), .int (fp), .int (av), .int (sv), .int (ov), .int (vv), .ref nw, .ref dr, .ref tr, .ref pa, .int (nI ac), .ref ig, .ref kx, .ref be, .ref tc, .int (nI td)])), (nw, .inl (cy 0, 29, .inl f)), (tr, .inl (cy 0, 29, .inl gt2)), (be, .inl (cy 0, 6, .inl gc))]) [2, 0, 3, 1] rfl
                              have hD9 := hD.sub (ws' := [(m0, .inr (7, [.ref ml, .ref mm, .ref mit, .ref ms, .int (st), .ref mt, .int (nI tn), .int (fk), .int (fp), .int (av), .int (sv), .int (ov), .int (vv), .ref nw, .ref dr, .ref tr, .ref pa, .int (nI ac), .ref ig, .ref kx, .ref be, .ref tc, .int (nI td)])), (nw, .inl (cy 0, 29, .inl f)), (tr, .inl (cy 0, 29, .inl gt2)), (be, .inl (cy 0, 6, .inl gc))]) [2, 0, 3, 1] (by decide) rfl
                              exact q_wiret (v := moM (suN w n1 o + 1)) hx hb hr hlocks dX7_rota_190 hP9 hD9 hS (⟨_, _, by simp only [oRota, if_pos b2, if_pos b4, if_pos b6, if_pos (ro_m1 c15 (w 4)).1, if_neg (ro_m1 c15 (w 4)).2, q_cl (by omega : n1 < 2147483648), ← hres]; exact moM_m hpos, rfl⟩)
                        · refine lv_iload hx hb dX7_rota_108 (lv_at hl 4 rfl) ?_
                          refine lv_iload_n hx hb dX7_rota_110 rfl (lv_at hl 3 rfl) ?_
                          refine lv_icmp_le (tgt := 140) hx hb dX7_rota_111 (by decide) (fun c18 => absurd c18 (by exact fun q => (moM_c hf87_5 (by omega)).mp q hAA)) (fun c18 => ?_)
                          refine lv_aload_n hx hb dX7_rota_114 rfl (lv_at hl 0 rfl) ?_
                          refine va_get (D := D) (ci := 7) (v := .ref be) (C := RX7) (T := TX7) (N := 23) hx hb hts nX7_rota_0 hown hK.1 hP 0 rfl rfl 20 (by decide) (hts _ mX7_rota_4) (fun _ h9 => h9) rfl dX7_rota_115 ?_
                          refine lv_iload hx hb dX7_rota_118 (lv_at hl 5 rfl) ?_
                          refine lv_aload_n hx hb dX7_rota_120 rfl (lv_at hl 0 rfl) ?_
                          refine va_get (D := D) (ci := 7) (v := .ref tr) (C := RX7) (T := TX7) (N := 23) hx hb hts nX7_rota_0 hown hK.1 hP 0 rfl rfl 15 (by decide) (hts _ mX7_rota_2) (fun _ h9 => h9) rfl dX7_rota_121 ?_
                          refine lv_iconst (v := nI 5) hx hb dX7_rota_124 (by decide) ?_
                          refine lv_iconst (v := nI 4) hx hb dX7_rota_125 (by decide) ?_
                          refine lv_iload hx hb dX7_rota_126 (lv_at hl 5 rfl) ?_
                          refine lv_imul hx hb dX7_rota_128 ?_
                          refine q_top (y := nI (4 * c2)) (pk_mul _ _) ?_
                          refine lv_iadd hx hb dX7_rota_129 ?_
                          refine q_top (y := nI (5 + (4 * c2))) (nI_add _ _) ?_
                          refine lv_iconst (v := nI 3) hx hb dX7_rota_130 (by decide) ?_
                          refine lv_iadd hx hb dX7_rota_131 ?_
                          refine q_top (y := nI ((5 + (4 * c2)) + 3)) (nI_add _ _) ?_
                          refine q_iald (j := ((5 + (4 * c2)) + 3)) (v := ga ((5 + (4 * c2)) + 3)) hx hb hK hP 2 rfl (by omega) (by decide) (rfl) dX7_rota_132 ?_
                          refine q_iast (j := c2) hx hb hK hP hD hS 3 rfl (by omega) (by decide) dX7_rota_133 (fun H locs hP hD hS => ?_)
                          have hP : va_P D vwCl [(m0, .inr (7, [.ref ml, .ref mm, .ref mit, .ref ms, .int (st), .ref mt, .int (nI tn), .int (fk), .int (fp), .int (av), .int (sv), .int (ov), .int (vv), .ref nw, .ref dr, .ref tr, .ref pa, .int (nI ac), .ref ig, .ref kx, .ref be, .ref tc, .int (nI td)])), (nw, .inl (cy 0, 29, .inl f)), (tr, .inl (cy 0, 29, .inl ga)), (be, .inl (cy 0, 6, .inl (upd gc c2 (ga ((5 + (4 * c2)) + 3)))))] H := hP
                          have hD : va_D A [(m0, .inr (7, [.ref ml, .ref mm, .ref mit, .ref ms, .int (st), .ref mt, .int (nI tn), .int (fk), .int (fp), .int (av), .int (sv), .int (ov), .int (vv), .ref nw, .ref dr, .ref tr, .ref pa, .int (nI ac), .ref ig, .ref kx, .ref be, .ref tc, .int (nI td)])), (nw, .inl (cy 0, 29, .inl f)), (tr, .inl (cy 0, 29, .inl ga)), (be, .inl (cy 0, 6, .inl (upd gc c2 (ga ((5 + (4 * c2)) + 3)))))] := hD
                          refine lv_iinc (v := nI (c2 + 1)) (lv' := [(6, .int (nI (c2 + 1))), (0, .ref m0), (1, .int (nI n1)), (2, .int (k)), (3, .int (moM M1)), (5, .int (nI (suN w n1 o)))]) hx hb dX7_rota_134 hl (k := 5) rfl (q_inc c2 1) (by decide) rfl (fun ls hl => ?_)
                          refine lv_goto (tgt := 97) hx hb dX7_rota_137 (by decide) ?_
                          exact ih97 (c2 + 1) (by omega) (by omega) (upd gc c2 (ga ((5 + (4 * c2)) + 3))) (bst_s hf97_0 ((hf87_0 _ (by omega)).trans (congrArg nI (offC_o (by omega))))) H locs hP hD hS ls (lv_sub (l' := [(0, .ref m0), (1, .int (nI n1)), (2, .int (k)), (3, .int (moM M1)), (5, .int (nI (suN w n1 o))), (6, .int (nI (c2 + 1)))]) hl [1, 2, 3, 4, 5, 0] rfl)
                    exact L97_77 ((w 4) + 1) 0 (by omega) (by omega) gb (fun c hc => absurd hc (Nat.not_lt_zero c)) H locs hP hD hS ls (lv_sub (l' := [(0, .ref m0), (1, .int (nI n1)), (2, .int (k)), (3, .int (moM M1)), (5, .int (nI (suN w n1 o))), (6, .int (nI 0))]) hl [2, 3, 4, 5, 1, 0] rfl)
                  · refine lv_istore (lv' := [(5, .int (nI (suN w n1 o))), (0, .ref m0), (1, .int (nI n1)), (2, .int (k)), (3, .int (moM M1))]) hx hb dX7_rota_92 hl (by decide) rfl (fun ls hl => ?_)
                    refine lv_iconst (v := nI 0) hx hb dX7_rota_94 (by decide) ?_
                    refine lv_istore (lv' := [(6, .int (nI 0)), (5, .int (nI (suN w n1 o))), (0, .ref m0), (1, .int (nI n1)), (2, .int (k)), (3, .int (moM M1))]) hx hb dX7_rota_95 hl (by decide) rfl (fun ls hl => ?_)
                    refine lv_iload hx hb dX7_rota_97 (lv_at hl 0 rfl) ?_
                    refine lv_aload_n hx hb dX7_rota_99 rfl (lv_at hl 2 rfl) ?_
                    refine va_get (D := D) (ci := 7) (v := .ref nw) (C := RX7) (T := TX7) (N := 23) hx hb hts nX7_rota_0 hown hK.1 hP 0 rfl rfl 13 (by decide) (hts _ mX7_rota_1) (fun _ h9 => h9) rfl dX7_rota_100 ?_
                    refine lv_iconst (v := nI 4) hx hb dX7_rota_103 (by decide) ?_
                    refine q_iald (j := 4) (v := nI (w 4)) hx hb hK hP 1 rfl (by omega) (by decide) (hm _ (by omega)) dX7_rota_104 ?_
                    refine q_icmp_ge (tgt := 140) hx hb dX7_rota_105 (by decide) (by decide) (by omega) (fun c19 => ?_) (fun c19 => ?_)
                    · refine lv_iload hx hb dX7_rota_140 (lv_at hl 1 rfl) ?_
                      refine lv_iload_n hx hb dX7_rota_142 rfl (lv_at hl 5 rfl) ?_
                      refine lv_icmp_le (tgt := 151) hx hb dX7_rota_143 (by decide) (fun c20 => ?_) (fun c20 => absurd c20 (by exact fun z => z ((moM_c (M := M1) (s := suN w n1 o) hf87_5 (by omega)).mpr (fun q => absurd q (by omega)))))
                      refine lv_iload_n hx hb dX7_rota_151 rfl (lv_at hl 5 rfl) ?_
                      refine lv_istore_n (lv' := [(3, .int (moM M1)), (6, .int (nI 0)), (5, .int (nI (suN w n1 o))), (0, .ref m0), (1, .int (nI n1)), (2, .int (k))]) hx hb dX7_rota_152 rfl hl (by decide) rfl (fun ls hl => ?_)
                      refine lv_aload_n hx hb dX7_rota_153 rfl (lv_at hl 3 rfl) ?_
                      refine q_wiV (As := []) (rest := []) (wr := [(nw, .inl (cy 0, 29, .inl f)), (be, .inl (cy 0, 6, .inl gb))]) ⟨hx, hb, hml, hown, hts⟩ (c_X7_counts l D cy m0 ml mm mit ms mt nw dr tr pa ig kx be tc st fk fp av sv ov vv tn ac td ga w o hf87_0 hv hf87_1) (cwV 0 hts gX7_rota_X7_counts rfl rfl rfl (by decide +kernel) ⟨Nat.le_of_ble_eq_true rfl, Nat.le_of_ble_eq_true rfl⟩) hP hD hS hA hK [0, 2] [1, 3] rfl rfl (by decide) rfl (by decide) (by decide) 0 rfl rfl rfl rfl hl.1 rfl (Nat.le_of_ble_eq_true rfl) dX7_rota_154 ⟨Nat.zero_le _, Nat.zero_le _⟩ (fun r21 u22 H locs hr21 hP hD hS => ?_)
                      rcases hr21 with ⟨c9, o2, gt2, hot, hgt2, rfl, rfl⟩ | ⟨gt2, hot, rfl, rfl⟩
                      · have hP : va_P D vwCl [(nw, .inl (cy 0, 29, .inl f)), (be, .inl (cy 0, 6, .inl gb)), (m0, .inr (7, [.ref ml, .ref mm, .ref mit, .ref ms, .int (st), .ref mt, .int (nI tn), .int (fk), .int (fp), .int (av), .int (sv), .int (ov), .int (vv), .ref nw, .ref dr, .ref tr, .ref pa, .int (nI ac), .ref ig, .ref kx, .ref be, .ref tc, .int (nI td)])), (tr, .inl (cy 0, 29, .inl gt2))] H := hP
                        have hD : va_D A [(nw, .inl (cy 0, 29, .inl f)), (be, .inl (cy 0, 6, .inl gb)), (m0, .inr (7, [.ref ml, .ref mm, .ref mit, .ref ms, .int (st), .ref mt, .int (nI tn), .int (fk), .int (fp), .int (av), .int (sv), .int (ov), .int (vv), .ref nw, .ref dr, .ref tr, .ref pa, .int (nI ac), .ref ig, .ref kx, .ref be, .ref tc, .int (nI td)])), (tr, .inl (cy 0, 29, .inl gt2))] := hD
                        refine lv_istore (lv' := [(4, .int (nI 1)), (3, .int (moM M1)), (6, .int (nI 0)), (5, .int (nI (suN w n1 o))), (0, .ref m0), (1, .int (nI n1)), (2, .int (k))]) hx hb dX7_rota_157 hl (by decide) rfl (fun ls hl => ?_)
                        refine lv_goto (tgt := 82) hx hb dX7_rota_159 (by decide) ?_
                        refine lv_iload hx hb dX7_rota_82 (lv_at hl 0 rfl) ?_
                        refine lv_if_eq (tgt := 162) hx hb dX7_rota_84 (by decide) (fun c9 => absurd c9 (by decide)) (fun _ => ?_)
                        have hP := hP.sub (ws' := [(m0, .inr (7, [.ref ml, .ref mm, .ref mit, .ref ms, .int (st), .ref mt, .int (nI tn), .int (fk), .int (fp), .int (av), .int (sv), .int (ov), .int (vv), .ref nw, .ref dr, .ref tr, .ref pa, .int (nI ac), .ref ig, .ref kx, .ref be, .ref tc, .int (nI td)])), (nw, .inl (cy 0, 29, .inl f)), (tr, .inl (cy 0, 29, .inl gt2)), (be, .inl (cy 0, 6, .inl gb))]) [2, 0, 3, 1] rfl
                        have hD := hD.sub (ws' := [(m0, .inr (7, [.ref ml, .ref mm, .ref mit, .ref ms, .int (st), .ref mt, .int (nI tn), .int (fk), .int (fp), .int (av), .int (sv), .int (ov), .int (vv), .ref nw, .ref dr, .ref tr, .ref pa, .int (nI ac), .ref ig, .ref kx, .ref be, .ref tc, .int (nI td)])), (nw, .inl (cy 0, 29, .inl f)), (tr, .inl (cy 0, 29, .inl gt2)), (be, .inl (cy 0, 6, .inl gb))]) [2, 0, 3, 1] (by decide) rfl
                        exact ih87 (i + 1) (by omega) (by omega) o2 M1 b gt2 gb hgt2 (otN_lt _ _ _ _ hot hf87_1) (by have hr2 := otN_rk _ _ _ _ hot (fun c hc => by have := hvc c hc; have := hf87_1 c hc; omega); omega) ((roGo_s hot (roU_f (by omega)) (by omega)).symm.trans hf87_3) hf87_4 hf87_5 H locs hP hD hS ls (lv_sub (l' := [(0, .ref m0), (1, .int (nI n1)), (2, .int (k)), (3, .int (moM M1))]) hl [4, 5, 6, 1] rfl)
                      · have hP : va_P D vwCl [(nw, .inl (cy 0, 29, .inl f)), (be, .inl (cy 0, 6, .inl gb)), (m0, .inr (7, [.ref ml, .ref mm, .ref mit, .ref ms, .int (st), .ref mt, .int (nI tn), .int (fk), .int (fp), .int (av), .int (sv), .int (ov), .int (vv), .ref nw, .ref dr, .ref tr, .ref pa, .int (nI ac), .ref ig, .ref kx, .ref be, .ref tc, .int (nI td)])), (tr, .inl (cy 0, 29, .inl gt2))] H := hP
                        have hD : va_D A [(nw, .inl (cy 0, 29, .inl f)), (be, .inl (cy 0, 6, .inl gb)), (m0, .inr (7, [.ref ml, .ref mm, .ref mit, .ref ms, .int (st), .ref mt, .int (nI tn), .int (fk), .int (fp), .int (av), .int (sv), .int (ov), .int (vv), .ref nw, .ref dr, .ref tr, .ref pa, .int (nI ac), .ref ig, .ref kx, .ref be, .ref tc, .int (nI td)])), (tr, .inl (cy 0, 29, .inl gt2))] := hD
                        refine lv_istore (lv' := [(4, .int (nI 0)), (3, .int (moM M1)), (6, .int (nI 0)), (5, .int (nI (suN w n1 o))), (0, .ref m0), (1, .int (nI n1)), (2, .int (k))]) hx hb dX7_rota_157 hl (by decide) rfl (fun ls hl => ?_)
                        refine lv_goto (tgt := 82) hx hb dX7_rota_159 (by decide) ?_
                        refine lv_iload hx hb dX7_rota_82 (lv_at hl 0 rfl) ?_
                        refine lv_if_eq (tgt := 162) hx hb dX7_rota_84 (by decide) (fun _ => ?_) (fun c9 => absurd (by decide) c9)
                        have hres := (roGo_n hot (roU_f (by omega)) (by omega)).symm.trans hf87_3
                        have hpos := roGo_pos hres
                        refine lv_iload_n hx hb dX7_rota_162 rfl (lv_at hl 6 rfl) ?_
                        refine lv_iconst (v := (-1)) hx hb dX7_rota_163 (by decide) ?_
                        refine lv_icmp_ne (tgt := 171) hx hb dX7_rota_164 (by decide) (fun c23 => ?_) (fun c23 => ?_)
                        · refine lv_aload_n hx hb dX7_rota_171 rfl (lv_at hl 4 rfl) ?_
                          refine lv_iload_n hx hb dX7_rota_172 rfl (lv_at hl 6 rfl) ?_
                          refine q_rV (As := [.int (k)]) (rest := []) ⟨hx, hb, hml, hown, hts⟩ (c_X7_isClue l D cy m0 ml mm mit ms mt nw dr tr pa ig kx be tc st fk fp av sv ov vv tn ac td f w hm hv k) (cwV 1 hts gX7_rota_X7_isClue rfl rfl rfl (by decide +kernel) ⟨Nat.le_of_ble_eq_true rfl, Nat.le_of_ble_eq_true rfl⟩) hP hK [2, 0] rfl 2 rfl rfl rfl rfl hl.1 rfl (Nat.le_of_ble_eq_true rfl) dX7_rota_173 ⟨Nat.zero_le _, Nat.zero_le _⟩ (fun r24 hr24 => ?_)
                          rcases hr24 with ⟨rfl, b25⟩ | ⟨rfl, b25⟩
                          · have _ := b25
                            refine lv_if_eq (tgt := 188) hx hb dX7_rota_176 (by decide) (fun c9 => absurd c9 (by decide)) (fun _ => ?_)
                            obtain ⟨c, hc, rfl⟩ := (inC_i (by omega)).mpr b25
                            refine lv_aload_n hx hb dX7_rota_179 rfl (lv_at hl 4 rfl) ?_
                            refine va_get (D := D) (ci := 7) (v := .ref be) (C := RX7) (T := TX7) (N := 23) hx hb hts nX7_rota_0 hown hK.1 hP 2 rfl rfl 20 (by decide) (hts _ mX7_rota_4) (fun _ h9 => h9) rfl dX7_rota_180 ?_
                            refine lv_iload_n hx hb dX7_rota_183 rfl (lv_at hl 6 rfl) ?_
                            refine q_iald (j := c) (v := gb c) hx hb hK hP 1 rfl (by omega) (by decide) (rfl) dX7_rota_184 ?_
                            refine lv_goto (tgt := 190) hx hb dX7_rota_185 (by decide) ?_
                            have hP9 := hP.sub (ws' := [(m0, .inr (7, [.ref ml, .ref mm, .ref mit, .ref ms, .int (st), .ref mt, .int (nI tn), .int (fk), .int (fp), .int (av), .int (sv), .int (ov), .int (vv), .ref nw, .ref dr, .ref tr, .ref pa, .int (nI ac), .ref ig, .ref kx, .ref be, .ref tc, .int (nI td)])), (nw, .inl (cy 0, 29, .inl f)), (tr, .inl (cy 0, 29, .inl gt2)), (be, .inl (cy 0, 6, .inl gb))]) [2, 0, 3, 1] rfl
                            have hD9 := hD.sub (ws' := [(m0, .inr (7, [.ref ml, .ref mm, .ref mit, .ref ms, .int (st), .ref mt, .int (nI tn), .int (fk), .int (fp), .int (av), .int (sv), .int (ov), .int (vv), .ref nw, .ref dr, .ref tr, .ref pa, .int (nI ac), .ref ig, .ref kx, .ref be, .ref tc, .int (nI td)])), (nw, .inl (cy 0, 29, .inl f)), (tr, .inl (cy 0, 29, .inl gt2)), (be, .inl (cy 0, 6, .inl gb))]) [2, 0, 3, 1] (by decide) rfl
                            exact q_wiret (v := gb c) hx hb hr hlocks dX7_rota_190 hP9 hD9 hS (⟨_, _, by simp only [oRota, if_pos b2, if_pos b4, if_pos b6, if_pos (ro_c c hc hv4).1, if_pos (ro_c c hc hv4).2, q_cl (by omega : n1 < 2147483648), q_cl (by omega : c < 2147483648), ← hres]; exact hf87_4 hpos c hc, rfl⟩)
                          · have _ := b25
                            refine lv_if_eq (tgt := 188) hx hb dX7_rota_176 (by decide) (fun _ => ?_) (fun c9 => absurd (by decide) c9)
                            refine lv_ldc (v := (-1000000)) hx hb hown (hts _ mX7_rota_3) dX7_rota_188 ?_
                            have hP9 := hP.sub (ws' := [(m0, .inr (7, [.ref ml, .ref mm, .ref mit, .ref ms, .int (st), .ref mt, .int (nI tn), .int (fk), .int (fp), .int (av), .int (sv), .int (ov), .int (vv), .ref nw, .ref dr, .ref tr, .ref pa, .int (nI ac), .ref ig, .ref kx, .ref be, .ref tc, .int (nI td)])), (nw, .inl (cy 0, 29, .inl f)), (tr, .inl (cy 0, 29, .inl gt2)), (be, .inl (cy 0, 6, .inl gb))]) [2, 0, 3, 1] rfl
                            have hD9 := hD.sub (ws' := [(m0, .inr (7, [.ref ml, .ref mm, .ref mit, .ref ms, .int (st), .ref mt, .int (nI tn), .int (fk), .int (fp), .int (av), .int (sv), .int (ov), .int (vv), .ref nw, .ref dr, .ref tr, .ref pa, .int (nI ac), .ref ig, .ref kx, .ref be, .ref tc, .int (nI td)])), (nw, .inl (cy 0, 29, .inl f)), (tr, .inl (cy 0, 29, .inl gt2)), (be, .inl (cy 0, 6, .inl gb))]) [2, 0, 3, 1] (by decide) rfl
                            exact q_wiret (v := (-1000000)) hx hb hr hlocks dX7_rota_190 hP9 hD9 hS (⟨_, _, by simp only [oRota, if_pos b2, if_pos b4, if_pos b6, if_neg (ro_ge hk2 c23 b25)], rfl⟩)
                        · refine lv_iload_n hx hb dX7_rota_167 rfl (lv_at hl 1 rfl) ?_
                          refine lv_goto (tgt := 190) hx hb dX7_rota_168 (by decide) ?_
                          have hP9 := hP.sub (ws' := [(m0, .inr (7, [.ref ml, .ref mm, .ref mit, .ref ms, .int (st), .ref mt, .int (nI tn), .int (fk), .int (fp), .int (av), .int (sv), .int (ov), .int (vv), .ref nw, .ref dr, .ref tr, .ref pa, .int (nI ac), .ref ig, .ref kx, .ref be, .ref tc, .int (nI td)])), (nw, .inl (cy 0, 29, .inl f)), (tr, .inl (cy 0, 29, .inl gt2)), (be, .inl (cy 0, 6, .inl gb))]) [2, 0, 3, 1] rfl
                          have hD9 := hD.sub (ws' := [(m0, .inr (7, [.ref ml, .ref mm, .ref mit, .ref ms, .int (st), .ref mt, .int (nI tn), .int (fk), .int (fp), .int (av), .int (sv), .int (ov), .int (vv), .ref nw, .ref dr, .ref tr, .ref pa, .int (nI ac), .ref ig, .ref kx, .ref be, .ref tc, .int (nI td)])), (nw, .inl (cy 0, 29, .inl f)), (tr, .inl (cy 0, 29, .inl gt2)), (be, .inl (cy 0, 6, .inl gb))]) [2, 0, 3, 1] (by decide) rfl
                          exact q_wiret (v := moM M1) hx hb hr hlocks dX7_rota_190 hP9 hD9 hS (⟨_, _, by simp only [oRota, if_pos b2, if_pos b4, if_pos b6, if_pos (ro_m1 c23 (w 4)).1, if_neg (ro_m1 c23 (w 4)).2, q_cl (by omega : n1 < 2147483648), ← hres]; exact moM_m hpos, rfl⟩)
                    · refine lv_iload hx hb dX7_rota_108 (lv_at hl 1 rfl) ?_
                      refine lv_iload_n hx hb dX7_rota_110 rfl (lv_at hl 5 rfl) ?_
                      refine lv_icmp_le (tgt := 140) hx hb dX7_rota_111 (by decide) (fun c26 => ?_) (fun c26 => absurd c26 (by exact fun z => z ((moM_c (M := M1) (s := suN w n1 o) hf87_5 (by omega)).mpr (fun q => absurd q (by omega)))))
                      refine lv_iload hx hb dX7_rota_140 (lv_at hl 1 rfl) ?_
                      refine lv_iload_n hx hb dX7_rota_142 rfl (lv_at hl 5 rfl) ?_
                      refine lv_icmp_le (tgt := 151) hx hb dX7_rota_143 (by decide) (fun c27 => ?_) (fun c27 => absurd c27 (by exact fun z => z ((moM_c (M := M1) (s := suN w n1 o) hf87_5 (by omega)).mpr (fun q => absurd q (by omega)))))
                      refine lv_iload_n hx hb dX7_rota_151 rfl (lv_at hl 5 rfl) ?_
                      refine lv_istore_n (lv' := [(3, .int (moM M1)), (6, .int (nI 0)), (5, .int (nI (suN w n1 o))), (0, .ref m0), (1, .int (nI n1)), (2, .int (k))]) hx hb dX7_rota_152 rfl hl (by decide) rfl (fun ls hl => ?_)
                      refine lv_aload_n hx hb dX7_rota_153 rfl (lv_at hl 3 rfl) ?_
                      refine q_wiV (As := []) (rest := []) (wr := [(nw, .inl (cy 0, 29, .inl f)), (be, .inl (cy 0, 6, .inl gb))]) ⟨hx, hb, hml, hown, hts⟩ (c_X7_counts l D cy m0 ml mm mit ms mt nw dr tr pa ig kx be tc st fk fp av sv ov vv tn ac td ga w o hf87_0 hv hf87_1) (cwV 0 hts gX7_rota_X7_counts rfl rfl rfl (by decide +kernel) ⟨Nat.le_of_ble_eq_true rfl, Nat.le_of_ble_eq_true rfl⟩) hP hD hS hA hK [0, 2] [1, 3] rfl rfl (by decide) rfl (by decide) (by decide) 0 rfl rfl rfl rfl hl.1 rfl (Nat.le_of_ble_eq_true rfl) dX7_rota_154 ⟨Nat.zero_le _, Nat.zero_le _⟩ (fun r28 u29 H locs hr28 hP hD hS => ?_)
                      rcases hr28 with ⟨c9, o2, gt2, hot, hgt2, rfl, rfl⟩ | ⟨gt2, hot, rfl, rfl⟩
                      · have hP : va_P D vwCl [(nw, .inl (cy 0, 29, .inl f)), (be, .inl (cy 0, 6, .inl gb)), (m0, .inr (7, [.ref ml, .ref mm, .ref mit, .ref ms, .int (st), .ref mt, .int (nI tn), .int (fk), .int (fp), .int (av), .int (sv), .int (ov), .int (vv), .ref nw, .ref dr, .ref tr, .ref pa, .int (nI ac), .ref ig, .ref kx, .ref be, .ref tc, .int (nI td)])), (tr, .inl (cy 0, 29, .inl gt2))] H := hP
                        have hD : va_D A [(nw, .inl (cy 0, 29, .inl f)), (be, .inl (cy 0, 6, .inl gb)), (m0, .inr (7, [.ref ml, .ref mm, .ref mit, .ref ms, .int (st), .ref mt, .int (nI tn), .int (fk), .int (fp), .int (av), .int (sv), .int (ov), .int (vv), .ref nw, .ref dr, .ref tr, .ref pa, .int (nI ac), .ref ig, .ref kx, .ref be, .ref tc, .int (nI td)])), (tr, .inl (cy 0, 29, .inl gt2))] := hD
                        refine lv_istore (lv' := [(4, .int (nI 1)), (3, .int (moM M1)), (6, .int (nI 0)), (5, .int (nI (suN w n1 o))), (0, .ref m0), (1, .int (nI n1)), (2, .int (k))]) hx hb dX7_rota_157 hl (by decide) rfl (fun ls hl => ?_)
                        refine lv_goto (tgt := 82) hx hb dX7_rota_159 (by decide) ?_
                        refine lv_iload hx hb dX7_rota_82 (lv_at hl 0 rfl) ?_
                        refine lv_if_eq (tgt := 162) hx hb dX7_rota_84 (by decide) (fun c9 => absurd c9 (by decide)) (fun _ => ?_)
                        have hP := hP.sub (ws' := [(m0, .inr (7, [.ref ml, .ref mm, .ref mit, .ref ms, .int (st), .ref mt, .int (nI tn), .int (fk), .int (fp), .int (av), .int (sv), .int (ov), .int (vv), .ref nw, .ref dr, .ref tr, .ref pa, .int (nI ac), .ref ig, .ref kx, .ref be, .ref tc, .int (nI td)])), (nw, .inl (cy 0, 29, .inl f)), (tr, .inl (cy 0, 29, .inl gt2)), (be, .inl (cy 0, 6, .inl gb))]) [2, 0, 3, 1] rfl
                        have hD := hD.sub (ws' := [(m0, .inr (7, [.ref ml, .ref mm, .ref mit, .ref ms, .int (st), .ref mt, .int (nI tn), .int (fk), .int (fp), .int (av), .int (sv), .int (ov), .int (vv), .ref nw, .ref dr, .ref tr, .ref pa, .int (nI ac), .ref ig, .ref kx, .ref be, .ref tc, .int (nI td)])), (nw, .inl (cy 0, 29, .inl f)), (tr, .inl (cy 0, 29, .inl gt2)), (be, .inl (cy 0, 6, .inl gb))]) [2, 0, 3, 1] (by decide) rfl
                        exact ih87 (i + 1) (by omega) (by omega) o2 M1 b gt2 gb hgt2 (otN_lt _ _ _ _ hot hf87_1) (by have hr2 := otN_rk _ _ _ _ hot (fun c hc => by have := hvc c hc; have := hf87_1 c hc; omega); omega) ((roGo_s hot (roU_f (by omega)) (by omega)).symm.trans hf87_3) hf87_4 hf87_5 H locs hP hD hS ls (lv_sub (l' := [(0, .ref m0), (1, .int (nI n1)), (2, .int (k)), (3, .int (moM M1))]) hl [4, 5, 6, 1] rfl)
                      · have hP : va_P D vwCl [(nw, .inl (cy 0, 29, .inl f)), (be, .inl (cy 0, 6, .inl gb)), (m0, .inr (7, [.ref ml, .ref mm, .ref mit, .ref ms, .int (st), .ref mt, .int (nI tn), .int (fk), .int (fp), .int (av), .int (sv), .int (ov), .int (vv), .ref nw, .ref dr, .ref tr, .ref pa, .int (nI ac), .ref ig, .ref kx, .ref be, .ref tc, .int (nI td)])), (tr, .inl (cy 0, 29, .inl gt2))] H := hP
                        have hD : va_D A [(nw, .inl (cy 0, 29, .inl f)), (be, .inl (cy 0, 6, .inl gb)), (m0, .inr (7, [.ref ml, .ref mm, .ref mit, .ref ms, .int (st), .ref mt, .int (nI tn), .int (fk), .int (fp), .int (av), .int (sv), .int (ov), .int (vv), .ref nw, .ref dr, .ref tr, .ref pa, .int (nI ac), .ref ig, .ref kx, .ref be, .ref tc, .int (nI td)])), (tr, .inl (cy 0, 29, .inl gt2))] := hD
                        refine lv_istore (lv' := [(4, .int (nI 0)), (3, .int (moM M1)), (6, .int (nI 0)), (5, .int (nI (suN w n1 o))), (0, .ref m0), (1, .int (nI n1)), (2, .int (k))]) hx hb dX7_rota_157 hl (by decide) rfl (fun ls hl => ?_)
                        refine lv_goto (tgt := 82) hx hb dX7_rota_159 (by decide) ?_
                        refine lv_iload hx hb dX7_rota_82 (lv_at hl 0 rfl) ?_
                        refine lv_if_eq (tgt := 162) hx hb dX7_rota_84 (by decide) (fun _ => ?_) (fun c9 => absurd (by decide) c9)
                        have hres := (roGo_n hot (roU_f (by omega)) (by omega)).symm.trans hf87_3
                        have hpos := roGo_pos hres
                        refine lv_iload_n hx hb dX7_rota_162 rfl (lv_at hl 6 rfl) ?_
                        refine lv_iconst (v := (-1)) hx hb dX7_rota_163 (by decide) ?_
                        refine lv_icmp_ne (tgt := 171) hx hb dX7_rota_164 (by decide) (fun c30 => ?_) (fun c30 => ?_)
                        · refine lv_aload_n hx hb dX7_rota_171 rfl (lv_at hl 4 rfl) ?_
                          refine lv_iload_n hx hb dX7_rota_172 rfl (lv_at hl 6 rfl) ?_
                          refine q_rV (As := [.int (k)]) (rest := []) ⟨hx, hb, hml, hown, hts⟩ (c_X7_isClue l D cy m0 ml mm mit ms mt nw dr tr pa ig kx be tc st fk fp av sv ov vv tn ac td f w hm hv k) (cwV 1 hts gX7_rota_X7_isClue rfl rfl rfl (by decide +kernel) ⟨Nat.le_of_ble_eq_true rfl, Nat.le_of_ble_eq_true rfl⟩) hP hK [2, 0] rfl 2 rfl rfl rfl rfl hl.1 rfl (Nat.le_of_ble_eq_true rfl) dX7_rota_173 ⟨Nat.zero_le _, Nat.zero_le _⟩ (fun r31 hr31 => ?_)
                          rcases hr31 with ⟨rfl, b32⟩ | ⟨rfl, b32⟩
                          · have _ := b32
                            refine lv_if_eq (tgt := 188) hx hb dX7_rota_176 (by decide) (fun c9 => absurd c9 (by decide)) (fun _ => ?_)
                            obtain ⟨c, hc, rfl⟩ := (inC_i (by omega)).mpr b32
                            refine lv_aload_n hx hb dX7_rota_179 rfl (lv_at hl 4 rfl) ?_
                            refine va_get (D := D) (ci := 7) (v := .ref be) (C := RX7) (T := TX7) (N := 23) hx hb hts nX7_rota_0 hown hK.1 hP 2 rfl rfl 20 (by decide) (hts _ mX7_rota_4) (fun _ h9 => h9) rfl dX7_rota_180 ?_
                            refine lv_iload_n hx hb dX7_rota_183 rfl (lv_at hl 6 rfl) ?_
                            refine q_iald (j := c) (v := gb c) hx hb hK hP 1 rfl (by omega) (by decide) (rfl) dX7_rota_184 ?_
                            refine lv_goto (tgt := 190) hx hb dX7_rota_185 (by decide) ?_
                            have hP9 := hP.sub (ws' := [(m0, .inr (7, [.ref ml, .ref mm, .ref mit, .ref ms, .int (st), .ref mt, .int (nI tn), .int (fk), .int (fp), .int (av), .int (sv), .int (ov), .int (vv), .ref nw, .ref dr, .ref tr, .ref pa, .int (nI ac), .ref ig, .ref kx, .ref be, .ref tc, .int (nI td)])), (nw, .inl (cy 0, 29, .inl f)), (tr, .inl (cy 0, 29, .inl gt2)), (be, .inl (cy 0, 6, .inl gb))]) [2, 0, 3, 1] rfl
                            have hD9 := hD.sub (ws' := [(m0, .inr (7, [.ref ml, .ref mm, .ref mit, .ref ms, .int (st), .ref mt, .int (nI tn), .int (fk), .int (fp), .int (av), .int (sv), .int (ov), .int (vv), .ref nw, .ref dr, .ref tr, .ref pa, .int (nI ac), .ref ig, .ref kx, .ref be, .ref tc, .int (nI td)])), (nw, .inl (cy 0, 29, .inl f)), (tr, .inl (cy 0, 29, .inl gt2)), (be, .inl (cy 0, 6, .inl gb))]) [2, 0, 3, 1] (by decide) rfl
                            exact q_wiret (v := gb c) hx hb hr hlocks dX7_rota_190 hP9 hD9 hS (⟨_, _, by simp only [oRota, if_pos b2, if_pos b4, if_pos b6, if_pos (ro_c c hc hv4).1, if_pos (ro_c c hc hv4).2, q_cl (by omega : n1 < 2147483648), q_cl (by omega : c < 2147483648), ← hres]; exact hf87_4 hpos c hc, rfl⟩)
                          · have _ := b32
                            refine lv_if_eq (tgt := 188) hx hb dX7_rota_176 (by decide) (fun _ => ?_) (fun c9 => absurd (by decide) c9)
                            refine lv_ldc (v := (-1000000)) hx hb hown (hts _ mX7_rota_3) dX7_rota_188 ?_
                            have hP9 := hP.sub (ws' := [(m0, .inr (7, [.ref ml, .ref mm, .ref mit, .ref ms, .int (st), .ref mt, .int (nI tn), .int (fk), .int (fp), .int (av), .int (sv), .int (ov), .int (vv), .ref nw, .ref dr, .ref tr, .ref pa, .int (nI ac), .ref ig, .ref kx, .ref be, .ref tc, .int (nI td)])), (nw, .inl (cy 0, 29, .inl f)), (tr, .inl (cy 0, 29, .inl gt2)), (be, .inl (cy 0, 6, .inl gb))]) [2, 0, 3, 1] rfl
                            have hD9 := hD.sub (ws' := [(m0, .inr (7, [.ref ml, .ref mm, .ref mit, .ref ms, .int (st), .ref mt, .int (nI tn), .int (fk), .int (fp), .int (av), .int (sv), .int (ov), .int (vv), .ref nw, .ref dr, .ref tr, .ref pa, .int (nI ac), .ref ig, .ref kx, .ref be, .ref tc, .int (nI td)])), (nw, .inl (cy 0, 29, .inl f)), (tr, .inl (cy 0, 29, .inl gt2)), (be, .inl (cy 0, 6, .inl gb))]) [2, 0, 3, 1] (by decide) rfl
                            exact q_wiret (v := (-1000000)) hx hb hr hlocks dX7_rota_190 hP9 hD9 hS (⟨_, _, by simp only [oRota, if_pos b2, if_pos b4, if_pos b6, if_neg (ro_ge hk2 c30 b32)], rfl⟩)
                        · refine lv_iload_n hx hb dX7_rota_167 rfl (lv_at hl 1 rfl) ?_
                          refine lv_goto (tgt := 190) hx hb dX7_rota_168 (by decide) ?_
                          have hP9 := hP.sub (ws' := [(m0, .inr (7, [.ref ml, .ref mm, .ref mit, .ref ms, .int (st), .ref mt, .int (nI tn), .int (fk), .int (fp), .int (av), .int (sv), .int (ov), .int (vv), .ref nw, .ref dr, .ref tr, .ref pa, .int (nI ac), .ref ig, .ref kx, .ref be, .ref tc, .int (nI td)])), (nw, .inl (cy 0, 29, .inl f)), (tr, .inl (cy 0, 29, .inl gt2)), (be, .inl (cy 0, 6, .inl gb))]) [2, 0, 3, 1] rfl
                          have hD9 := hD.sub (ws' := [(m0, .inr (7, [.ref ml, .ref mm, .ref mit, .ref ms, .int (st), .ref mt, .int (nI tn), .int (fk), .int (fp), .int (av), .int (sv), .int (ov), .int (vv), .ref nw, .ref dr, .ref tr, .ref pa, .int (nI ac), .ref ig, .ref kx, .ref be, .ref tc, .int (nI td)])), (nw, .inl (cy 0, 29, .inl f)), (tr, .inl (cy 0, 29, .inl gt2)), (be, .inl (cy 0, 6, .inl gb))]) [2, 0, 3, 1] (by decide) rfl
                          exact q_wiret (v := moM M1) hx hb hr hlocks dX7_rota_190 hP9 hD9 hS (⟨_, _, by simp only [oRota, if_pos b2, if_pos b4, if_pos b6, if_pos (ro_m1 c30 (w 4)).1, if_neg (ro_m1 c30 (w 4)).2, q_cl (by omega : n1 < 2147483648), ← hres]; exact moM_m hpos, rfl⟩)
              exact L87_57 (4096 + 1) 0 (by omega) (by omega) (fun _ => 0) 0 (fun _ => 0) ga fb (by rw [← hc4]; exact hf47_0) (fun c hc => by have := hvc c hc; omega) (Nat.zero_le _) rfl (fun q => absurd q (Nat.lt_irrefl 0)) (Nat.zero_le _) H locs hP hD hS ls (q_lset (lv_sub (l' := [(0, .ref m0), (1, .int (nI n1)), (2, .int (k)), (3, .int ((-1000000)))]) hl [2, 3, 4, 1] rfl) (q_c1 (f := fun z3 => ([(0, .ref m0), (1, .int (nI n1)), (2, .int (k)), (3, .int (z3))] : List (Nat × Value))) (show ((-1000000) : Int32) = moM 0 from rfl)))
            · refine lv_aload_n hx hb dX7_rota_57 rfl (lv_at hl 0 rfl) ?_
              refine va_get (D := D) (ci := 7) (v := .ref tr) (C := RX7) (T := TX7) (N := 23) hx hb hts nX7_rota_0 hown hK.1 hP 0 rfl rfl 15 (by decide) (hts _ mX7_rota_2) (fun _ h9 => h9) rfl dX7_rota_58 ?_
              refine lv_iconst (v := nI 5) hx hb dX7_rota_61 (by decide) ?_
              refine lv_iconst (v := nI 4) hx hb dX7_rota_62 (by decide) ?_
              refine lv_iload_n hx hb dX7_rota_63 rfl (lv_at hl 3 rfl) ?_
              refine lv_imul hx hb dX7_rota_64 ?_
              refine q_top (y := nI (4 * c1)) (pk_mul _ _) ?_
              refine lv_iadd hx hb dX7_rota_65 ?_
              refine q_top (y := nI (5 + (4 * c1))) (nI_add _ _) ?_
              refine lv_iconst (v := nI 3) hx hb dX7_rota_66 (by decide) ?_
              refine lv_iadd hx hb dX7_rota_67 ?_
              refine q_top (y := nI ((5 + (4 * c1)) + 3)) (nI_add _ _) ?_
              refine lv_iconst (v := nI 0) hx hb dX7_rota_68 (by decide) ?_
              refine q_iast (j := ((5 + (4 * c1)) + 3)) hx hb hK hP hD hS 2 rfl (by omega) (by decide) dX7_rota_69 (fun H locs hP hD hS => ?_)
              have hP : va_P D vwCl [(m0, .inr (7, [.ref ml, .ref mm, .ref mit, .ref ms, .int (st), .ref mt, .int (nI tn), .int (fk), .int (fp), .int (av), .int (sv), .int (ov), .int (vv), .ref nw, .ref dr, .ref tr, .ref pa, .int (nI ac), .ref ig, .ref kx, .ref be, .ref tc, .int (nI td)])), (nw, .inl (cy 0, 29, .inl f)), (tr, .inl (cy 0, 29, .inl (upd ga ((5 + (4 * c1)) + 3) (nI 0)))), (be, .inl (cy 0, 6, .inl fb))] H := hP
              have hD : va_D A [(m0, .inr (7, [.ref ml, .ref mm, .ref mit, .ref ms, .int (st), .ref mt, .int (nI tn), .int (fk), .int (fp), .int (av), .int (sv), .int (ov), .int (vv), .ref nw, .ref dr, .ref tr, .ref pa, .int (nI ac), .ref ig, .ref kx, .ref be, .ref tc, .int (nI td)])), (nw, .inl (cy 0, 29, .inl f)), (tr, .inl (cy 0, 29, .inl (upd ga ((5 + (4 * c1)) + 3) (nI 0)))), (be, .inl (cy 0, 6, .inl fb))] := hD
              refine lv_iinc (v := nI (c1 + 1)) (lv' := [(3, .int (nI (c1 + 1))), (0, .ref m0), (1, .int (nI n1)), (2, .int (k))]) hx hb dX7_rota_70 hl (k := 3) rfl (q_inc c1 1) (by decide) rfl (fun ls hl => ?_)
              refine lv_goto (tgt := 47) hx hb dX7_rota_73 (by decide) ?_
              exact ih47 (c1 + 1) (by omega) (by omega) (upd ga ((5 + (4 * c1)) + 3) (nI 0)) (mwIs_oz hf47_0) H locs hP hD hS ls (lv_sub (l' := [(0, .ref m0), (1, .int (nI n1)), (2, .int (k)), (3, .int (nI (c1 + 1)))]) hl [1, 2, 3, 0] rfl)
        have hP := hP.sub (ws' := [(m0, .inr (7, [.ref ml, .ref mm, .ref mit, .ref ms, .int (st), .ref mt, .int (nI tn), .int (fk), .int (fp), .int (av), .int (sv), .int (ov), .int (vv), .ref nw, .ref dr, .ref tr, .ref pa, .int (nI ac), .ref ig, .ref kx, .ref be, .ref tc, .int (nI td)])), (nw, .inl (cy 0, 29, .inl f)), (tr, .inl (cy 0, 29, .inl (va_cpy f gt 0 0 29))), (be, .inl (cy 0, 6, .inl fb))]) [0, 2, 3, 1] rfl
        have hD := hD.sub (ws' := [(m0, .inr (7, [.ref ml, .ref mm, .ref mit, .ref ms, .int (st), .ref mt, .int (nI tn), .int (fk), .int (fp), .int (av), .int (sv), .int (ov), .int (vv), .ref nw, .ref dr, .ref tr, .ref pa, .int (nI ac), .ref ig, .ref kx, .ref be, .ref tc, .int (nI td)])), (nw, .inl (cy 0, 29, .inl f)), (tr, .inl (cy 0, 29, .inl (va_cpy f gt 0 0 29))), (be, .inl (cy 0, 6, .inl fb))]) [0, 2, 3, 1] (by decide) rfl
        exact L47_36 ((w 4) + 1) 0 (by omega) (by omega) (va_cpy f gt 0 0 29) (mwIs_o0 (mwIs_cpy hm)) H locs hP hD hS ls (lv_sub (l' := [(0, .ref m0), (1, .int (nI n1)), (2, .int (k)), (3, .int (nI 0))]) hl [1, 2, 3, 0] rfl)
      · have _ := b6
        refine lv_if_ne (tgt := 32) hx hb dX7_rota_26 (by decide) (fun c9 => absurd (by decide) c9) (fun _ => ?_)
        refine lv_ldc (v := (-1000001)) hx hb hown (hts _ mX7_rota_5) dX7_rota_29 ?_
        have hP9 := hP
        have hD9 := hD
        exact q_wiret (v := (-1000001)) hx hb hr hlocks dX7_rota_31 hP9 hD9 hS (⟨gt, fb, by simp only [oRota, if_pos b2, if_pos b4, if_neg b6], rfl⟩)
    · have _ := b4
      refine lv_if_eq (tgt := 29) hx hb dX7_rota_17 (by decide) (fun _ => ?_) (fun c9 => absurd (by decide) c9)
      refine lv_ldc (v := (-1000001)) hx hb hown (hts _ mX7_rota_5) dX7_rota_29 ?_
      have hP9 := hP
      have hD9 := hD
      exact q_wiret (v := (-1000001)) hx hb hr hlocks dX7_rota_31 hP9 hD9 hS (⟨gt, fb, by simp only [oRota, if_pos b2, if_neg b4], rfl⟩)
  · have _ := b2
    refine lv_if_ne (tgt := 10) hx hb dX7_rota_4 (by decide) (fun c9 => absurd (by decide) c9) (fun _ => ?_)
    refine lv_ldc (v := (-1000002)) hx hb hown (hts _ mX7_rota_6) dX7_rota_7 ?_
    have hP9 := hP
    have hD9 := hD
    exact q_wiret (v := (-1000002)) hx hb hr hlocks dX7_rota_9 hP9 hD9 hS (⟨gt, fb, by simp only [oRota, if_neg b2], rfl⟩)

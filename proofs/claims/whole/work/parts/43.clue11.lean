section Q8
variable {p : Program} {l : Launch} {e : Env} {R : Room} {s : State} {m : MethodId} {args : Array Value} {below : List Frame} {meth : Method} {c : Code} {H : Heap} {locs : List Loc} {cells slots : Nat} {Q : State → Prop}
variable {pc : Nat} {ls : Array Slot} {rest : List Value}
theorem q_topL {x y : Int64} (h : x = y) (k : W p l e R s m args below meth c H locs cells slots Q (F0 m pc ls (.long y :: rest))) : W p l e R s m args below meth c H locs cells slots Q (F0 m pc ls (.long x :: rest)) := by rw [h]; exact k
end Q8
theorem q_lne0 {b : Nat} (h : 0 < b) (h2 : b < 2 ^ 63) : ¬ lN b = 0 := fun q => by
  have := (pk_lEQ (a := b) (b := 0) h2 (by decide)).mp q
  omega
/-- X behind d draws -/
def lcg (s : Nat) : Nat → Nat
  | 0 => s
  | d + 1 => lcg s d * 16807 % 2147483647
/-- CASES: by him (u 0), by another one (u 1) -/
def drT (w : Nat → Nat) (s u : Nat) : Nat → Nat
  | 0 => 0
  | d + 1 => if ¬ onl (ctLeft w (w 2 + d)) = -1000000 ∧ (decide (onl (ctLeft w (w 2 + d)) = nI (lcg s (d + 1) % max 1 (w 0))) = decide (u = 0)) then drT w s u d + 1 else drT w s u d
theorem drT_n {w : Nat → Nat} {s u d : Nat} (h : onl (ctLeft w (w 2 + d)) = -1000000) : drT w s u (d + 1) = drT w s u d := by rw [drT, if_neg (fun q => q.1 h)]
theorem drT_f {w : Nat → Nat} {s u d : Nat} (h : ¬ (decide (onl (ctLeft w (w 2 + d)) = nI (lcg s d * 16807 % 2147483647 % max 1 (w 0))) = decide (u = 0))) : drT w s u (d + 1) = drT w s u d := by rw [drT, if_neg (fun q => h q.2)]
theorem drT_y {w : Nat → Nat} {s u d : Nat} (h0 : ¬ onl (ctLeft w (w 2 + d)) = -1000000) (h : decide (onl (ctLeft w (w 2 + d)) = nI (lcg s d * 16807 % 2147483647 % max 1 (w 0))) = decide (u = 0)) : drT w s u (d + 1) = drT w s u d + 1 := by rw [drT, if_pos ⟨h0, h⟩]
def oDrawn (w : Nat → Nat) (n s y : Int32) : Int32 := if 0 < w 0 then if inW 60 n then if nI 1 ≤ s ∧ s ≤ nI 999999 then if inW 1 y then nI (drT w s.toNatClampNeg y.toNatClampNeg n.toNatClampNeg) else -1000001 else -1000001 else -1000001 else -1000002
theorem nX6_drawn_0 : ∀ w ∈ wsX60, w ∈ wsX6_drawn := by decide +kernel
theorem mX6_drawn_1 : Cond.fieldLink RX6 47 "ClueLeave" "city" "LClueLeave$City;" ∈ wsX6_drawn := by decide +kernel
theorem mX6_drawn_2 : Cond.constant RX6 233 (999999) ∈ wsX6_drawn := by decide +kernel
theorem mX6_drawn_3 : Cond.constantLong RX6 234 (16807) ∈ wsX6_drawn := by decide +kernel
theorem mX6_drawn_4 : Cond.constantLong RX6 236 (2147483647) ∈ wsX6_drawn := by decide +kernel
theorem nX6_drawn_5 : ∀ w ∈ wsX20, w ∈ wsX6_drawn := by decide +kernel
theorem mX6_drawn_6 : Cond.fieldLink RX6 196 "ClueLeave$City" "suspects" "I" ∈ wsX6_drawn := by decide +kernel
theorem mX6_drawn_7 : Cond.methodLink RX6 228 Lib.Math.max.name ∈ wsX6_drawn := by decide +kernel
theorem mX6_drawn_8 : Cond.static Lib.Math.max.name ∈ wsX6_drawn := by decide +kernel
theorem mX6_drawn_9 : Cond.initialized "java/lang/Math" ∈ wsX6_drawn := by decide +kernel
theorem mX6_drawn_10 : Cond.code Lib.Math.max.name Lib.Math.max.code 2 (some .int) ∈ wsX6_drawn := by decide +kernel
theorem mX6_drawn_11 : Cond.fieldLink RX6 130 "ClueLeave$City" "day" "I" ∈ wsX6_drawn := by decide +kernel
theorem mX6_drawn_12 : Cond.constant RX6 185 (-1000000) ∈ wsX6_drawn := by decide +kernel
theorem mX6_drawn_13 : Cond.constant RX6 66 (-1000001) ∈ wsX6_drawn := by decide +kernel
theorem mX6_drawn_14 : Cond.constant RX6 129 (-1000002) ∈ wsX6_drawn := by decide +kernel
set_option maxHeartbeats 4000000 in
set_option maxRecDepth 100000 in
theorem c_X6_drawn (l : Launch) (D : va_G) (cy : Nat → ClassId) (x0 r0 t0 q s0 k0 j0 im : Nat) (st : Int32) (h kA tA eA oA : Nat) (w : Nat → Nat) (fk ft fe fo : Nat → Int32) (hw : ctIs w fk ft fe fo) (hv : ctOk w) (n sd y : Int32) : q_Rd l yX6_drawn wsX6_drawn 6 D cy [(x0, .inr (6, [.ref r0, .ref t0, .ref q, .ref s0, .ref k0, .ref h, .ref j0, .ref im, .int (st)])), (h, .inr (2, [.int (nI (w 0)), .int (nI (w 1)), .int (nI (w 2)), .int (nI (w 4)), .int (nI (w 3)), .ref kA, .ref tA, .ref eA, .ref oA])), (kA, .inl (cy 0, 6, .inl fk)), (tA, .inl (cy 0, 6, .inl ft)), (eA, .inl (cy 0, 6, .inl fe)), (oA, .inl (cy 0, 6, .inl fo))] [.ref x0, .int (n), .int (sd), .int (y)] (fun r => r = oDrawn w n sd y) := by
  refine q_rd_of (cc := cX6_drawn) (maxL := 10) (ret := (some .int)) (by decide) rfl (Nat.le_of_ble_eq_true rfl) ?_
  intro pg en s mi args below meth cd hC hP hK ls hl
  obtain ⟨hx, hb, hr, hml, hown, hts, hlocks⟩ := hC
  have hl : lv_has ls 10 [(0, .ref x0), (1, .int (n)), (2, .int (sd)), (3, .int (y))] := hl
  obtain ⟨hv0, hv1, hv2, hv3, hv4, hvc⟩ := id hv
  refine lv_aload_n hx hb dX6_drawn_0 rfl (lv_at hl 0 rfl) ?_
  refine va_get (D := D) (ci := 6) (v := .ref h) (C := RX6) (T := TX6) (N := 9) hx hb hts nX6_drawn_0 hown hK.1 hP 0 rfl rfl 5 (by decide) (hts _ mX6_drawn_1) (fun _ h9 => h9) rfl dX6_drawn_1 ?_
  refine q_rV (As := []) (rest := []) ⟨hx, hb, hml, hown, hts⟩ (c_X2_stands l D cy h kA tA eA oA w fk ft fe fo hw hv) (cwV 0 hts gX6_drawn_X2_stands rfl rfl rfl (by decide +kernel) ⟨Nat.le_of_ble_eq_true rfl, Nat.le_of_ble_eq_true rfl⟩) hP hK [1, 2, 3, 4, 5] rfl 1 rfl rfl rfl rfl hl.1 rfl (Nat.le_of_ble_eq_true rfl) dX6_drawn_4 ⟨Nat.zero_le _, Nat.zero_le _⟩ (fun r1 hr1 => ?_)
  rcases hr1 with ⟨rfl, b2⟩ | ⟨rfl, b2⟩
  · have _ := b2
    refine lv_if_ne (tgt := 13) hx hb dX6_drawn_7 (by decide) (fun _ => ?_) (fun c9 => absurd c9 (by decide))
    refine lv_iload_n hx hb dX6_drawn_13 rfl (lv_at hl 1 rfl) ?_
    refine lv_iconst (v := nI 0) hx hb dX6_drawn_14 (by decide) ?_
    refine lv_bipush (v := nI 60) hx hb dX6_drawn_15 (by decide) ?_
    refine q_rS (As := [.int (n), .int (nI 0), .int (nI 60)]) (rest := []) ⟨hx, hb, hml, hown, hts⟩ (c_X6_isWithin l D cy n (nI 0) (nI 60)) (va_cwS 3 hts gX6_drawn_X6_isWithin rfl rfl rfl (by decide +kernel) ⟨Nat.le_of_ble_eq_true rfl, Nat.le_of_ble_eq_true rfl⟩) hP hK [] rfl rfl hl.1 rfl (Nat.le_of_ble_eq_true rfl) dX6_drawn_17 ⟨Nat.zero_le _, Nat.zero_le _⟩ (fun r3 hr3 => ?_)
    rcases hr3 with ⟨rfl, b4⟩ | ⟨rfl, b4⟩
    · have _ := b4
      refine lv_if_eq (tgt := 42) hx hb dX6_drawn_20 (by decide) (fun c9 => absurd c9 (by decide)) (fun _ => ?_)
      obtain ⟨n1, -, hn1, rfl⟩ := q_rng b4 (by decide) (by decide)
      refine lv_iload_n hx hb dX6_drawn_23 rfl (lv_at hl 2 rfl) ?_
      refine lv_iconst (v := nI 1) hx hb dX6_drawn_24 (by decide) ?_
      refine lv_ldc (v := (999999)) hx hb hown (hts _ mX6_drawn_2) dX6_drawn_25 ?_
      refine q_top (y := nI 999999) (by decide) ?_
      refine q_rS (As := [.int (sd), .int (nI 1), .int (nI 999999)]) (rest := []) ⟨hx, hb, hml, hown, hts⟩ (c_X6_isWithin l D cy sd (nI 1) (nI 999999)) (va_cwS 3 hts gX6_drawn_X6_isWithin rfl rfl rfl (by decide +kernel) ⟨Nat.le_of_ble_eq_true rfl, Nat.le_of_ble_eq_true rfl⟩) hP hK [] rfl rfl hl.1 rfl (Nat.le_of_ble_eq_true rfl) dX6_drawn_27 ⟨Nat.zero_le _, Nat.zero_le _⟩ (fun r5 hr5 => ?_)
      rcases hr5 with ⟨rfl, b6⟩ | ⟨rfl, b6⟩
      · have _ := b6
        refine lv_if_eq (tgt := 42) hx hb dX6_drawn_30 (by decide) (fun c9 => absurd c9 (by decide)) (fun _ => ?_)
        obtain ⟨s1, -, hs1, rfl⟩ := q_rng b6 (by decide) (by decide)
        refine lv_iload_n hx hb dX6_drawn_33 rfl (lv_at hl 3 rfl) ?_
        refine lv_iconst (v := nI 0) hx hb dX6_drawn_34 (by decide) ?_
        refine lv_iconst (v := nI 1) hx hb dX6_drawn_35 (by decide) ?_
        refine q_rS (As := [.int (y), .int (nI 0), .int (nI 1)]) (rest := []) ⟨hx, hb, hml, hown, hts⟩ (c_X6_isWithin l D cy y (nI 0) (nI 1)) (va_cwS 3 hts gX6_drawn_X6_isWithin rfl rfl rfl (by decide +kernel) ⟨Nat.le_of_ble_eq_true rfl, Nat.le_of_ble_eq_true rfl⟩) hP hK [] rfl rfl hl.1 rfl (Nat.le_of_ble_eq_true rfl) dX6_drawn_36 ⟨Nat.zero_le _, Nat.zero_le _⟩ (fun r7 hr7 => ?_)
        rcases hr7 with ⟨rfl, b8⟩ | ⟨rfl, b8⟩
        · have _ := b8
          refine lv_if_ne (tgt := 45) hx hb dX6_drawn_39 (by decide) (fun _ => ?_) (fun c9 => absurd c9 (by decide))
          obtain ⟨u, -, hu, rfl⟩ := q_rng b8 (by decide) (by decide)
          have hst : 0 < w 0 := b2
          refine lv_iload_n hx hb dX6_drawn_45 rfl (lv_at hl 2 rfl) ?_
          refine lv_i2l (v := lN s1) hx hb dX6_drawn_46 (nI_l (by omega)) ?_
          refine lv_lstore (lv' := [(4, .long (lN s1)), (0, .ref x0), (1, .int (nI n1)), (2, .int (nI s1)), (3, .int (nI u))]) hx hb dX6_drawn_47 hl (by decide) rfl (fun ls hl => ?_)
          refine lv_iconst (v := nI 0) hx hb dX6_drawn_49 (by decide) ?_
          refine lv_istore (lv' := [(6, .int (nI 0)), (4, .long (lN s1)), (0, .ref x0), (1, .int (nI n1)), (2, .int (nI s1)), (3, .int (nI u))]) hx hb dX6_drawn_50 hl (by decide) rfl (fun ls hl => ?_)
          refine lv_iconst (v := nI 0) hx hb dX6_drawn_52 (by decide) ?_
          refine lv_istore (lv' := [(7, .int (nI 0)), (6, .int (nI 0)), (4, .long (lN s1)), (0, .ref x0), (1, .int (nI n1)), (2, .int (nI s1)), (3, .int (nI u))]) hx hb dX6_drawn_53 hl (by decide) rfl (fun ls hl => ?_)
          have L55_42 : ∀ (fu d : Nat), d ≤ n1 → n1 < d + fu → lcg s1 d < 2147483647 → ∀ ls : Array Slot, lv_has ls 10 [(0, .ref x0), (1, .int (nI n1)), (2, .int (nI s1)), (3, .int (nI u)), (4, .long (lN (lcg s1 d))), (6, .int (nI (drT w s1 u d))), (7, .int (nI d))] → W pg l en (q_rm 6) s mi args below meth cd s.heap [] 0 0 (MQ below (vp_Si (fun r => r = oDrawn w (nI n1) (nI s1) (nI u))) args s 0 0 (fun _ => False)) (F0 mi 55 ls []) := by
            intro fu
            induction fu with
            | zero =>
              intro d h1 h2
              exact absurd h2 (by omega)
            | succ fu ih55 =>
              intro d h1_55 h2_55 hf55_0 ls hl
              refine lv_iload hx hb dX6_drawn_55 (lv_at hl 6 rfl) ?_
              refine lv_iload_n hx hb dX6_drawn_57 rfl (lv_at hl 1 rfl) ?_
              refine q_icmp_ge (tgt := 153) hx hb dX6_drawn_58 (by decide) (by omega) (by omega) (fun c9 => ?_) (fun c9 => ?_)
              · refine lv_iload hx hb dX6_drawn_153 (lv_at hl 5 rfl) ?_
                exact q_iret (v := nI (drT w s1 u d)) hx hb hr hlocks dX6_drawn_155 ((by simp only [oDrawn, if_pos b2, if_pos b4, if_pos b6, if_pos b8, q_cl (by omega : n1 < 2147483648), q_cl (by omega : s1 < 2147483648), q_cl (by omega : u < 2147483648), (by omega : d = n1)]))
              · refine lv_lload hx hb dX6_drawn_61 (lv_at hl 4 rfl) ?_
                refine lv_ldc2 (v := (16807)) hx hb hown (hts _ mX6_drawn_3) dX6_drawn_63 ?_
                refine q_topL (y := lN 16807) (by decide) ?_
                refine lv_lmul hx hb dX6_drawn_66 ?_
                refine q_topL (y := lN ((lcg s1 d) * 16807)) (lN_mul _ _) ?_
                refine lv_ldc2 (v := (2147483647)) hx hb hown (hts _ mX6_drawn_4) dX6_drawn_67 ?_
                refine q_topL (y := lN 2147483647) (by decide) ?_
                refine lv_lrem hx hb dX6_drawn_70 (q_lne0 (b := 2147483647) (by omega) (by omega)) ?_
                refine q_topL (y := lN (((lcg s1 d) * 16807) % 2147483647)) (pk_lRem (a := ((lcg s1 d) * 16807)) (b := 2147483647) (by omega) (by omega) (by omega)) ?_
                have hlc := Nat.mod_lt (lcg s1 d * 16807) (by decide : 0 < 2147483647)
                refine lv_lstore (lv' := [(4, .long (lN (((lcg s1 d) * 16807) % 2147483647))), (0, .ref x0), (1, .int (nI n1)), (2, .int (nI s1)), (3, .int (nI u)), (6, .int (nI (drT w s1 u d))), (7, .int (nI d))]) hx hb dX6_drawn_71 hl (by decide) rfl (fun ls hl => ?_)
                refine lv_lload hx hb dX6_drawn_73 (lv_at hl 0 rfl) ?_
                refine lv_iconst (v := nI 1) hx hb dX6_drawn_75 (by decide) ?_
                refine lv_aload_n hx hb dX6_drawn_76 rfl (lv_at hl 1 rfl) ?_
                refine va_get (D := D) (ci := 6) (v := .ref h) (C := RX6) (T := TX6) (N := 9) hx hb hts nX6_drawn_0 hown hK.1 hP 0 rfl rfl 5 (by decide) (hts _ mX6_drawn_1) (fun _ h9 => h9) rfl dX6_drawn_77 ?_
                refine va_get (D := D) (ci := 2) (v := .int (nI (w 0))) (C := RX2) (T := TX2) (N := 9) hx hb hts nX6_drawn_5 hown hK.1 hP 1 rfl rfl 0 (by decide) (hts _ mX6_drawn_6) (fun _ h9 => h9) rfl dX6_drawn_80 ?_
                refine va_mmax hx hb (hml.trans hl.1.symm) hown (hts _ mX6_drawn_7) (hts _ mX6_drawn_8) (hts _ mX6_drawn_9) (hts _ mX6_drawn_10) (Nat.le_of_ble_eq_true rfl) (Nat.le_of_ble_eq_true rfl) (Nat.zero_le _) (Nat.zero_le _) dX6_drawn_83 ?_
                refine q_top (y := nI (max 1 (w 0))) (q_max (by decide) (by omega)) ?_
                have hmx : max 1 (w 0) = w 0 := Nat.max_eq_right hst
                refine lv_i2l (v := lN (max 1 (w 0))) hx hb dX6_drawn_86 (nI_l (by omega)) ?_
                refine lv_lrem hx hb dX6_drawn_87 (q_lne0 (b := (max 1 (w 0))) (by omega) (by omega)) ?_
                refine q_topL (y := lN ((((lcg s1 d) * 16807) % 2147483647) % (max 1 (w 0)))) (pk_lRem (a := (((lcg s1 d) * 16807) % 2147483647)) (b := (max 1 (w 0))) (by omega) (by omega) (by omega)) ?_
                have hml2 := Nat.mod_lt ((lcg s1 d * 16807) % 2147483647) (by omega : 0 < max 1 (w 0))
                refine lv_l2i (v := nI ((((lcg s1 d) * 16807) % 2147483647) % (max 1 (w 0)))) hx hb dX6_drawn_88 (lN_i _) ?_
                refine lv_istore (lv' := [(8, .int (nI ((((lcg s1 d) * 16807) % 2147483647) % (max 1 (w 0))))), (4, .long (lN (((lcg s1 d) * 16807) % 2147483647))), (0, .ref x0), (1, .int (nI n1)), (2, .int (nI s1)), (3, .int (nI u)), (6, .int (nI (drT w s1 u d))), (7, .int (nI d))]) hx hb dX6_drawn_89 hl (by decide) rfl (fun ls hl => ?_)
                refine lv_aload_n hx hb dX6_drawn_91 rfl (lv_at hl 2 rfl) ?_
                refine va_get (D := D) (ci := 6) (v := .ref h) (C := RX6) (T := TX6) (N := 9) hx hb hts nX6_drawn_0 hown hK.1 hP 0 rfl rfl 5 (by decide) (hts _ mX6_drawn_1) (fun _ h9 => h9) rfl dX6_drawn_92 ?_
                refine lv_aload_n hx hb dX6_drawn_95 rfl (lv_at hl 2 rfl) ?_
                refine va_get (D := D) (ci := 6) (v := .ref h) (C := RX6) (T := TX6) (N := 9) hx hb hts nX6_drawn_0 hown hK.1 hP 0 rfl rfl 5 (by decide) (hts _ mX6_drawn_1) (fun _ h9 => h9) rfl dX6_drawn_96 ?_
                refine va_get (D := D) (ci := 2) (v := .int (nI (w 2))) (C := RX2) (T := TX2) (N := 9) hx hb hts nX6_drawn_5 hown hK.1 hP 1 rfl rfl 2 (by decide) (hts _ mX6_drawn_11) (fun _ h9 => h9) rfl dX6_drawn_99 ?_
                refine lv_iload hx hb dX6_drawn_102 (lv_at hl 7 rfl) ?_
                refine lv_iadd hx hb dX6_drawn_104 ?_
                refine q_top (y := nI ((w 2) + d)) (nI_add _ _) ?_
                refine q_rV (As := [.int (nI ((w 2) + d))]) (rest := []) ⟨hx, hb, hml, hown, hts⟩ (c_X2_leftOn l D cy h kA tA eA oA w fk ft fe fo hw hv ((w 2) + d) (by omega)) (cwV 1 hts gX6_drawn_X2_leftOn rfl rfl rfl (by decide +kernel) ⟨Nat.le_of_ble_eq_true rfl, Nat.le_of_ble_eq_true rfl⟩) hP hK [1, 2, 3, 4, 5] rfl 1 rfl rfl rfl rfl hl.1 rfl (Nat.le_of_ble_eq_true rfl) dX6_drawn_105 ⟨Nat.zero_le _, Nat.zero_le _⟩ (fun r10 hr10 => ?_)
                obtain rfl := hr10
                have hll := ctLeft_lt hv0 (w 2 + d)
                refine q_rS (As := [.int (nI (ctLeft w ((w 2) + d)))]) (rest := []) ⟨hx, hb, hml, hown, hts⟩ (c_X6_onlyOne l D cy (ctLeft w ((w 2) + d)) (by omega)) (va_cwS 1 hts gX6_drawn_X6_onlyOne rfl rfl rfl (by decide +kernel) ⟨Nat.le_of_ble_eq_true rfl, Nat.le_of_ble_eq_true rfl⟩) hP hK [] rfl rfl hl.1 rfl (Nat.le_of_ble_eq_true rfl) dX6_drawn_108 ⟨Nat.zero_le _, Nat.zero_le _⟩ (fun r11 hr11 => ?_)
                obtain rfl := hr11
                refine lv_istore (lv' := [(9, .int (onl (ctLeft w ((w 2) + d)))), (8, .int (nI ((((lcg s1 d) * 16807) % 2147483647) % (max 1 (w 0))))), (4, .long (lN (((lcg s1 d) * 16807) % 2147483647))), (0, .ref x0), (1, .int (nI n1)), (2, .int (nI s1)), (3, .int (nI u)), (6, .int (nI (drT w s1 u d))), (7, .int (nI d))]) hx hb dX6_drawn_111 hl (by decide) rfl (fun ls hl => ?_)
                refine lv_iload hx hb dX6_drawn_113 (lv_at hl 0 rfl) ?_
                refine lv_ldc (v := (-1000000)) hx hb hown (hts _ mX6_drawn_12) dX6_drawn_115 ?_
                refine lv_icmp_eq (tgt := 147) hx hb dX6_drawn_117 (by decide) (fun c12 => ?_) (fun c12 => ?_)
                · refine lv_iinc (v := nI (d + 1)) (lv' := [(7, .int (nI (d + 1))), (9, .int (onl (ctLeft w ((w 2) + d)))), (8, .int (nI ((((lcg s1 d) * 16807) % 2147483647) % (max 1 (w 0))))), (4, .long (lN (((lcg s1 d) * 16807) % 2147483647))), (0, .ref x0), (1, .int (nI n1)), (2, .int (nI s1)), (3, .int (nI u)), (6, .int (nI (drT w s1 u d)))]) hx hb dX6_drawn_147 hl (k := 8) rfl (q_inc d 1) (by decide) rfl (fun ls hl => ?_)
                  refine lv_goto (tgt := 55) hx hb dX6_drawn_150 (by decide) ?_
                  exact ih55 (d + 1) (by omega) (by omega) (Nat.mod_lt _ (by decide)) ls (q_lset (lv_sub (l' := [(0, .ref x0), (1, .int (nI n1)), (2, .int (nI s1)), (3, .int (nI u)), (4, .long (lN (((lcg s1 d) * 16807) % 2147483647))), (6, .int (nI (drT w s1 u d))), (7, .int (nI (d + 1)))]) hl [4, 5, 6, 7, 3, 8, 0] rfl) (q_c2 (f := fun z4 z6 => ([(0, .ref x0), (1, .int (nI n1)), (2, .int (nI s1)), (3, .int (nI u)), (4, .long (z4)), (6, .int (z6)), (7, .int (nI (d + 1)))] : List (Nat × Value))) (show (lN (((lcg s1 d) * 16807) % 2147483647) : Int64) = lN (lcg s1 (d + 1)) from rfl) (show (nI (drT w s1 u d) : Int32) = nI (drT w s1 u (d + 1)) from (congrArg nI (drT_n c12)).symm)))
                · refine lv_iload hx hb dX6_drawn_120 (lv_at hl 0 rfl) ?_
                  refine lv_iload hx hb dX6_drawn_122 (lv_at hl 1 rfl) ?_
                  refine lv_icmp_ne (tgt := 131) hx hb dX6_drawn_124 (by decide) (fun c13 => ?_) (fun c13 => ?_)
                  · refine lv_iconst (v := nI 0) hx hb dX6_drawn_131 (by decide) ?_
                    refine lv_iload_n hx hb dX6_drawn_132 rfl (lv_at hl 6 rfl) ?_
                    refine q_if_ne (tgt := 140) hx hb dX6_drawn_133 (by decide) (by omega) (fun c14 => ?_) (fun c14 => ?_)
                    · refine lv_iconst (v := nI 0) hx hb dX6_drawn_140 (by decide) ?_
                      refine lv_icmp_ne (tgt := 147) hx hb dX6_drawn_141 (by decide) (fun c9 => absurd (by decide) c9) (fun _ => ?_)
                      refine lv_iinc (v := nI ((drT w s1 u d) + 1)) (lv' := [(6, .int (nI ((drT w s1 u d) + 1))), (9, .int (onl (ctLeft w ((w 2) + d)))), (8, .int (nI ((((lcg s1 d) * 16807) % 2147483647) % (max 1 (w 0))))), (4, .long (lN (((lcg s1 d) * 16807) % 2147483647))), (0, .ref x0), (1, .int (nI n1)), (2, .int (nI s1)), (3, .int (nI u)), (7, .int (nI d))]) hx hb dX6_drawn_144 hl (k := 7) rfl (q_inc (drT w s1 u d) 1) (by decide) rfl (fun ls hl => ?_)
                      refine lv_iinc (v := nI (d + 1)) (lv' := [(7, .int (nI (d + 1))), (6, .int (nI ((drT w s1 u d) + 1))), (9, .int (onl (ctLeft w ((w 2) + d)))), (8, .int (nI ((((lcg s1 d) * 16807) % 2147483647) % (max 1 (w 0))))), (4, .long (lN (((lcg s1 d) * 16807) % 2147483647))), (0, .ref x0), (1, .int (nI n1)), (2, .int (nI s1)), (3, .int (nI u))]) hx hb dX6_drawn_147 hl (k := 8) rfl (q_inc d 1) (by decide) rfl (fun ls hl => ?_)
                      refine lv_goto (tgt := 55) hx hb dX6_drawn_150 (by decide) ?_
                      exact ih55 (d + 1) (by omega) (by omega) (Nat.mod_lt _ (by decide)) ls (q_lset (lv_sub (l' := [(0, .ref x0), (1, .int (nI n1)), (2, .int (nI s1)), (3, .int (nI u)), (4, .long (lN (((lcg s1 d) * 16807) % 2147483647))), (6, .int (nI ((drT w s1 u d) + 1))), (7, .int (nI (d + 1)))]) hl [5, 6, 7, 8, 4, 1, 0] rfl) (q_c2 (f := fun z4 z6 => ([(0, .ref x0), (1, .int (nI n1)), (2, .int (nI s1)), (3, .int (nI u)), (4, .long (z4)), (6, .int (z6)), (7, .int (nI (d + 1)))] : List (Nat × Value))) (show (lN (((lcg s1 d) * 16807) % 2147483647) : Int64) = lN (lcg s1 (d + 1)) from rfl) (show (nI ((drT w s1 u d) + 1) : Int32) = nI (drT w s1 u (d + 1)) from (congrArg nI (drT_y c12 (by rw [decide_eq_false c13, decide_eq_false (by omega : ¬ u = 0)]))).symm)))
                    · refine lv_iconst (v := nI 1) hx hb dX6_drawn_136 (by decide) ?_
                      refine lv_goto (tgt := 141) hx hb dX6_drawn_137 (by decide) ?_
                      refine lv_icmp_ne (tgt := 147) hx hb dX6_drawn_141 (by decide) (fun _ => ?_) (fun c9 => absurd c9 (by decide))
                      refine lv_iinc (v := nI (d + 1)) (lv' := [(7, .int (nI (d + 1))), (9, .int (onl (ctLeft w ((w 2) + d)))), (8, .int (nI ((((lcg s1 d) * 16807) % 2147483647) % (max 1 (w 0))))), (4, .long (lN (((lcg s1 d) * 16807) % 2147483647))), (0, .ref x0), (1, .int (nI n1)), (2, .int (nI s1)), (3, .int (nI u)), (6, .int (nI (drT w s1 u d)))]) hx hb dX6_drawn_147 hl (k := 8) rfl (q_inc d 1) (by decide) rfl (fun ls hl => ?_)
                      refine lv_goto (tgt := 55) hx hb dX6_drawn_150 (by decide) ?_
                      exact ih55 (d + 1) (by omega) (by omega) (Nat.mod_lt _ (by decide)) ls (q_lset (lv_sub (l' := [(0, .ref x0), (1, .int (nI n1)), (2, .int (nI s1)), (3, .int (nI u)), (4, .long (lN (((lcg s1 d) * 16807) % 2147483647))), (6, .int (nI (drT w s1 u d))), (7, .int (nI (d + 1)))]) hl [4, 5, 6, 7, 3, 8, 0] rfl) (q_c2 (f := fun z4 z6 => ([(0, .ref x0), (1, .int (nI n1)), (2, .int (nI s1)), (3, .int (nI u)), (4, .long (z4)), (6, .int (z6)), (7, .int (nI (d + 1)))] : List (Nat × Value))) (show (lN (((lcg s1 d) * 16807) % 2147483647) : Int64) = lN (lcg s1 (d + 1)) from rfl) (show (nI (drT w s1 u d) : Int32) = nI (drT w s1 u (d + 1)) from (congrArg nI (drT_f (by rw [decide_eq_false c13, decide_eq_true (by omega : u = 0)]; decide))).symm)))
                  · refine lv_iconst (v := nI 1) hx hb dX6_drawn_127 (by decide) ?_
                    refine lv_goto (tgt := 132) hx hb dX6_drawn_128 (by decide) ?_
                    refine lv_iload_n hx hb dX6_drawn_132 rfl (lv_at hl 6 rfl) ?_
                    refine q_if_ne (tgt := 140) hx hb dX6_drawn_133 (by decide) (by omega) (fun c15 => ?_) (fun c15 => ?_)
                    · refine lv_iconst (v := nI 0) hx hb dX6_drawn_140 (by decide) ?_
                      refine lv_icmp_ne (tgt := 147) hx hb dX6_drawn_141 (by decide) (fun _ => ?_) (fun c9 => absurd c9 (by decide))
                      refine lv_iinc (v := nI (d + 1)) (lv' := [(7, .int (nI (d + 1))), (9, .int (onl (ctLeft w ((w 2) + d)))), (8, .int (nI ((((lcg s1 d) * 16807) % 2147483647) % (max 1 (w 0))))), (4, .long (lN (((lcg s1 d) * 16807) % 2147483647))), (0, .ref x0), (1, .int (nI n1)), (2, .int (nI s1)), (3, .int (nI u)), (6, .int (nI (drT w s1 u d)))]) hx hb dX6_drawn_147 hl (k := 8) rfl (q_inc d 1) (by decide) rfl (fun ls hl => ?_)
                      refine lv_goto (tgt := 55) hx hb dX6_drawn_150 (by decide) ?_
                      exact ih55 (d + 1) (by omega) (by omega) (Nat.mod_lt _ (by decide)) ls (q_lset (lv_sub (l' := [(0, .ref x0), (1, .int (nI n1)), (2, .int (nI s1)), (3, .int (nI u)), (4, .long (lN (((lcg s1 d) * 16807) % 2147483647))), (6, .int (nI (drT w s1 u d))), (7, .int (nI (d + 1)))]) hl [4, 5, 6, 7, 3, 8, 0] rfl) (q_c2 (f := fun z4 z6 => ([(0, .ref x0), (1, .int (nI n1)), (2, .int (nI s1)), (3, .int (nI u)), (4, .long (z4)), (6, .int (z6)), (7, .int (nI (d + 1)))] : List (Nat × Value))) (show (lN (((lcg s1 d) * 16807) % 2147483647) : Int64) = lN (lcg s1 (d + 1)) from rfl) (show (nI (drT w s1 u d) : Int32) = nI (drT w s1 u (d + 1)) from (congrArg nI (drT_f (by rw [decide_eq_true c13, decide_eq_false (by omega : ¬ u = 0)]; decide))).symm)))
                    · refine lv_iconst (v := nI 1) hx hb dX6_drawn_136 (by decide) ?_
                      refine lv_goto (tgt := 141) hx hb dX6_drawn_137 (by decide) ?_
                      refine lv_icmp_ne (tgt := 147) hx hb dX6_drawn_141 (by decide) (fun c9 => absurd (by decide) c9) (fun _ => ?_)
                      refine lv_iinc (v := nI ((drT w s1 u d) + 1)) (lv' := [(6, .int (nI ((drT w s1 u d) + 1))), (9, .int (onl (ctLeft w ((w 2) + d)))), (8, .int (nI ((((lcg s1 d) * 16807) % 2147483647) % (max 1 (w 0))))), (4, .long (lN (((lcg s1 d) * 16807) % 2147483647))), (0, .ref x0), (1, .int (nI n1)), (2, .int (nI s1)), (3, .int (nI u)), (7, .int (nI d))]) hx hb dX6_drawn_144 hl (k := 7) rfl (q_inc (drT w s1 u d) 1) (by decide) rfl (fun ls hl => ?_)
                      refine lv_iinc (v := nI (d + 1)) (lv' := [(7, .int (nI (d + 1))), (6, .int (nI ((drT w s1 u d) + 1))), (9, .int (onl (ctLeft w ((w 2) + d)))), (8, .int (nI ((((lcg s1 d) * 16807) % 2147483647) % (max 1 (w 0))))), (4, .long (lN (((lcg s1 d) * 16807) % 2147483647))), (0, .ref x0), (1, .int (nI n1)), (2, .int (nI s1)), (3, .int (nI u))]) hx hb dX6_drawn_147 hl (k := 8) rfl (q_inc d 1) (by decide) rfl (fun ls hl => ?_)
                      refine lv_goto (tgt := 55) hx hb dX6_drawn_150 (by decide) ?_
                      exact ih55 (d + 1) (by omega) (by omega) (Nat.mod_lt _ (by decide)) ls (q_lset (lv_sub (l' := [(0, .ref x0), (1, .int (nI n1)), (2, .int (nI s1)), (3, .int (nI u)), (4, .long (lN (((lcg s1 d) * 16807) % 2147483647))), (6, .int (nI ((drT w s1 u d) + 1))), (7, .int (nI (d + 1)))]) hl [5, 6, 7, 8, 4, 1, 0] rfl) (q_c2 (f := fun z4 z6 => ([(0, .ref x0), (1, .int (nI n1)), (2, .int (nI s1)), (3, .int (nI u)), (4, .long (z4)), (6, .int (z6)), (7, .int (nI (d + 1)))] : List (Nat × Value))) (show (lN (((lcg s1 d) * 16807) % 2147483647) : Int64) = lN (lcg s1 (d + 1)) from rfl) (show (nI ((drT w s1 u d) + 1) : Int32) = nI (drT w s1 u (d + 1)) from (congrArg nI (drT_y c12 (by rw [decide_eq_true c13, decide_eq_true (by omega : u = 0)]))).symm)))
          exact L55_42 (n1 + 1) 0 (by omega) (by omega) (show s1 < 2147483647 by omega) ls (q_lset (lv_sub (l' := [(0, .ref x0), (1, .int (nI n1)), (2, .int (nI s1)), (3, .int (nI u)), (4, .long (lN s1)), (6, .int (nI 0)), (7, .int (nI 0))]) hl [3, 4, 5, 6, 2, 1, 0] rfl) (q_c2 (f := fun z4 z6 => ([(0, .ref x0), (1, .int (nI n1)), (2, .int (nI s1)), (3, .int (nI u)), (4, .long (z4)), (6, .int (z6)), (7, .int (nI 0))] : List (Nat × Value))) (show (lN s1 : Int64) = lN (lcg s1 0) from rfl) (show (nI 0 : Int32) = nI (drT w s1 u 0) from rfl)))
        · have _ := b8
          refine lv_if_ne (tgt := 45) hx hb dX6_drawn_39 (by decide) (fun c9 => absurd (by decide) c9) (fun _ => ?_)
          refine lv_ldc (v := (-1000001)) hx hb hown (hts _ mX6_drawn_13) dX6_drawn_42 ?_
          exact q_iret (v := (-1000001)) hx hb hr hlocks dX6_drawn_44 ((by simp only [oDrawn, if_pos b2, if_pos b4, if_pos b6, if_neg b8]))
      · have _ := b6
        refine lv_if_eq (tgt := 42) hx hb dX6_drawn_30 (by decide) (fun _ => ?_) (fun c9 => absurd (by decide) c9)
        refine lv_ldc (v := (-1000001)) hx hb hown (hts _ mX6_drawn_13) dX6_drawn_42 ?_
        exact q_iret (v := (-1000001)) hx hb hr hlocks dX6_drawn_44 ((by simp only [oDrawn, if_pos b2, if_pos b4, if_neg b6]))
    · have _ := b4
      refine lv_if_eq (tgt := 42) hx hb dX6_drawn_20 (by decide) (fun _ => ?_) (fun c9 => absurd (by decide) c9)
      refine lv_ldc (v := (-1000001)) hx hb hown (hts _ mX6_drawn_13) dX6_drawn_42 ?_
      exact q_iret (v := (-1000001)) hx hb hr hlocks dX6_drawn_44 ((by simp only [oDrawn, if_pos b2, if_neg b4]))
  · have _ := b2
    refine lv_if_ne (tgt := 13) hx hb dX6_drawn_7 (by decide) (fun c9 => absurd (by decide) c9) (fun _ => ?_)
    refine lv_ldc (v := (-1000002)) hx hb hown (hts _ mX6_drawn_14) dX6_drawn_10 ?_
    exact q_iret (v := (-1000002)) hx hb hr hlocks dX6_drawn_12 ((by simp only [oDrawn, if_neg b2]))

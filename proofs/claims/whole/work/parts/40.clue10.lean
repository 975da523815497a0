theorem ctI3_of {w : Nat → Nat} {fk ft fe fo : Nat → Int32} (h : ctIs w fk ft fe fo) : ctI3 w fk ft fe := fun c hc => ⟨(h c hc).1, (h c hc).2.1, (h c hc).2.2.1⟩
theorem roU_pos (w : Nat → Nat) (n : Nat) (o : Nat → Nat) (M : Nat) (b : Nat → Nat) : 0 < (roU w n o M b).1 := by
  unfold roU
  split
  · exact Nat.succ_pos _
  · show 0 < M
    omega
theorem roGo_ge (w : Nat → Nat) (n : Nat) : ∀ (f : Nat) (o : Nat → Nat) (M : Nat) (b : Nat → Nat), 0 < M → 0 < (roGo w n f o M b).1
  | 0, _, _, _, h => h
  | f + 1, o, M, b, h => by
    rw [roGo]
    split
    · exact roU_pos w n o M b
    · exact roGo_ge w n f _ _ _ (roU_pos w n o M b)
theorem roGo_pos {w : Nat → Nat} {n M1 : Nat} {o b b1 : Nat → Nat} (h : (M1, b1) = roGo w n 4096 o 0 b) : 0 < M1 := by
  have e : M1 = (roGo w n 4096 o 0 b).1 := by rw [← h]
  rw [e, show 4096 = 4095 + 1 from rfl, roGo]
  split
  · exact roU_pos w n o 0 b
  · exact roGo_ge w n 4095 _ _ _ (roU_pos w n o 0 b)
def oRota (w : Nat → Nat) (n k : Int32) : Int32 :=
  if 0 < w 0 then if nI 1 ≤ n ∧ n ≤ nI 14 then if (-1) ≤ k ∧ k ≤ nI 5 then if k < nI (w 4) then if 0 ≤ k then nI ((roGo w n.toNatClampNeg 4096 (fun _ => 0) 0 (fun _ => 0)).2 k.toNatClampNeg) else moC (roGo w n.toNatClampNeg 4096 (fun _ => 0) 0 (fun _ => 0)).1
  else -1000000 else -1000001 else -1000001 else -1000002
theorem ro_k {k : Int32} {n : Nat} (hn : n ≤ 6) (h : 0 ≤ k) (h2 : k < nI n) : ∃ c : Nat, c < n ∧ k = nI c := (inC_i (by omega)).mpr ⟨h, h2⟩
theorem nX6_rota_0 : ∀ w ∈ wsX60, w ∈ wsX6_rota := by decide +kernel
theorem mX6_rota_1 : Cond.fieldLink RX6 47 "ClueLeave" "city" "LClueLeave$City;" ∈ wsX6_rota := by decide +kernel
theorem nX6_rota_2 : ∀ w ∈ wsX20, w ∈ wsX6_rota := by decide +kernel
theorem mX6_rota_3 : Cond.fieldLink RX6 118 "ClueLeave$City" "clues" "I" ∈ wsX6_rota := by decide +kernel
theorem mX6_rota_4 : Cond.fieldLink RX6 51 "ClueLeave" "draft" "LClueLeave$City;" ∈ wsX6_rota := by decide +kernel
theorem mX6_rota_5 : Cond.fieldLink RX6 33 "ClueLeave" "search" "LClueLeave$RotaSearch;" ∈ wsX6_rota := by decide +kernel
theorem mX6_rota_6 : Cond.constant RX6 185 (-1000000) ∈ wsX6_rota := by decide +kernel
theorem mX6_rota_7 : Cond.constant RX6 66 (-1000001) ∈ wsX6_rota := by decide +kernel
theorem mX6_rota_8 : Cond.constant RX6 129 (-1000002) ∈ wsX6_rota := by decide +kernel
set_option maxHeartbeats 4000000 in
set_option maxRecDepth 100000 in
theorem c_X6_rota (l : Launch) (D : va_G) (cy : Nat → ClassId) (x0 r0 t0 q k0 im : Nat) (st : Int32) (h kA tA eA oA : Nat) (w : Nat → Nat) (fk ft fe fo : Nat → Int32) (hw : ctIs w fk ft fe fo) (hv : ctOk w) (j0 jk jt je jo : Nat) (y0 y1 y2 y3 y4 : Int32) (gk gt ge go : Nat → Int32) (s0 ss sl sb : Nat) (gsI glI : Nat → Option Nat) (gS gL : Nat → Nat) (hgS : ∀ i, i < 24 → gsI i = some (gS i)) (hgL : ∀ i, i < 7 → glI i = some (gL i)) (mo : Int32) (fb : Nat → Int32) (sp lf : Nat → Nat → Int32) (n k : Int32) : q_Wi l yX6_rota wsX6_rota 7 D cy ([(x0, .inr (6, [.ref r0, .ref t0, .ref q, .ref s0, .ref k0, .ref h, .ref j0, .ref im, .int (st)])), (h, .inr (2, [.int (nI (w 0)), .int (nI (w 1)), .int (nI (w 2)), .int (nI (w 4)), .int (nI (w 3)), .ref kA, .ref tA, .ref eA, .ref oA])), (kA, .inl (cy 0, 6, .inl fk)), (tA, .inl (cy 0, 6, .inl ft)), (eA, .inl (cy 0, 6, .inl fe)), (oA, .inl (cy 0, 6, .inl fo)), (j0, .inr (2, [.int (y0), .int (y1), .int (y2), .int (y3), .int (y4), .ref jk, .ref jt, .ref je, .ref jo])), (jk, .inl (cy 0, 6, .inl gk)), (jt, .inl (cy 0, 6, .inl gt)), (je, .inl (cy 0, 6, .inl ge)), (jo, .inl (cy 0, 6, .inl go)), (s0, .inr (3, [.ref ss, .ref sl, .ref sb, .int (mo)])), (ss, .inl (cy 3, 24, .inr (.inr (.inr (.inr gsI))))), (sl, .inl (cy 3, 7, .inr (.inr (.inr (.inr glI))))), (sb, .inl (cy 0, 6, .inl fb))] ++ (famI cy 24 6 gS sp ++ (famI cy 7 6 gL lf ++ []))) [.ref x0, .int (n), .int (k)] (fun r u => ∃ (mo2 z0 z1 z2 z3 z4 : Int32) (fb2 lk lt le lo : Nat → Int32) (sp2 lf2 : Nat → Nat → Int32), r = oRota w n k ∧ u = ([(x0, .inr (6, [.ref r0, .ref t0, .ref q, .ref s0, .ref k0, .ref h, .ref j0, .ref im, .int (st)])), (h, .inr (2, [.int (nI (w 0)), .int (nI (w 1)), .int (nI (w 2)), .int (nI (w 4)), .int (nI (w 3)), .ref kA, .ref tA, .ref eA, .ref oA])), (kA, .inl (cy 0, 6, .inl fk)), (tA, .inl (cy 0, 6, .inl ft)), (eA, .inl (cy 0, 6, .inl fe)), (oA, .inl (cy 0, 6, .inl fo)), (j0, .inr (2, [.int (z0), .int (z1), .int (z2), .int (z3), .int (z4), .ref jk, .ref jt, .ref je, .ref jo])), (jk, .inl (cy 0, 6, .inl lk)), (jt, .inl (cy 0, 6, .inl lt)), (je, .inl (cy 0, 6, .inl le)), (jo, .inl (cy 0, 6, .inl lo)), (s0, .inr (3, [.ref ss, .ref sl, .ref sb, .int (mo2)])), (ss, .inl (cy 3, 24, .inr (.inr (.inr (.inr gsI))))), (sl, .inl (cy 3, 7, .inr (.inr (.inr (.inr glI))))), (sb, .inl (cy 0, 6, .inl fb2))] ++ (famI cy 24 6 gS sp2 ++ (famI cy 7 6 gL lf2 ++ [])))) := by
  refine q_wi_of (cc := cX6_rota) (maxL := 3) (ret := (some .int)) (by decide) rfl (Nat.le_of_ble_eq_true rfl) ?_
  intro pg en s mi args below meth cd A hC hA hK H locs hP hD hS ls hl
  obtain ⟨hx, hb, hr, hml, hown, hts, hlocks⟩ := hC
  have hl : lv_has ls 3 [(0, .ref x0), (1, .int (n)), (2, .int (k))] := hl
  obtain ⟨hv0, hv1, hv2, hv3, hv4, hvc⟩ := id hv
  refine lv_aload_n hx hb dX6_rota_0 rfl (lv_at hl 0 rfl) ?_
  refine va_get (D := D) (ci := 6) (v := .ref h) (C := RX6) (T := TX6) (N := 9) hx hb hts nX6_rota_0 hown hK.1 hP 0 rfl rfl 5 (by decide) (hts _ mX6_rota_1) (fun _ h9 => h9) rfl dX6_rota_1 ?_
  refine q_rV (As := []) (rest := []) ⟨hx, hb, hml, hown, hts⟩ (c_X2_stands l D cy h kA tA eA oA w fk ft fe fo hw hv) (cwV 0 hts gX6_rota_X2_stands rfl rfl rfl (by decide +kernel) ⟨Nat.le_of_ble_eq_true rfl, Nat.le_of_ble_eq_true rfl⟩) hP hK [1, 2, 3, 4, 5] rfl 1 rfl rfl rfl rfl hl.1 rfl (Nat.le_of_ble_eq_true rfl) dX6_rota_4 ⟨Nat.zero_le _, Nat.zero_le _⟩ (fun r1 hr1 => ?_)
  rcases hr1 with ⟨rfl, b2⟩ | ⟨rfl, b2⟩
  · have _ := b2
    refine lv_if_ne (tgt := 13) hx hb dX6_rota_7 (by decide) (fun _ => ?_) (fun c9 => absurd c9 (by decide))
    refine lv_iload_n hx hb dX6_rota_13 rfl (lv_at hl 1 rfl) ?_
    refine lv_iconst (v := nI 1) hx hb dX6_rota_14 (by decide) ?_
    refine lv_bipush (v := nI 14) hx hb dX6_rota_15 (by decide) ?_
    refine q_rS (As := [.int (n), .int (nI 1), .int (nI 14)]) (rest := []) ⟨hx, hb, hml, hown, hts⟩ (c_X6_isWithin l D cy n (nI 1) (nI 14)) (va_cwS 3 hts gX6_rota_X6_isWithin rfl rfl rfl (by decide +kernel) ⟨Nat.le_of_ble_eq_true rfl, Nat.le_of_ble_eq_true rfl⟩) hP hK [] rfl rfl hl.1 rfl (Nat.le_of_ble_eq_true rfl) dX6_rota_17 ⟨Nat.zero_le _, Nat.zero_le _⟩ (fun r3 hr3 => ?_)
    rcases hr3 with ⟨rfl, b4⟩ | ⟨rfl, b4⟩
    · have _ := b4
      refine lv_if_eq (tgt := 32) hx hb dX6_rota_20 (by decide) (fun c9 => absurd c9 (by decide)) (fun _ => ?_)
      obtain ⟨m, hm1, hm, rfl⟩ := q_rng b4 (by decide) (by decide)
      refine lv_iload_n hx hb dX6_rota_23 rfl (lv_at hl 2 rfl) ?_
      refine lv_iconst (v := (-1)) hx hb dX6_rota_24 (by decide) ?_
      refine lv_iconst (v := nI 5) hx hb dX6_rota_25 (by decide) ?_
      refine q_rS (As := [.int (k), .int ((-1)), .int (nI 5)]) (rest := []) ⟨hx, hb, hml, hown, hts⟩ (c_X6_isWithin l D cy k (-1) (nI 5)) (va_cwS 3 hts gX6_rota_X6_isWithin rfl rfl rfl (by decide +kernel) ⟨Nat.le_of_ble_eq_true rfl, Nat.le_of_ble_eq_true rfl⟩) hP hK [] rfl rfl hl.1 rfl (Nat.le_of_ble_eq_true rfl) dX6_rota_26 ⟨Nat.zero_le _, Nat.zero_le _⟩ (fun r5 hr5 => ?_)
      rcases hr5 with ⟨rfl, b6⟩ | ⟨rfl, b6⟩
      · have _ := b6
        refine lv_if_ne (tgt := 35) hx hb dX6_rota_29 (by decide) (fun _ => ?_) (fun c9 => absurd c9 (by decide))
        refine lv_iload_n hx hb dX6_rota_35 rfl (lv_at hl 2 rfl) ?_
        refine lv_aload_n hx hb dX6_rota_36 rfl (lv_at hl 0 rfl) ?_
        refine va_get (D := D) (ci := 6) (v := .ref h) (C := RX6) (T := TX6) (N := 9) hx hb hts nX6_rota_0 hown hK.1 hP 0 rfl rfl 5 (by decide) (hts _ mX6_rota_1) (fun _ h9 => h9) rfl dX6_rota_37 ?_
        refine va_get (D := D) (ci := 2) (v := .int (nI (w 4))) (C := RX2) (T := TX2) (N := 9) hx hb hts nX6_rota_2 hown hK.1 hP 1 rfl rfl 3 (by decide) (hts _ mX6_rota_3) (fun _ h9 => h9) rfl dX6_rota_40 ?_
        refine lv_icmp_lt (tgt := 49) hx hb dX6_rota_43 (by decide) (fun c7 => ?_) (fun c7 => ?_)
        · refine lv_aload_n hx hb dX6_rota_49 rfl (lv_at hl 0 rfl) ?_
          refine va_get (D := D) (ci := 6) (v := .ref j0) (C := RX6) (T := TX6) (N := 9) hx hb hts nX6_rota_0 hown hK.1 hP 0 rfl rfl 6 (by decide) (hts _ mX6_rota_4) (fun _ h9 => h9) rfl dX6_rota_50 ?_
          refine lv_aload_n hx hb dX6_rota_53 rfl (lv_at hl 0 rfl) ?_
          refine va_get (D := D) (ci := 6) (v := .ref h) (C := RX6) (T := TX6) (N := 9) hx hb hts nX6_rota_0 hown hK.1 hP 0 rfl rfl 5 (by decide) (hts _ mX6_rota_1) (fun _ h9 => h9) rfl dX6_rota_54 ?_
          refine q_wvV (As := [.ref h]) (rest := []) (wr := ([(x0, .inr (6, [.ref r0, .ref t0, .ref q, .ref s0, .ref k0, .ref h, .ref j0, .ref im, .int (st)])), (s0, .inr (3, [.ref ss, .ref sl, .ref sb, .int (mo)])), (ss, .inl (cy 3, 24, .inr (.inr (.inr (.inr gsI))))), (sl, .inl (cy 3, 7, .inr (.inr (.inr (.inr glI))))), (sb, .inl (cy 0, 6, .inl fb))] ++ (famI cy 24 6 gS sp ++ (famI cy 7 6 gL lf ++ [])))) ⟨hx, hb, hml, hown, hts⟩ (c_X2_become l D cy j0 jk jt je jo y0 y1 y2 y3 y4 gk gt ge go h kA tA eA oA w fk ft fe fo hw hv) (cwV 1 hts gX6_rota_X2_become rfl rfl rfl (by decide +kernel) ⟨Nat.le_of_ble_eq_true rfl, Nat.le_of_ble_eq_true rfl⟩) hP hD hS hA hK [6, 7, 8, 9, 10, 1, 2, 3, 4, 5] [0, 11, 12, 13, 14, 15, 16, 17, 18, 19, 20, 21, 22, 23, 24, 25, 26, 27, 28, 29, 30, 31, 32, 33, 34, 35, 36, 37, 38, 39, 40, 41, 42, 43, 44, 45] rfl rfl (by decide) rfl (by decide) (by decide) 6 rfl rfl rfl rfl hl.1 rfl (Nat.le_of_ble_eq_true rfl) dX6_rota_57 ⟨Nat.zero_le _, Nat.zero_le _⟩ (fun u9 H locs hr8 hP hD hS => ?_)
          obtain ⟨nk1, nt1, ne1, no1, hn1, rfl⟩ := hr8
          have hP := hP.sub (ws' := ([(x0, .inr (6, [.ref r0, .ref t0, .ref q, .ref s0, .ref k0, .ref h, .ref j0, .ref im, .int (st)])), (s0, .inr (3, [.ref ss, .ref sl, .ref sb, .int (mo)])), (ss, .inl (cy 3, 24, .inr (.inr (.inr (.inr gsI))))), (sl, .inl (cy 3, 7, .inr (.inr (.inr (.inr glI))))), (sb, .inl (cy 0, 6, .inl fb)), (j0, .inr (2, [.int (nI (w 0)), .int (nI (w 1)), .int (nI (w 2)), .int (nI (w 4)), .int (nI (w 3)), .ref jk, .ref jt, .ref je, .ref jo])), (jk, .inl (cy 0, 6, .inl nk1)), (jt, .inl (cy 0, 6, .inl nt1)), (je, .inl (cy 0, 6, .inl ne1)), (jo, .inl (cy 0, 6, .inl no1)), (h, .inr (2, [.int (nI (w 0)), .int (nI (w 1)), .int (nI (w 2)), .int (nI (w 4)), .int (nI (w 3)), .ref kA, .ref tA, .ref eA, .ref oA])), (kA, .inl (cy 0, 6, .inl fk)), (tA, .inl (cy 0, 6, .inl ft)), (eA, .inl (cy 0, 6, .inl fe)), (oA, .inl (cy 0, 6, .inl fo))] ++ (famI cy 24 6 gS sp ++ (famI cy 7 6 gL lf ++ [])))) [0, 1, 2, 3, 4, 36, 37, 38, 39, 40, 41, 42, 43, 44, 45, 5, 6, 7, 8, 9, 10, 11, 12, 13, 14, 15, 16, 17, 18, 19, 20, 21, 22, 23, 24, 25, 26, 27, 28, 29, 30, 31, 32, 33, 34, 35] rfl
          have hD := hD.sub (ws' := ([(x0, .inr (6, [.ref r0, .ref t0, .ref q, .ref s0, .ref k0, .ref h, .ref j0, .ref im, .int (st)])), (s0, .inr (3, [.ref ss, .ref sl, .ref sb, .int (mo)])), (ss, .inl (cy 3, 24, .inr (.inr (.inr (.inr gsI))))), (sl, .inl (cy 3, 7, .inr (.inr (.inr (.inr glI))))), (sb, .inl (cy 0, 6, .inl fb)), (j0, .inr (2, [.int (nI (w 0)), .int (nI (w 1)), .int (nI (w 2)), .int (nI (w 4)), .int (nI (w 3)), .ref jk, .ref jt, .ref je, .ref jo])), (jk, .inl (cy 0, 6, .inl nk1)), (jt, .inl (cy 0, 6, .inl nt1)), (je, .inl (cy 0, 6, .inl ne1)), (jo, .inl (cy 0, 6, .inl no1)), (h, .inr (2, [.int (nI (w 0)), .int (nI (w 1)), .int (nI (w 2)), .int (nI (w 4)), .int (nI (w 3)), .ref kA, .ref tA, .ref eA, .ref oA])), (kA, .inl (cy 0, 6, .inl fk)), (tA, .inl (cy 0, 6, .inl ft)), (eA, .inl (cy 0, 6, .inl fe)), (oA, .inl (cy 0, 6, .inl fo))] ++ (famI cy 24 6 gS sp ++ (famI cy 7 6 gL lf ++ [])))) [0, 1, 2, 3, 4, 36, 37, 38, 39, 40, 41, 42, 43, 44, 45, 5, 6, 7, 8, 9, 10, 11, 12, 13, 14, 15, 16, 17, 18, 19, 20, 21, 22, 23, 24, 25, 26, 27, 28, 29, 30, 31, 32, 33, 34, 35] (by decide) rfl
          refine lv_aload_n hx hb dX6_rota_60 rfl (lv_at hl 0 rfl) ?_
          refine va_get (D := D) (ci := 6) (v := .ref s0) (C := RX6) (T := TX6) (N := 9) hx hb hts nX6_rota_0 hown hK.1 hP 0 rfl rfl 3 (by decide) (hts _ mX6_rota_5) (fun _ h9 => h9) rfl dX6_rota_61 ?_
          refine lv_aload_n hx hb dX6_rota_64 rfl (lv_at hl 0 rfl) ?_
          refine va_get (D := D) (ci := 6) (v := .ref j0) (C := RX6) (T := TX6) (N := 9) hx hb hts nX6_rota_0 hown hK.1 hP 0 rfl rfl 6 (by decide) (hts _ mX6_rota_4) (fun _ h9 => h9) rfl dX6_rota_65 ?_
          refine lv_iload_n hx hb dX6_rota_68 rfl (lv_at hl 1 rfl) ?_
          refine q_wvV (As := [.ref j0, .int (nI m)]) (rest := []) (wr := [(x0, .inr (6, [.ref r0, .ref t0, .ref q, .ref s0, .ref k0, .ref h, .ref j0, .ref im, .int (st)])), (h, .inr (2, [.int (nI (w 0)), .int (nI (w 1)), .int (nI (w 2)), .int (nI (w 4)), .int (nI (w 3)), .ref kA, .ref tA, .ref eA, .ref oA])), (kA, .inl (cy 0, 6, .inl fk)), (tA, .inl (cy 0, 6, .inl ft)), (eA, .inl (cy 0, 6, .inl fe)), (oA, .inl (cy 0, 6, .inl fo))]) ⟨hx, hb, hml, hown, hts⟩ (c_X3_run l D cy s0 ss sl sb gsI glI gS gL hgS hgL mo fb sp lf j0 jk jt je jo w nk1 nt1 ne1 (ctI3_of hn1) hv (ctO w) no1 (fun c hc => (hn1 c hc).2.2.2) (fun c hc => (hvc c hc).2.2.2.2.2.2) m (by omega) (by omega) (fun _ => 0)) (cwV 2 hts gX6_rota_X3_run rfl rfl rfl (by decide +kernel) ⟨Nat.le_of_ble_eq_true rfl, Nat.le_of_ble_eq_true rfl⟩) hP hD hS hA hK [1, 2, 3, 4, 5, 6, 7, 8, 9, 15, 16, 17, 18, 19, 20, 21, 22, 23, 24, 25, 26, 27, 28, 29, 30, 31, 32, 33, 34, 35, 36, 37, 38, 39, 40, 41, 42, 43, 44, 45] [0, 10, 11, 12, 13, 14] rfl rfl (by decide) rfl (by decide) (by decide) 1 rfl rfl rfl rfl hl.1 rfl (Nat.le_of_ble_eq_true rfl) dX6_rota_69 ⟨Nat.zero_le _, Nat.zero_le _⟩ (fun u11 H locs hr10 hP hD hS => ?_)
          obtain ⟨M1, b1, fb1, fo2, sp2, lf2, hr1, hr2, hr3, rfl⟩ := hr10
          have hP : va_P D vwCl ([(x0, .inr (6, [.ref r0, .ref t0, .ref q, .ref s0, .ref k0, .ref h, .ref j0, .ref im, .int (st)])), (h, .inr (2, [.int (nI (w 0)), .int (nI (w 1)), .int (nI (w 2)), .int (nI (w 4)), .int (nI (w 3)), .ref kA, .ref tA, .ref eA, .ref oA])), (kA, .inl (cy 0, 6, .inl fk)), (tA, .inl (cy 0, 6, .inl ft)), (eA, .inl (cy 0, 6, .inl fe)), (oA, .inl (cy 0, 6, .inl fo)), (s0, .inr (3, [.ref ss, .ref sl, .ref sb, .int (moC M1)])), (ss, .inl (cy 3, 24, .inr (.inr (.inr (.inr gsI))))), (sl, .inl (cy 3, 7, .inr (.inr (.inr (.inr glI))))), (sb, .inl (cy 0, 6, .inl fb1)), (j0, .inr (2, [.int (nI (w 0)), .int (nI (w 1)), .int (nI (w 2)), .int (nI (w 4)), .int (nI (w 3)), .ref jk, .ref jt, .ref je, .ref jo])), (jk, .inl (cy 0, 6, .inl nk1)), (jt, .inl (cy 0, 6, .inl nt1)), (je, .inl (cy 0, 6, .inl ne1)), (jo, .inl (cy 0, 6, .inl fo2))] ++ (famI cy 24 6 gS sp2 ++ (famI cy 7 6 gL lf2 ++ []))) H := hP
          have hD : va_D A ([(x0, .inr (6, [.ref r0, .ref t0, .ref q, .ref s0, .ref k0, .ref h, .ref j0, .ref im, .int (st)])), (h, .inr (2, [.int (nI (w 0)), .int (nI (w 1)), .int (nI (w 2)), .int (nI (w 4)), .int (nI (w 3)), .ref kA, .ref tA, .ref eA, .ref oA])), (kA, .inl (cy 0, 6, .inl fk)), (tA, .inl (cy 0, 6, .inl ft)), (eA, .inl (cy 0, 6, .inl fe)), (oA, .inl (cy 0, 6, .inl fo)), (s0, .inr (3, [.ref ss, .ref sl, .ref sb, .int (moC M1)])), (ss, .inl (cy 3, 24, .inr (.inr (.inr (.inr gsI))))), (sl, .inl (cy 3, 7, .inr (.inr (.inr (.inr glI))))), (sb, .inl (cy 0, 6, .inl fb1)), (j0, .inr (2, [.int (nI (w 0)), .int (nI (w 1)), .int (nI (w 2)), .int (nI (w 4)), .int (nI (w 3)), .ref jk, .ref jt, .ref je, .ref jo])), (jk, .inl (cy 0, 6, .inl nk1)), (jt, .inl (cy 0, 6, .inl nt1)), (je, .inl (cy 0, 6, .inl ne1)), (jo, .inl (cy 0, 6, .inl fo2))] ++ (famI cy 24 6 gS sp2 ++ (famI cy 7 6 gL lf2 ++ []))) := hD
          refine lv_iload_n hx hb dX6_rota_72 rfl (lv_at hl 2 rfl) ?_
          refine lv_if_ge (tgt := 86) hx hb dX6_rota_73 (by decide) (fun c12 => ?_) (fun c12 => ?_)
          · obtain ⟨c, hc, rfl⟩ := ro_k hv4 c12 c7
            refine lv_aload_n hx hb dX6_rota_86 rfl (lv_at hl 0 rfl) ?_
            refine va_get (D := D) (ci := 6) (v := .ref s0) (C := RX6) (T := TX6) (N := 9) hx hb hts nX6_rota_0 hown hK.1 hP 0 rfl rfl 3 (by decide) (hts _ mX6_rota_5) (fun _ h9 => h9) rfl dX6_rota_87 ?_
            refine lv_iload_n hx hb dX6_rota_90 rfl (lv_at hl 2 rfl) ?_
            refine q_rV (As := [.int (nI c)]) (rest := []) ⟨hx, hb, hml, hown, hts⟩ (c_X3_bestOff l D cy s0 ss sl sb gsI glI gS gL hgS hgL (moC M1) fb1 sp2 lf2 c (by omega)) (cwV 1 hts gX6_rota_X3_bestOff rfl rfl rfl (by decide +kernel) ⟨Nat.le_of_ble_eq_true rfl, Nat.le_of_ble_eq_true rfl⟩) hP hK [6, 7, 8, 9, 15, 16, 17, 18, 19, 20, 21, 22, 23, 24, 25, 26, 27, 28, 29, 30, 31, 32, 33, 34, 35, 36, 37, 38, 39, 40, 41, 42, 43, 44, 45] rfl 6 rfl rfl rfl rfl hl.1 rfl (Nat.le_of_ble_eq_true rfl) dX6_rota_91 ⟨Nat.zero_le _, Nat.zero_le _⟩ (fun r13 hr13 => ?_)
            obtain rfl := hr13
            have hP9 := hP.sub (ws' := ([(x0, .inr (6, [.ref r0, .ref t0, .ref q, .ref s0, .ref k0, .ref h, .ref j0, .ref im, .int (st)])), (h, .inr (2, [.int (nI (w 0)), .int (nI (w 1)), .int (nI (w 2)), .int (nI (w 4)), .int (nI (w 3)), .ref kA, .ref tA, .ref eA, .ref oA])), (kA, .inl (cy 0, 6, .inl fk)), (tA, .inl (cy 0, 6, .inl ft)), (eA, .inl (cy 0, 6, .inl fe)), (oA, .inl (cy 0, 6, .inl fo)), (j0, .inr (2, [.int (nI (w 0)), .int (nI (w 1)), .int (nI (w 2)), .int (nI (w 4)), .int (nI (w 3)), .ref jk, .ref jt, .ref je, .ref jo])), (jk, .inl (cy 0, 6, .inl nk1)), (jt, .inl (cy 0, 6, .inl nt1)), (je, .inl (cy 0, 6, .inl ne1)), (jo, .inl (cy 0, 6, .inl fo2)), (s0, .inr (3, [.ref ss, .ref sl, .ref sb, .int (moC M1)])), (ss, .inl (cy 3, 24, .inr (.inr (.inr (.inr gsI))))), (sl, .inl (cy 3, 7, .inr (.inr (.inr (.inr glI))))), (sb, .inl (cy 0, 6, .inl fb1))] ++ (famI cy 24 6 gS sp2 ++ (famI cy 7 6 gL lf2 ++ [])))) [0, 1, 2, 3, 4, 5, 10, 11, 12, 13, 14, 6, 7, 8, 9, 15, 16, 17, 18, 19, 20, 21, 22, 23, 24, 25, 26, 27, 28, 29, 30, 31, 32, 33, 34, 35, 36, 37, 38, 39, 40, 41, 42, 43, 44, 45] rfl
            have hD9 := hD.sub (ws' := ([(x0, .inr (6, [.ref r0, .ref t0, .ref q, .ref s0, .ref k0, .ref h, .ref j0, .ref im, .int (st)])), (h, .inr (2, [.int (nI (w 0)), .int (nI (w 1)), .int (nI (w 2)), .int (nI (w 4)), .int (nI (w 3)), .ref kA, .ref tA, .ref eA, .ref oA])), (kA, .inl (cy 0, 6, .inl fk)), (tA, .inl (cy 0, 6, .inl ft)), (eA, .inl (cy 0, 6, .inl fe)), (oA, .inl (cy 0, 6, .inl fo)), (j0, .inr (2, [.int (nI (w 0)), .int (nI (w 1)), .int (nI (w 2)), .int (nI (w 4)), .int (nI (w 3)), .ref jk, .ref jt, .ref je, .ref jo])), (jk, .inl (cy 0, 6, .inl nk1)), (jt, .inl (cy 0, 6, .inl nt1)), (je, .inl (cy 0, 6, .inl ne1)), (jo, .inl (cy 0, 6, .inl fo2)), (s0, .inr (3, [.ref ss, .ref sl, .ref sb, .int (moC M1)])), (ss, .inl (cy 3, 24, .inr (.inr (.inr (.inr gsI))))), (sl, .inl (cy 3, 7, .inr (.inr (.inr (.inr glI))))), (sb, .inl (cy 0, 6, .inl fb1))] ++ (famI cy 24 6 gS sp2 ++ (famI cy 7 6 gL lf2 ++ [])))) [0, 1, 2, 3, 4, 5, 10, 11, 12, 13, 14, 6, 7, 8, 9, 15, 16, 17, 18, 19, 20, 21, 22, 23, 24, 25, 26, 27, 28, 29, 30, 31, 32, 33, 34, 35, 36, 37, 38, 39, 40, 41, 42, 43, 44, 45] (by decide) rfl
            exact q_wiret (v := fb1 c) hx hb hr hlocks dX6_rota_94 hP9 hD9 hS (⟨_, _, _, _, _, _, _, _, _, _, _, _, _, by simp only [oRota, if_pos b2, if_pos b4, if_pos b6, if_pos c7, if_pos c12, q_cl (by omega : m < 2147483648), q_cl (by omega : c < 2147483648), ← hr1]; exact hr2 (roGo_pos hr1) c hc, rfl⟩)
          · refine lv_aload_n hx hb dX6_rota_76 rfl (lv_at hl 0 rfl) ?_
            refine va_get (D := D) (ci := 6) (v := .ref s0) (C := RX6) (T := TX6) (N := 9) hx hb hts nX6_rota_0 hown hK.1 hP 0 rfl rfl 3 (by decide) (hts _ mX6_rota_5) (fun _ h9 => h9) rfl dX6_rota_77 ?_
            refine q_rV (As := []) (rest := []) ⟨hx, hb, hml, hown, hts⟩ (c_X3_mostSure l D cy s0 ss sl sb gsI glI gS gL hgS hgL (moC M1) fb1 sp2 lf2) (cwV 0 hts gX6_rota_X3_mostSure rfl rfl rfl (by decide +kernel) ⟨Nat.le_of_ble_eq_true rfl, Nat.le_of_ble_eq_true rfl⟩) hP hK [6, 7, 8, 9, 15, 16, 17, 18, 19, 20, 21, 22, 23, 24, 25, 26, 27, 28, 29, 30, 31, 32, 33, 34, 35, 36, 37, 38, 39, 40, 41, 42, 43, 44, 45] rfl 6 rfl rfl rfl rfl hl.1 rfl (Nat.le_of_ble_eq_true rfl) dX6_rota_80 ⟨Nat.zero_le _, Nat.zero_le _⟩ (fun r14 hr14 => ?_)
            obtain rfl := hr14
            refine lv_goto (tgt := 94) hx hb dX6_rota_83 (by decide) ?_
            have hP9 := hP.sub (ws' := ([(x0, .inr (6, [.ref r0, .ref t0, .ref q, .ref s0, .ref k0, .ref h, .ref j0, .ref im, .int (st)])), (h, .inr (2, [.int (nI (w 0)), .int (nI (w 1)), .int (nI (w 2)), .int (nI (w 4)), .int (nI (w 3)), .ref kA, .ref tA, .ref eA, .ref oA])), (kA, .inl (cy 0, 6, .inl fk)), (tA, .inl (cy 0, 6, .inl ft)), (eA, .inl (cy 0, 6, .inl fe)), (oA, .inl (cy 0, 6, .inl fo)), (j0, .inr (2, [.int (nI (w 0)), .int (nI (w 1)), .int (nI (w 2)), .int (nI (w 4)), .int (nI (w 3)), .ref jk, .ref jt, .ref je, .ref jo])), (jk, .inl (cy 0, 6, .inl nk1)), (jt, .inl (cy 0, 6, .inl nt1)), (je, .inl (cy 0, 6, .inl ne1)), (jo, .inl (cy 0, 6, .inl fo2)), (s0, .inr (3, [.ref ss, .ref sl, .ref sb, .int (moC M1)])), (ss, .inl (cy 3, 24, .inr (.inr (.inr (.inr gsI))))), (sl, .inl (cy 3, 7, .inr (.inr (.inr (.inr glI))))), (sb, .inl (cy 0, 6, .inl fb1))] ++ (famI cy 24 6 gS sp2 ++ (famI cy 7 6 gL lf2 ++ [])))) [0, 1, 2, 3, 4, 5, 10, 11, 12, 13, 14, 6, 7, 8, 9, 15, 16, 17, 18, 19, 20, 21, 22, 23, 24, 25, 26, 27, 28, 29, 30, 31, 32, 33, 34, 35, 36, 37, 38, 39, 40, 41, 42, 43, 44, 45] rfl
            have hD9 := hD.sub (ws' := ([(x0, .inr (6, [.ref r0, .ref t0, .ref q, .ref s0, .ref k0, .ref h, .ref j0, .ref im, .int (st)])), (h, .inr (2, [.int (nI (w 0)), .int (nI (w 1)), .int (nI (w 2)), .int (nI (w 4)), .int (nI (w 3)), .ref kA, .ref tA, .ref eA, .ref oA])), (kA, .inl (cy 0, 6, .inl fk)), (tA, .inl (cy 0, 6, .inl ft)), (eA, .inl (cy 0, 6, .inl fe)), (oA, .inl (cy 0, 6, .inl fo)), (j0, .inr (2, [.int (nI (w 0)), .int (nI (w 1)), .int (nI (w 2)), .int (nI (w 4)), .int (nI (w 3)), .ref jk, .ref jt, .ref je, .ref jo])), (jk, .inl (cy 0, 6, .inl nk1)), (jt, .inl (cy 0, 6, .inl nt1)), (je, .inl (cy 0, 6, .inl ne1)), (jo, .inl (cy 0, 6, .inl fo2)), (s0, .inr (3, [.ref ss, .ref sl, .ref sb, .int (moC M1)])), (ss, .inl (cy 3, 24, .inr (.inr (.inr (.inr gsI))))), (sl, .inl (cy 3, 7, .inr (.inr (.inr (.inr glI))))), (sb, .inl (cy 0, 6, .inl fb1))] ++ (famI cy 24 6 gS sp2 ++ (famI cy 7 6 gL lf2 ++ [])))) [0, 1, 2, 3, 4, 5, 10, 11, 12, 13, 14, 6, 7, 8, 9, 15, 16, 17, 18, 19, 20, 21, 22, 23, 24, 25, 26, 27, 28, 29, 30, 31, 32, 33, 34, 35, 36, 37, 38, 39, 40, 41, 42, 43, 44, 45] (by decide) rfl
            exact q_wiret (v := moC M1) hx hb hr hlocks dX6_rota_94 hP9 hD9 hS (⟨_, _, _, _, _, _, _, _, _, _, _, _, _, by simp only [oRota, if_pos b2, if_pos b4, if_pos b6, if_pos c7, if_neg c12, q_cl (by omega : m < 2147483648), ← hr1], rfl⟩)
        · refine lv_ldc (v := (-1000000)) hx hb hown (hts _ mX6_rota_6) dX6_rota_46 ?_
          have hP9 := hP
          have hD9 := hD
          exact q_wiret (v := (-1000000)) hx hb hr hlocks dX6_rota_48 hP9 hD9 hS (⟨mo, y0, y1, y2, y3, y4, fb, gk, gt, ge, go, sp, lf, by simp only [oRota, if_pos b2, if_pos b4, if_pos b6, if_neg c7], rfl⟩)
      · have _ := b6
        refine lv_if_ne (tgt := 35) hx hb dX6_rota_29 (by decide) (fun c9 => absurd (by decide) c9) (fun _ => ?_)
        refine lv_ldc (v := (-1000001)) hx hb hown (hts _ mX6_rota_7) dX6_rota_32 ?_
        have hP9 := hP
        have hD9 := hD
        exact q_wiret (v := (-1000001)) hx hb hr hlocks dX6_rota_34 hP9 hD9 hS (⟨mo, y0, y1, y2, y3, y4, fb, gk, gt, ge, go, sp, lf, by simp only [oRota, if_pos b2, if_pos b4, if_neg b6], rfl⟩)
    · have _ := b4
      refine lv_if_eq (tgt := 32) hx hb dX6_rota_20 (by decide) (fun _ => ?_) (fun c9 => absurd (by decide) c9)
      refine lv_ldc (v := (-1000001)) hx hb hown (hts _ mX6_rota_7) dX6_rota_32 ?_
      have hP9 := hP
      have hD9 := hD
      exact q_wiret (v := (-1000001)) hx hb hr hlocks dX6_rota_34 hP9 hD9 hS (⟨mo, y0, y1, y2, y3, y4, fb, gk, gt, ge, go, sp, lf, by simp only [oRota, if_pos b2, if_neg b4], rfl⟩)
  · have _ := b2
    refine lv_if_ne (tgt := 13) hx hb dX6_rota_7 (by decide) (fun c9 => absurd (by decide) c9) (fun _ => ?_)
    refine lv_ldc (v := (-1000002)) hx hb hown (hts _ mX6_rota_8) dX6_rota_10 ?_
    have hP9 := hP
    have hD9 := hD
    exact q_wiret (v := (-1000002)) hx hb hr hlocks dX6_rota_12 hP9 hD9 hS (⟨mo, y0, y1, y2, y3, y4, fb, gk, gt, ge, go, sp, lf, by simp only [oRota, if_neg b2], rfl⟩)
